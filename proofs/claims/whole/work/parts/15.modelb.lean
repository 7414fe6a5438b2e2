theorem fwX5_areNear_45 : Cond.fieldLink RX5 45 "MaskPartsModel" "near" "[J" ∈ wsX5_areNear := by decide +kernel
set_option maxRecDepth 20000 in
theorem iwX5_areNear_X5 : ∀ w ∈ wsX50, w ∈ wsX5_areNear := by decide +kernel
abbrev QX5_areNear (dC : Nat → ClassId) (dI : Nat → Nat → Nat) (cI cJ cZ : ClassId) (q : Nat → Nat) (sz : Nat) (kc : Int32) (kd : Int32) (kn : Int32) (kp : Int32) (ka : Int32) (kt : Int32) (ku : Int32) (kr : Int32) (cn : (Nat → Int32)) (xs : (Nat → Int32)) (ys : (Nat → Int32)) (x2 : (Nat → Int32)) (y2 : (Nat → Int32)) (my : (Nat → Int32)) (tl : (Nat → Int32)) (po : (Nat → Int32)) (so : (Nat → Int32)) (st : (Nat → Int32)) (nr : (Nat → Int64)) (co : (Nat → Int32)) (rg : (Nat → Int32)) (re : (Nat → Int64)) (K : Int32 → Prop) : Array Value → State → Outcome → State → Prop := va_Qi (fun (r : Int32) (u : Unit) => K r) (fun (u : Unit) t => va_P (dC, dI) vwCl (WM q cI cJ cZ kc kd kn kp ka kt ku kr cn xs ys x2 y2 my tl po so st nr co rg re) t.heap) (AF q 15 sz)
def wX5_areNear (nr : (Nat → Int64)) (v1 : Int32) (v2 : Int32) (K : Int32 → Prop) : Prop := (vp_in v1 40 ∧ ((¬ (lg_cmp (((((nr v1.toNatClampNeg) : Int64) >>> (v2.toInt64 &&& 63)) &&& 1)) 1) = 0 → K 0 ) ∧ ((lg_cmp (((((nr v1.toNatClampNeg) : Int64) >>> (v2.toInt64 &&& 63)) &&& 1)) 1) = 0 → K 1 )))
set_option maxHeartbeats 4000000 in
set_option maxRecDepth 100000 in
theorem ktX5_areNear (l : Launch) (dC : Nat → ClassId) (dI : Nat → Nat → Nat) (q : Nat → Nat) (cI cJ cZ : ClassId) (sz : Nat) (kc : Int32) (kd : Int32) (kn : Int32) (kp : Int32) (ka : Int32) (kt : Int32) (ku : Int32) (kr : Int32) (cn : (Nat → Int32)) (xs : (Nat → Int32)) (ys : (Nat → Int32)) (x2 : (Nat → Int32)) (y2 : (Nat → Int32)) (my : (Nat → Int32)) (tl : (Nat → Int32)) (po : (Nat → Int32)) (so : (Nat → Int32)) (st : (Nat → Int32)) (nr : (Nat → Int64)) (co : (Nat → Int32)) (rg : (Nat → Int32)) (re : (Nat → Int64)) (v1 : Int32) (v2 : Int32) {K : Int32 → Prop} (h : wX5_areNear nr v1 v2 K) : Met l yX5_areNear wsX5_areNear { frames := 0, cells := 0, slots := 0, locals := 0 } (va_Pc [.ref (q 0), .int v1, .int v2] (wd dC dI cI cJ cZ q 15 sz (WM q cI cJ cZ kc kd kn kp ka kt ku kr cn xs ys x2 y2 my tl po so st nr co rg re))) (QX5_areNear dC dI cI cJ cZ q sz kc kd kn kp ka kt ku kr cn xs ys x2 y2 my tl po so st nr co rg re K) 0 0 (AF q 15 sz) := by
  refine met_of [.ref (q 0), .int v1, .int v2] (by decide +kernel) rfl (Nat.le_of_ble_eq_true rfl) ?_
  intro p e s m below meth c ls hsz C hK ha hN hl hP
  subst hsz
  obtain ⟨hx, hb, hr, hml, hown, hts, hlk⟩ := id C
  have hl : lv_has ls 3 [(0, .ref (q 0)), (1, .int v1), (2, .int v2)] := hl
  refine w_go (Pw := fun H => va_P (dC, dI) vwCl (WM q cI cJ cZ kc kd kn kp ka kt ku kr cn xs ys x2 y2 my tl po so st nr co rg re) H) (A := AF q 15 s.heap.size) (fun H locs hP hS => ?_) hP
  unfold wX5_areNear at h
  refine lv_aload_n hx hb dX5_areNear_0 rfl (lv_at hl 0 rfl) ?_
  refine va_get (D := (dC, dI)) (ci := 5) (v := .ref (q 11)) (C := RX5) (T := TX5) (N := 22) hx hb hts iwX5_areNear_X5 hown hK hP 0 rfl rfl 14 (by decide) (hts _ fwX5_areNear_45) (fun _ h9 => h9) rfl dX5_areNear_1 ?_
  refine lv_iload_n hx hb dX5_areNear_4 rfl (lv_at hl 1 rfl) ?_
  obtain ⟨b1, h⟩ := h
  refine va_lald (D := (dC, dI)) hx hb hK hP 11 1 rfl rfl b1 dX5_areNear_5 ?_
  refine lv_iload_n hx hb dX5_areNear_6 rfl (lv_at hl 2 rfl) ?_
  refine lv_lshr hx hb dX5_areNear_7 rfl ?_
  refine lv_lconst (v := 1) hx hb dX5_areNear_8 (by decide) ?_
  refine lv_land hx hb dX5_areNear_9 ?_
  refine lv_lconst (v := 1) hx hb dX5_areNear_10 (by decide) ?_
  refine W.lcmp hx hb dX5_areNear_11 ?_
  refine lv_if_ne (tgt := 19) hx hb dX5_areNear_12 (by decide) (fun c2 => ?_) (fun c2 => ?_)
  · have h := h.1 c2
    refine lv_iconst (v := 0) hx hb dX5_areNear_19 (by decide) ?_
    exact rt_z () hx hb hr hlk (by decide) h (fun t ht => by rw [ht]; exact hP) hS dX5_areNear_20
  · have h := h.2 c2
    refine lv_iconst (v := 1) hx hb dX5_areNear_15 (by decide) ?_
    refine lv_goto (tgt := 20) hx hb dX5_areNear_16 (by decide) ?_
    exact rt_z () hx hb hr hlk (by decide) h (fun t ht => by rw [ht]; exact hP) hS dX5_areNear_20

theorem fwX5_part_61 : Cond.fieldLink RX5 61 "MaskPartsModel" "code" "I" ∈ wsX5_part := by decide +kernel
set_option maxRecDepth 20000 in
theorem iwX5_part_X5 : ∀ w ∈ wsX50, w ∈ wsX5_part := by decide +kernel
theorem fwX5_part_36 : Cond.fieldLink RX5 36 "MaskPartsModel" "partOf" "[I" ∈ wsX5_part := by decide +kernel
abbrev QX5_part (dC : Nat → ClassId) (dI : Nat → Nat → Nat) (cI cJ cZ : ClassId) (q : Nat → Nat) (sz : Nat) (kd : Int32) (kn : Int32) (ka : Int32) (kt : Int32) (ku : Int32) (kr : Int32) (cn : (Nat → Int32)) (xs : (Nat → Int32)) (ys : (Nat → Int32)) (x2 : (Nat → Int32)) (y2 : (Nat → Int32)) (my : (Nat → Int32)) (tl : (Nat → Int32)) (co : (Nat → Int32)) (rg : (Nat → Int32)) (re : (Nat → Int64)) (K : Int32 → (Int32 × Int32 × (Nat → Int32) × (Nat → Int32) × (Nat → Int32) × (Nat → Int64)) → Prop) : Array Value → State → Outcome → State → Prop := va_Qi (fun (r : Int32) (u : Int32 × Int32 × (Nat → Int32) × (Nat → Int32) × (Nat → Int32) × (Nat → Int64)) => K r u) (fun (u : Int32 × Int32 × (Nat → Int32) × (Nat → Int32) × (Nat → Int32) × (Nat → Int64)) t => va_P (dC, dI) vwCl (WM q cI cJ cZ u.1 kd kn u.2.1 ka kt ku kr cn xs ys x2 y2 my tl u.2.2.1 u.2.2.2.1 u.2.2.2.2.1 u.2.2.2.2.2 co rg re) t.heap) (AF q 15 sz)
def bkX5_part_15 (kd : Int32) (kn : Int32) (cn : (Nat → Int32)) (xs : (Nat → Int32)) (ys : (Nat → Int32)) (x2 : (Nat → Int32)) (y2 : (Nat → Int32)) (my : (Nat → Int32)) (K : Int32 → (Int32 × Int32 × (Nat → Int32) × (Nat → Int32) × (Nat → Int32) × (Nat → Int64)) → Prop) (kc : Int32) (kp : Int32) (po : (Nat → Int32)) (so : (Nat → Int32)) (st : (Nat → Int32)) (nr : (Nat → Int64)) (v1 : Int32) (v2 : Int32) (s1 : Int32) : Prop := ((s1 ≤ 0 → (wX5_findParts kd kn cn xs ys x2 y2 my kp po so st nr  (fun (u3 : Int32 × (Nat → Int32) × (Nat → Int32) × (Nat → Int32) × (Nat → Int64)) => (vp_in (((4 * v1) + v2)) 40 ∧ K ((u3.2.1 (((4 * v1) + v2) : Int32).toNatClampNeg)) (s1, u3.1, u3.2.1, u3.2.2.1, u3.2.2.2.1, u3.2.2.2.2))))) ∧ (¬ (s1 ≤ 0) → K 0 (s1, kp, po, so, st, nr)))
set_option maxHeartbeats 4000000 in
set_option maxRecDepth 100000 in
theorem mX5_part_15 {p : Program} {l : Launch} {e : Env} {s : State} {m : MethodId} {av : Array Value} {below : List Frame} {meth : Method} {c : Code} {dC : Nat → ClassId} {dI : Nat → Nat → Nat} {cI cJ cZ : ClassId} {q : Nat → Nat} {K : Int32 → (Int32 × Int32 × (Nat → Int32) × (Nat → Int32) × (Nat → Int32) × (Nat → Int64)) → Prop} (kd : Int32) (kn : Int32) (ka : Int32) (kt : Int32) (ku : Int32) (kr : Int32) (cn : (Nat → Int32)) (xs : (Nat → Int32)) (ys : (Nat → Int32)) (x2 : (Nat → Int32)) (y2 : (Nat → Int32)) (my : (Nat → Int32)) (tl : (Nat → Int32)) (co : (Nat → Int32)) (rg : (Nat → Int32)) (re : (Nat → Int64)) (C : CX p s m av meth c cX5_part 3 (some .int) RX5 wsX5_part) (hK : va_K (dC, dI) vwCl (TY cI cJ cZ) s) (ha : apart q 15) (hN : NX s)  : ∀ (kc : Int32) (kp : Int32) (po : (Nat → Int32)) (so : (Nat → Int32)) (st : (Nat → Int32)) (nr : (Nat → Int64)) (v1 : Int32) (v2 : Int32) (s1 : Int32) (ls : Array Slot) (H : Heap) (locs : List Loc), bkX5_part_15 kd kn cn xs ys x2 y2 my K kc kp po so st nr v1 v2 s1 → lv_has ls 3 [(0, .ref (q 0)), (1, .int v1), (2, .int v2)] → va_P (dC, dI) vwCl (WM q cI cJ cZ kc kd kn kp ka kt ku kr cn xs ys x2 y2 my tl po so st nr co rg re) H → va_S (AF q 15 s.heap.size) s.heap H locs → W p l e { frames := 4, cells := 0, slots := 0, locals := 97 } s m av below meth c H locs 0 0 (MQ below (QX5_part dC dI cI cJ cZ q s.heap.size kd kn ka kt ku kr cn xs ys x2 y2 my tl co rg re K) av s 0 0 (AF q 15 s.heap.size)) (F0 m 15 ls [.int s1, .ref (q 0)]) := by
  obtain ⟨hx, hb, hr, hml, hown, hts, hlk⟩ := id C
  intro kc kp po so st nr v1 v2 s1 ls H locs h hl hP hS
  unfold bkX5_part_15 at h
  refine va_put (D := (dC, dI)) (ci := 5) (v := .int s1) (ty := .int) (C := RX5) (T := TX5) (N := 22) hx hb hts iwX5_part_X5 tyX5 tyX5_ok nmX5 hown hK hP (d_WM ha) hS 0 rfl rfl 0 (by decide) (hts _ fwX5_part_61) (fun _ h9 => h9) rfl (by decide +kernel) rfl rfl (Nat.le_of_ble_eq_true rfl) dX5_part_15 (fun H locs hP _ hS => ?_)
  have hP : va_P (dC, dI) vwCl (WM q cI cJ cZ s1 kd kn kp ka kt ku kr cn xs ys x2 y2 my tl po so st nr co rg re) H := hP
  refine lv_aload_n hx hb dX5_part_18 rfl (lv_at hl 0 rfl) ?_
  refine va_get (D := (dC, dI)) (ci := 5) (v := .int s1) (C := RX5) (T := TX5) (N := 22) hx hb hts iwX5_part_X5 hown hK hP 0 rfl rfl 0 (by decide) (hts _ fwX5_part_61) (fun _ h9 => h9) rfl dX5_part_19 ?_
  refine lv_if_le (tgt := 27) hx hb dX5_part_22 (by decide) (fun c1 => ?_) (fun c1 => ?_)
  · have h := h.1 c1
    refine lv_aload_n hx hb dX5_part_27 rfl (lv_at hl 0 rfl) ?_
    refine cl_v (va_runV (As := []) (rest := []) ⟨hx, hb, hml, hown, hts⟩ (ktX5_findParts l dC dI q cI cJ cZ H.size s1 kd kn kp ka kt ku kr cn xs ys x2 y2 my tl po so st nr co rg re  h) (cwV 0 hts gX5_part_X5_findParts rfl rfl rfl (by decide +kernel) ⟨Nat.le_of_ble_eq_true rfl, Nat.le_of_ble_eq_true rfl⟩) ⟨wd.blind, va_recv hK hP (ci := 5) (q0 := 0) rfl rfl, fun U hU hW => ⟨rfl, wd.at hP hK ha hN hU hW⟩⟩ rfl rfl hl.1 rfl (lv_room (Nat.le_of_ble_eq_true rfl)) dX5_part_28 ⟨Nat.le_of_ble_eq_true rfl, Nat.le_of_ble_eq_true rfl⟩) hS (fun u3 H locs h hP hS => ?_)
    have hP : va_P (dC, dI) vwCl (WM q cI cJ cZ s1 kd kn u3.1 ka kt ku kr cn xs ys x2 y2 my tl u3.2.1 u3.2.2.1 u3.2.2.2.1 u3.2.2.2.2 co rg re) H := hP
    refine lv_aload_n hx hb dX5_part_31 rfl (lv_at hl 0 rfl) ?_
    refine va_get (D := (dC, dI)) (ci := 5) (v := .ref (q 8)) (C := RX5) (T := TX5) (N := 22) hx hb hts iwX5_part_X5 hown hK hP 0 rfl rfl 11 (by decide) (hts _ fwX5_part_36) (fun _ h9 => h9) rfl dX5_part_32 ?_
    refine lv_iconst (v := 4) hx hb dX5_part_35 (by decide) ?_
    refine lv_iload_n hx hb dX5_part_36 rfl (lv_at hl 1 rfl) ?_
    refine lv_imul hx hb dX5_part_37 ?_
    refine lv_iload_n hx hb dX5_part_38 rfl (lv_at hl 2 rfl) ?_
    refine lv_iadd hx hb dX5_part_39 ?_
    obtain ⟨b4, h⟩ := h
    refine va_iald (D := (dC, dI)) hx hb hK hP 8 0 rfl rfl b4 dX5_part_40 ?_
    exact rt_i (s1, u3.1, u3.2.1, u3.2.2.1, u3.2.2.2.1, u3.2.2.2.2) hx hb hr hlk h (fun t ht => by rw [ht]; exact hP) hS dX5_part_41
  · have h := h.2 c1
    refine lv_iconst (v := 0) hx hb dX5_part_25 (by decide) ?_
    exact rt_i (s1, kp, po, so, st, nr) hx hb hr hlk h (fun t ht => by rw [ht]; exact hP) hS dX5_part_26
def wX5_part (kd : Int32) (kn : Int32) (cn : (Nat → Int32)) (xs : (Nat → Int32)) (ys : (Nat → Int32)) (x2 : (Nat → Int32)) (y2 : (Nat → Int32)) (my : (Nat → Int32)) (kc : Int32) (kp : Int32) (po : (Nat → Int32)) (so : (Nat → Int32)) (st : (Nat → Int32)) (nr : (Nat → Int64)) (v1 : Int32) (v2 : Int32) (K : Int32 → (Int32 × Int32 × (Nat → Int32) × (Nat → Int32) × (Nat → Int32) × (Nat → Int64)) → Prop) : Prop := (wX5_isBox kn cn v1 v2 (fun (r5 : Int32) => ((r5 = 0 → bkX5_part_15 kd kn cn xs ys x2 y2 my K kc kp po so st nr v1 v2 1) ∧ (¬ (r5 = 0) → bkX5_part_15 kd kn cn xs ys x2 y2 my K kc kp po so st nr v1 v2 0))))
set_option maxHeartbeats 4000000 in
set_option maxRecDepth 100000 in
theorem ktX5_part (l : Launch) (dC : Nat → ClassId) (dI : Nat → Nat → Nat) (q : Nat → Nat) (cI cJ cZ : ClassId) (sz : Nat) (kc : Int32) (kd : Int32) (kn : Int32) (kp : Int32) (ka : Int32) (kt : Int32) (ku : Int32) (kr : Int32) (cn : (Nat → Int32)) (xs : (Nat → Int32)) (ys : (Nat → Int32)) (x2 : (Nat → Int32)) (y2 : (Nat → Int32)) (my : (Nat → Int32)) (tl : (Nat → Int32)) (po : (Nat → Int32)) (so : (Nat → Int32)) (st : (Nat → Int32)) (nr : (Nat → Int64)) (co : (Nat → Int32)) (rg : (Nat → Int32)) (re : (Nat → Int64)) (v1 : Int32) (v2 : Int32) {K : Int32 → (Int32 × Int32 × (Nat → Int32) × (Nat → Int32) × (Nat → Int32) × (Nat → Int64)) → Prop} (h : wX5_part kd kn cn xs ys x2 y2 my kc kp po so st nr v1 v2 K) : Met l yX5_part wsX5_part { frames := 4, cells := 0, slots := 0, locals := 97 } (va_Pc [.ref (q 0), .int v1, .int v2] (wd dC dI cI cJ cZ q 15 sz (WM q cI cJ cZ kc kd kn kp ka kt ku kr cn xs ys x2 y2 my tl po so st nr co rg re))) (QX5_part dC dI cI cJ cZ q sz kd kn ka kt ku kr cn xs ys x2 y2 my tl co rg re K) 0 0 (AF q 15 sz) := by
  refine met_of [.ref (q 0), .int v1, .int v2] (by decide +kernel) rfl (Nat.le_of_ble_eq_true rfl) ?_
  intro p e s m below meth c ls hsz C hK ha hN hl hP
  subst hsz
  obtain ⟨hx, hb, hr, hml, hown, hts, hlk⟩ := id C
  have hl : lv_has ls 3 [(0, .ref (q 0)), (1, .int v1), (2, .int v2)] := hl
  refine w_go (Pw := fun H => va_P (dC, dI) vwCl (WM q cI cJ cZ kc kd kn kp ka kt ku kr cn xs ys x2 y2 my tl po so st nr co rg re) H) (A := AF q 15 s.heap.size) (fun H locs hP hS => ?_) hP
  unfold wX5_part at h
  refine lv_aload_n hx hb dX5_part_0 rfl (lv_at hl 0 rfl) ?_
  refine lv_aload_n hx hb dX5_part_1 rfl (lv_at hl 0 rfl) ?_
  refine lv_iload_n hx hb dX5_part_2 rfl (lv_at hl 1 rfl) ?_
  refine lv_iload_n hx hb dX5_part_3 rfl (lv_at hl 2 rfl) ?_
  refine cl_i (va_runV (As := [.int v1, .int v2]) (rest := [.ref (q 0)]) ⟨hx, hb, hml, hown, hts⟩ (ktX5_isBox l dC dI q cI cJ cZ H.size kc kd kn kp ka kt ku kr cn xs ys x2 y2 my tl po so st nr co rg re v1 v2 h) (cwV 2 hts gX5_part_X5_isBox rfl rfl rfl (by decide +kernel) ⟨Nat.le_of_ble_eq_true rfl, Nat.le_of_ble_eq_true rfl⟩) ⟨wd.blind, va_recv hK hP (ci := 5) (q0 := 0) rfl rfl, fun U hU hW => ⟨rfl, wd.at hP hK ha hN hU hW⟩⟩ rfl rfl hl.1 rfl (lv_room (Nat.le_of_ble_eq_true rfl)) dX5_part_4 ⟨Nat.le_of_ble_eq_true rfl, Nat.le_of_ble_eq_true rfl⟩) hS (fun r5 _ H locs h hP hS => ?_)
  have hP : va_P (dC, dI) vwCl (WM q cI cJ cZ kc kd kn kp ka kt ku kr cn xs ys x2 y2 my tl po so st nr co rg re) H := hP
  refine lv_if_eq (tgt := 14) hx hb dX5_part_7 (by decide) (fun c7 => ?_) (fun c7 => ?_)
  · have h := h.1 c7
    refine lv_iconst (v := 1) hx hb dX5_part_14 (by decide) ?_
    exact mX5_part_15 kd kn ka kt ku kr cn xs ys x2 y2 my tl co rg re C hK ha hN  kc kp po so st nr v1 v2 1 ls H locs h (lv_sub hl [0, 1, 2] rfl) hP hS
  · have h := h.2 c7
    refine lv_iconst (v := 0) hx hb dX5_part_10 (by decide) ?_
    refine lv_goto (tgt := 15) hx hb dX5_part_11 (by decide) ?_
    exact mX5_part_15 kd kn ka kt ku kr cn xs ys x2 y2 my tl co rg re C hK ha hN  kc kp po so st nr v1 v2 0 ls H locs h (lv_sub hl [0, 1, 2] rfl) hP hS

theorem fwX5_pairs_102 : Cond.fieldLink RX5 102 "MaskPartsModel" "parts" "I" ∈ wsX5_pairs := by decide +kernel
set_option maxRecDepth 20000 in
theorem iwX5_pairs_X5 : ∀ w ∈ wsX50, w ∈ wsX5_pairs := by decide +kernel
abbrev QX5_pairs (dC : Nat → ClassId) (dI : Nat → Nat → Nat) (cI cJ cZ : ClassId) (q : Nat → Nat) (sz : Nat) (kc : Int32) (kd : Int32) (kn : Int32) (kp : Int32) (ka : Int32) (kt : Int32) (ku : Int32) (kr : Int32) (cn : (Nat → Int32)) (xs : (Nat → Int32)) (ys : (Nat → Int32)) (x2 : (Nat → Int32)) (y2 : (Nat → Int32)) (my : (Nat → Int32)) (tl : (Nat → Int32)) (po : (Nat → Int32)) (so : (Nat → Int32)) (st : (Nat → Int32)) (nr : (Nat → Int64)) (co : (Nat → Int32)) (rg : (Nat → Int32)) (re : (Nat → Int64)) (K : Int32 → Prop) : Array Value → State → Outcome → State → Prop := va_Qi (fun (r : Int32) (u : Unit) => K r) (fun (u : Unit) t => va_P (dC, dI) vwCl (WM q cI cJ cZ kc kd kn kp ka kt ku kr cn xs ys x2 y2 my tl po so st nr co rg re) t.heap) (AF q 15 sz)
def bkX5_pairs_39 (kp : Int32) (nr : (Nat → Int64)) (K : Int32 → Prop) (k16 : Int32 → Int32 → Int32 → Prop) (v2 : Int32) (v3 : Int32) (s0 : Int32) (s1 : Int32) : Prop := (∀ i1 : Int32, i1 = (s0 + s1) → (∀ i2 : Int32, i2 = v3 + 1 → k16 i1 v2 i2))
set_option maxHeartbeats 4000000 in
set_option maxRecDepth 100000 in
theorem mX5_pairs_39 {p : Program} {l : Launch} {e : Env} {s : State} {m : MethodId} {av : Array Value} {below : List Frame} {meth : Method} {c : Code} {dC : Nat → ClassId} {dI : Nat → Nat → Nat} {cI cJ cZ : ClassId} {q : Nat → Nat} {K : Int32 → Prop} {k16 : Int32 → Int32 → Int32 → Prop} (kc : Int32) (kd : Int32) (kn : Int32) (kp : Int32) (ka : Int32) (kt : Int32) (ku : Int32) (kr : Int32) (cn : (Nat → Int32)) (xs : (Nat → Int32)) (ys : (Nat → Int32)) (x2 : (Nat → Int32)) (y2 : (Nat → Int32)) (my : (Nat → Int32)) (tl : (Nat → Int32)) (po : (Nat → Int32)) (so : (Nat → Int32)) (st : (Nat → Int32)) (nr : (Nat → Int64)) (co : (Nat → Int32)) (rg : (Nat → Int32)) (re : (Nat → Int64)) (C : CX p s m av meth c cX5_pairs 4 (some .int) RX5 wsX5_pairs) (hK : va_K (dC, dI) vwCl (TY cI cJ cZ) s) (ha : apart q 15) (hN : NX s) (hk16 : ∀ (v1 : Int32) (v2 : Int32) (v3 : Int32) (ls : Array Slot) (H : Heap) (locs : List Loc), k16 v1 v2 v3 → lv_has ls 4 [(0, .ref (q 0)), (1, .int v1), (2, .int v2), (3, .int v3)] → va_P (dC, dI) vwCl (WM q cI cJ cZ kc kd kn kp ka kt ku kr cn xs ys x2 y2 my tl po so st nr co rg re) H → va_S (AF q 15 s.heap.size) s.heap H locs → W p l e { frames := 1, cells := 0, slots := 0, locals := 22 } s m av below meth c H locs 0 0 (MQ below (QX5_pairs dC dI cI cJ cZ q s.heap.size kc kd kn kp ka kt ku kr cn xs ys x2 y2 my tl po so st nr co rg re K) av s 0 0 (AF q 15 s.heap.size)) (F0 m 16 ls [])) : ∀ (v2 : Int32) (v3 : Int32) (s0 : Int32) (s1 : Int32) (ls : Array Slot) (H : Heap) (locs : List Loc), bkX5_pairs_39 kp nr K k16 v2 v3 s0 s1 → lv_has ls 4 [(0, .ref (q 0)), (2, .int v2), (3, .int v3)] → va_P (dC, dI) vwCl (WM q cI cJ cZ kc kd kn kp ka kt ku kr cn xs ys x2 y2 my tl po so st nr co rg re) H → va_S (AF q 15 s.heap.size) s.heap H locs → W p l e { frames := 1, cells := 0, slots := 0, locals := 22 } s m av below meth c H locs 0 0 (MQ below (QX5_pairs dC dI cI cJ cZ q s.heap.size kc kd kn kp ka kt ku kr cn xs ys x2 y2 my tl po so st nr co rg re K) av s 0 0 (AF q 15 s.heap.size)) (F0 m 39 ls [.int s1, .int s0]) := by
  obtain ⟨hx, hb, hr, hml, hown, hts, hlk⟩ := id C
  intro v2 v3 s0 s1 ls H locs h hl hP hS
  unfold bkX5_pairs_39 at h
  refine lv_iadd hx hb dX5_pairs_39 ?_
  refine lv_topi (fun i1 ei1 => ?_)
  have h := h i1 ei1
  refine lv_istore_n (lv' := [(1, .int i1), (0, .ref (q 0)), (2, .int v2), (3, .int v3)]) hx hb dX5_pairs_40 rfl hl (by decide) rfl (fun ls hl => ?_)
  obtain ⟨i2, ei2⟩ : ∃ y : Int32, y = v3 + 1 := ⟨_, rfl⟩
  refine lv_iinc (v := i2) (lv' := [(3, .int i2), (1, .int i1), (0, .ref (q 0)), (2, .int v2)]) hx hb dX5_pairs_41 hl (k := 3) rfl (by rw [ei2]; rfl) (by decide) rfl (fun ls hl => ?_)
  have h := h i2 ei2
  refine lv_goto (tgt := 16) hx hb dX5_pairs_44 (by decide) ?_
  exact hk16 i1 v2 i2 ls H locs h (lv_sub hl [2, 1, 3, 0] rfl) hP hS
def lpX5_pairs_16 (kp : Int32) (nr : (Nat → Int64)) (K : Int32 → Prop) (k47 : Int32 → Int32 → Prop) : Nat → Int32 → Int32 → Int32 → Prop
  | 0, _, _, _ => False
  | n + 1, v1, v2, v3 => ((kp ≤ v3 → k47 v1 v2) ∧ (¬ (kp ≤ v3) → (wX5_areNear nr v2 v3 (fun (r4 : Int32) => ((r4 = 0 → bkX5_pairs_39 kp nr K (fun v1 v2 v3 => lpX5_pairs_16 kp nr K k47 n v1 v2 v3) v2 v3 v1 0) ∧ (¬ (r4 = 0) → bkX5_pairs_39 kp nr K (fun v1 v2 v3 => lpX5_pairs_16 kp nr K k47 n v1 v2 v3) v2 v3 v1 1))))))
set_option maxHeartbeats 4000000 in
set_option maxRecDepth 100000 in
theorem mX5_pairs_16 {p : Program} {l : Launch} {e : Env} {s : State} {m : MethodId} {av : Array Value} {below : List Frame} {meth : Method} {c : Code} {dC : Nat → ClassId} {dI : Nat → Nat → Nat} {cI cJ cZ : ClassId} {q : Nat → Nat} {K : Int32 → Prop} {k47 : Int32 → Int32 → Prop} (kc : Int32) (kd : Int32) (kn : Int32) (kp : Int32) (ka : Int32) (kt : Int32) (ku : Int32) (kr : Int32) (cn : (Nat → Int32)) (xs : (Nat → Int32)) (ys : (Nat → Int32)) (x2 : (Nat → Int32)) (y2 : (Nat → Int32)) (my : (Nat → Int32)) (tl : (Nat → Int32)) (po : (Nat → Int32)) (so : (Nat → Int32)) (st : (Nat → Int32)) (nr : (Nat → Int64)) (co : (Nat → Int32)) (rg : (Nat → Int32)) (re : (Nat → Int64)) (C : CX p s m av meth c cX5_pairs 4 (some .int) RX5 wsX5_pairs) (hK : va_K (dC, dI) vwCl (TY cI cJ cZ) s) (ha : apart q 15) (hN : NX s) (hk47 : ∀ (v1 : Int32) (v2 : Int32) (ls : Array Slot) (H : Heap) (locs : List Loc), k47 v1 v2 → lv_has ls 4 [(0, .ref (q 0)), (1, .int v1), (2, .int v2)] → va_P (dC, dI) vwCl (WM q cI cJ cZ kc kd kn kp ka kt ku kr cn xs ys x2 y2 my tl po so st nr co rg re) H → va_S (AF q 15 s.heap.size) s.heap H locs → W p l e { frames := 1, cells := 0, slots := 0, locals := 22 } s m av below meth c H locs 0 0 (MQ below (QX5_pairs dC dI cI cJ cZ q s.heap.size kc kd kn kp ka kt ku kr cn xs ys x2 y2 my tl po so st nr co rg re K) av s 0 0 (AF q 15 s.heap.size)) (F0 m 47 ls [])) : ∀ (n : Nat) (v1 : Int32) (v2 : Int32) (v3 : Int32) (ls : Array Slot) (H : Heap) (locs : List Loc), lpX5_pairs_16 kp nr K k47 n v1 v2 v3 → lv_has ls 4 [(0, .ref (q 0)), (1, .int v1), (2, .int v2), (3, .int v3)] → va_P (dC, dI) vwCl (WM q cI cJ cZ kc kd kn kp ka kt ku kr cn xs ys x2 y2 my tl po so st nr co rg re) H → va_S (AF q 15 s.heap.size) s.heap H locs → W p l e { frames := 1, cells := 0, slots := 0, locals := 22 } s m av below meth c H locs 0 0 (MQ below (QX5_pairs dC dI cI cJ cZ q s.heap.size kc kd kn kp ka kt ku kr cn xs ys x2 y2 my tl po so st nr co rg re K) av s 0 0 (AF q 15 s.heap.size)) (F0 m 16 ls []) := by
  obtain ⟨hx, hb, hr, hml, hown, hts, hlk⟩ := id C
  intro n
  induction n with
  | zero =>
    intro v1 v2 v3 ls H locs h
    exact h.elim
  | succ n ih =>
    intro v1 v2 v3 ls H locs h hl hP hS
    rw [lpX5_pairs_16.eq_2] at h
    refine lv_iload_n hx hb dX5_pairs_16 rfl (lv_at hl 3 rfl) ?_
    refine lv_aload_n hx hb dX5_pairs_17 rfl (lv_at hl 0 rfl) ?_
    refine va_get (D := (dC, dI)) (ci := 5) (v := .int kp) (C := RX5) (T := TX5) (N := 22) hx hb hts iwX5_pairs_X5 hown hK hP 0 rfl rfl 10 (by decide) (hts _ fwX5_pairs_102) (fun _ h9 => h9) rfl dX5_pairs_18 ?_
    refine lv_icmp_ge (tgt := 47) hx hb dX5_pairs_21 (by decide) (fun c3 => ?_) (fun c3 => ?_)
    · have h := h.1 c3
      exact hk47 v1 v2 ls H locs h (lv_sub hl [0, 1, 2] rfl) hP hS
    · have h := h.2 c3
      refine lv_iload_n hx hb dX5_pairs_24 rfl (lv_at hl 1 rfl) ?_
      refine lv_aload_n hx hb dX5_pairs_25 rfl (lv_at hl 0 rfl) ?_
      refine lv_iload_n hx hb dX5_pairs_26 rfl (lv_at hl 2 rfl) ?_
      refine lv_iload_n hx hb dX5_pairs_27 rfl (lv_at hl 3 rfl) ?_
      refine cl_i (va_runV (As := [.int v2, .int v3]) (rest := [.int v1]) ⟨hx, hb, hml, hown, hts⟩ (ktX5_areNear l dC dI q cI cJ cZ H.size kc kd kn kp ka kt ku kr cn xs ys x2 y2 my tl po so st nr co rg re v2 v3 h) (cwV 2 hts gX5_pairs_X5_areNear rfl rfl rfl (by decide +kernel) ⟨Nat.le_of_ble_eq_true rfl, Nat.le_of_ble_eq_true rfl⟩) ⟨wd.blind, va_recv hK hP (ci := 5) (q0 := 0) rfl rfl, fun U hU hW => ⟨rfl, wd.at hP hK ha hN hU hW⟩⟩ rfl rfl hl.1 rfl (lv_room (Nat.le_of_ble_eq_true rfl)) dX5_pairs_28 ⟨Nat.le_of_ble_eq_true rfl, Nat.le_of_ble_eq_true rfl⟩) hS (fun r4 _ H locs h hP hS => ?_)
      have hP : va_P (dC, dI) vwCl (WM q cI cJ cZ kc kd kn kp ka kt ku kr cn xs ys x2 y2 my tl po so st nr co rg re) H := hP
      refine lv_if_eq (tgt := 38) hx hb dX5_pairs_31 (by decide) (fun c6 => ?_) (fun c6 => ?_)
      · have h := h.1 c6
        refine lv_iconst (v := 0) hx hb dX5_pairs_38 (by decide) ?_
        exact mX5_pairs_39 kc kd kn kp ka kt ku kr cn xs ys x2 y2 my tl po so st nr co rg re C hK ha hN (fun v1 v2 v3 ls H locs h hl hP hS => ih v1 v2 v3 ls H locs h hl hP hS) v2 v3 v1 0 ls H locs h (lv_sub hl [0, 2, 3] rfl) hP hS
      · have h := h.2 c6
        refine lv_iconst (v := 1) hx hb dX5_pairs_34 (by decide) ?_
        refine lv_goto (tgt := 39) hx hb dX5_pairs_35 (by decide) ?_
        exact mX5_pairs_39 kc kd kn kp ka kt ku kr cn xs ys x2 y2 my tl po so st nr co rg re C hK ha hN (fun v1 v2 v3 ls H locs h hl hP hS => ih v1 v2 v3 ls H locs h hl hP hS) v2 v3 v1 1 ls H locs h (lv_sub hl [0, 2, 3] rfl) hP hS
def lpX5_pairs_4 (kp : Int32) (nr : (Nat → Int64)) (K : Int32 → Prop) (k53 : Int32 → Prop) : Nat → Int32 → Int32 → Prop
  | 0, _, _ => False
  | n + 1, v1, v2 => ((kp ≤ v2 → k53 v1) ∧ (¬ (kp ≤ v2) → (∀ i8 : Int32, i8 = (v2 + 1) → (∃ z16, lpX5_pairs_16 kp nr K (fun (v1 : Int32) (v2 : Int32) => (∀ i9 : Int32, i9 = v2 + 1 → lpX5_pairs_4 kp nr K k53 n v1 i9)) z16 v1 v2 i8))))
set_option maxHeartbeats 4000000 in
set_option maxRecDepth 100000 in
theorem mX5_pairs_4 {p : Program} {l : Launch} {e : Env} {s : State} {m : MethodId} {av : Array Value} {below : List Frame} {meth : Method} {c : Code} {dC : Nat → ClassId} {dI : Nat → Nat → Nat} {cI cJ cZ : ClassId} {q : Nat → Nat} {K : Int32 → Prop} {k53 : Int32 → Prop} (kc : Int32) (kd : Int32) (kn : Int32) (kp : Int32) (ka : Int32) (kt : Int32) (ku : Int32) (kr : Int32) (cn : (Nat → Int32)) (xs : (Nat → Int32)) (ys : (Nat → Int32)) (x2 : (Nat → Int32)) (y2 : (Nat → Int32)) (my : (Nat → Int32)) (tl : (Nat → Int32)) (po : (Nat → Int32)) (so : (Nat → Int32)) (st : (Nat → Int32)) (nr : (Nat → Int64)) (co : (Nat → Int32)) (rg : (Nat → Int32)) (re : (Nat → Int64)) (C : CX p s m av meth c cX5_pairs 4 (some .int) RX5 wsX5_pairs) (hK : va_K (dC, dI) vwCl (TY cI cJ cZ) s) (ha : apart q 15) (hN : NX s) (hk53 : ∀ (v1 : Int32) (ls : Array Slot) (H : Heap) (locs : List Loc), k53 v1 → lv_has ls 4 [(1, .int v1)] → va_P (dC, dI) vwCl (WM q cI cJ cZ kc kd kn kp ka kt ku kr cn xs ys x2 y2 my tl po so st nr co rg re) H → va_S (AF q 15 s.heap.size) s.heap H locs → W p l e { frames := 1, cells := 0, slots := 0, locals := 22 } s m av below meth c H locs 0 0 (MQ below (QX5_pairs dC dI cI cJ cZ q s.heap.size kc kd kn kp ka kt ku kr cn xs ys x2 y2 my tl po so st nr co rg re K) av s 0 0 (AF q 15 s.heap.size)) (F0 m 53 ls [])) : ∀ (n : Nat) (v1 : Int32) (v2 : Int32) (ls : Array Slot) (H : Heap) (locs : List Loc), lpX5_pairs_4 kp nr K k53 n v1 v2 → lv_has ls 4 [(0, .ref (q 0)), (1, .int v1), (2, .int v2)] → va_P (dC, dI) vwCl (WM q cI cJ cZ kc kd kn kp ka kt ku kr cn xs ys x2 y2 my tl po so st nr co rg re) H → va_S (AF q 15 s.heap.size) s.heap H locs → W p l e { frames := 1, cells := 0, slots := 0, locals := 22 } s m av below meth c H locs 0 0 (MQ below (QX5_pairs dC dI cI cJ cZ q s.heap.size kc kd kn kp ka kt ku kr cn xs ys x2 y2 my tl po so st nr co rg re K) av s 0 0 (AF q 15 s.heap.size)) (F0 m 4 ls []) := by
  obtain ⟨hx, hb, hr, hml, hown, hts, hlk⟩ := id C
  intro n
  induction n with
  | zero =>
    intro v1 v2 ls H locs h
    exact h.elim
  | succ n ih =>
    intro v1 v2 ls H locs h hl hP hS
    rw [lpX5_pairs_4.eq_2] at h
    refine lv_iload_n hx hb dX5_pairs_4 rfl (lv_at hl 2 rfl) ?_
    refine lv_aload_n hx hb dX5_pairs_5 rfl (lv_at hl 0 rfl) ?_
    refine va_get (D := (dC, dI)) (ci := 5) (v := .int kp) (C := RX5) (T := TX5) (N := 22) hx hb hts iwX5_pairs_X5 hown hK hP 0 rfl rfl 10 (by decide) (hts _ fwX5_pairs_102) (fun _ h9 => h9) rfl dX5_pairs_6 ?_
    refine lv_icmp_ge (tgt := 53) hx hb dX5_pairs_9 (by decide) (fun c7 => ?_) (fun c7 => ?_)
    · have h := h.1 c7
      exact hk53 v1 ls H locs h (lv_sub hl [1] rfl) hP hS
    · have h := h.2 c7
      refine lv_iload_n hx hb dX5_pairs_12 rfl (lv_at hl 2 rfl) ?_
      refine lv_iconst (v := 1) hx hb dX5_pairs_13 (by decide) ?_
      refine lv_iadd hx hb dX5_pairs_14 ?_
      refine lv_topi (fun i8 ei8 => ?_)
      have h := h i8 ei8
      refine lv_istore_n (lv' := [(3, .int i8), (0, .ref (q 0)), (1, .int v1), (2, .int v2)]) hx hb dX5_pairs_15 rfl hl (by decide) rfl (fun ls hl => ?_)
      obtain ⟨n9, h⟩ := h
      exact mX5_pairs_16 kc kd kn kp ka kt ku kr cn xs ys x2 y2 my tl po so st nr co rg re C hK ha hN (fun v1 v2 ls H locs h hl hP hS => by
          obtain ⟨i9, ei9⟩ : ∃ y : Int32, y = v2 + 1 := ⟨_, rfl⟩
          refine lv_iinc (v := i9) (lv' := [(2, .int i9), (0, .ref (q 0)), (1, .int v1)]) hx hb dX5_pairs_47 hl (k := 2) rfl (by rw [ei9]; rfl) (by decide) rfl (fun ls hl => ?_)
          have h := h i9 ei9
          refine lv_goto (tgt := 4) hx hb dX5_pairs_50 (by decide) ?_
          exact ih v1 i9 ls H locs h (lv_sub hl [1, 2, 0] rfl) hP hS) n9 v1 v2 i8 ls H locs h (lv_sub hl [1, 2, 3, 0] rfl) hP hS
def wX5_pairs (kp : Int32) (nr : (Nat → Int64))  (K : Int32 → Prop) : Prop := (∃ z4, lpX5_pairs_4 kp nr K (fun (v1 : Int32) => K v1 ) z4 0 0)
set_option maxHeartbeats 4000000 in
set_option maxRecDepth 100000 in
theorem ktX5_pairs (l : Launch) (dC : Nat → ClassId) (dI : Nat → Nat → Nat) (q : Nat → Nat) (cI cJ cZ : ClassId) (sz : Nat) (kc : Int32) (kd : Int32) (kn : Int32) (kp : Int32) (ka : Int32) (kt : Int32) (ku : Int32) (kr : Int32) (cn : (Nat → Int32)) (xs : (Nat → Int32)) (ys : (Nat → Int32)) (x2 : (Nat → Int32)) (y2 : (Nat → Int32)) (my : (Nat → Int32)) (tl : (Nat → Int32)) (po : (Nat → Int32)) (so : (Nat → Int32)) (st : (Nat → Int32)) (nr : (Nat → Int64)) (co : (Nat → Int32)) (rg : (Nat → Int32)) (re : (Nat → Int64))  {K : Int32 → Prop} (h : wX5_pairs kp nr K) : Met l yX5_pairs wsX5_pairs { frames := 1, cells := 0, slots := 0, locals := 22 } (va_Pc [.ref (q 0)] (wd dC dI cI cJ cZ q 15 sz (WM q cI cJ cZ kc kd kn kp ka kt ku kr cn xs ys x2 y2 my tl po so st nr co rg re))) (QX5_pairs dC dI cI cJ cZ q sz kc kd kn kp ka kt ku kr cn xs ys x2 y2 my tl po so st nr co rg re K) 0 0 (AF q 15 sz) := by
  refine met_of [.ref (q 0)] (by decide +kernel) rfl (Nat.le_of_ble_eq_true rfl) ?_
  intro p e s m below meth c ls hsz C hK ha hN hl hP
  subst hsz
  obtain ⟨hx, hb, hr, hml, hown, hts, hlk⟩ := id C
  have hl : lv_has ls 4 [(0, .ref (q 0))] := hl
  refine w_go (Pw := fun H => va_P (dC, dI) vwCl (WM q cI cJ cZ kc kd kn kp ka kt ku kr cn xs ys x2 y2 my tl po so st nr co rg re) H) (A := AF q 15 s.heap.size) (fun H locs hP hS => ?_) hP
  unfold wX5_pairs at h
  refine lv_iconst (v := 0) hx hb dX5_pairs_0 (by decide) ?_
  refine lv_istore_n (lv' := [(1, .int 0), (0, .ref (q 0))]) hx hb dX5_pairs_1 rfl hl (by decide) rfl (fun ls hl => ?_)
  refine lv_iconst (v := 0) hx hb dX5_pairs_2 (by decide) ?_
  refine lv_istore_n (lv' := [(2, .int 0), (1, .int 0), (0, .ref (q 0))]) hx hb dX5_pairs_3 rfl hl (by decide) rfl (fun ls hl => ?_)
  obtain ⟨n9, h⟩ := h
  exact mX5_pairs_4 kc kd kn kp ka kt ku kr cn xs ys x2 y2 my tl po so st nr co rg re C hK ha hN (fun v1 ls H locs h hl hP hS => by
      refine lv_iload_n hx hb dX5_pairs_53 rfl (lv_at hl 0 rfl) ?_
      exact rt_i () hx hb hr hlk h (fun t ht => by rw [ht]; exact hP) hS dX5_pairs_54) n9 0 0 ls H locs h (lv_sub hl [2, 1, 0] rfl) hP hS

theorem fwX5_pair_102 : Cond.fieldLink RX5 102 "MaskPartsModel" "parts" "I" ∈ wsX5_pair := by decide +kernel
set_option maxRecDepth 20000 in
theorem iwX5_pair_X5 : ∀ w ∈ wsX50, w ∈ wsX5_pair := by decide +kernel
theorem fwX5_pair_61 : Cond.fieldLink RX5 61 "MaskPartsModel" "code" "I" ∈ wsX5_pair := by decide +kernel
abbrev QX5_pair (dC : Nat → ClassId) (dI : Nat → Nat → Nat) (cI cJ cZ : ClassId) (q : Nat → Nat) (sz : Nat) (kd : Int32) (kn : Int32) (ka : Int32) (kt : Int32) (ku : Int32) (kr : Int32) (cn : (Nat → Int32)) (xs : (Nat → Int32)) (ys : (Nat → Int32)) (x2 : (Nat → Int32)) (y2 : (Nat → Int32)) (my : (Nat → Int32)) (tl : (Nat → Int32)) (co : (Nat → Int32)) (rg : (Nat → Int32)) (re : (Nat → Int64)) (K : Int32 → (Int32 × Int32 × (Nat → Int32) × (Nat → Int32) × (Nat → Int32) × (Nat → Int64)) → Prop) : Array Value → State → Outcome → State → Prop := va_Qi (fun (r : Int32) (u : Int32 × Int32 × (Nat → Int32) × (Nat → Int32) × (Nat → Int32) × (Nat → Int64)) => K r u) (fun (u : Int32 × Int32 × (Nat → Int32) × (Nat → Int32) × (Nat → Int32) × (Nat → Int64)) t => va_P (dC, dI) vwCl (WM q cI cJ cZ u.1 kd kn u.2.1 ka kt ku kr cn xs ys x2 y2 my tl u.2.2.1 u.2.2.2.1 u.2.2.2.2.1 u.2.2.2.2.2 co rg re) t.heap) (AF q 15 sz)
def bkX5_pair_109 (kd : Int32) (kn : Int32) (cn : (Nat → Int32)) (xs : (Nat → Int32)) (ys : (Nat → Int32)) (x2 : (Nat → Int32)) (y2 : (Nat → Int32)) (my : (Nat → Int32)) (K : Int32 → (Int32 × Int32 × (Nat → Int32) × (Nat → Int32) × (Nat → Int32) × (Nat → Int64)) → Prop) (k70 : Int32 → Int32 → (Nat → Int32) → (Nat → Int32) → (Nat → Int32) → (Nat → Int64) → Int32 → Int32 → Int32 → Int32 → Prop) (kc : Int32) (kp : Int32) (po : (Nat → Int32)) (so : (Nat → Int32)) (st : (Nat → Int32)) (nr : (Nat → Int64)) (v2 : Int32) (v3 : Int32) (v4 : Int32) (v5 : Int32) : Prop := (∀ i1 : Int32, i1 = v5 + 1 → k70 kc kp po so st nr v2 v3 v4 i1)
set_option maxHeartbeats 4000000 in
set_option maxRecDepth 100000 in
theorem mX5_pair_109 {p : Program} {l : Launch} {e : Env} {s : State} {m : MethodId} {av : Array Value} {below : List Frame} {meth : Method} {c : Code} {dC : Nat → ClassId} {dI : Nat → Nat → Nat} {cI cJ cZ : ClassId} {q : Nat → Nat} {K : Int32 → (Int32 × Int32 × (Nat → Int32) × (Nat → Int32) × (Nat → Int32) × (Nat → Int64)) → Prop} {k70 : Int32 → Int32 → (Nat → Int32) → (Nat → Int32) → (Nat → Int32) → (Nat → Int64) → Int32 → Int32 → Int32 → Int32 → Prop} (kd : Int32) (kn : Int32) (ka : Int32) (kt : Int32) (ku : Int32) (kr : Int32) (cn : (Nat → Int32)) (xs : (Nat → Int32)) (ys : (Nat → Int32)) (x2 : (Nat → Int32)) (y2 : (Nat → Int32)) (my : (Nat → Int32)) (tl : (Nat → Int32)) (co : (Nat → Int32)) (rg : (Nat → Int32)) (re : (Nat → Int64)) (C : CX p s m av meth c cX5_pair 6 (some .int) RX5 wsX5_pair) (hK : va_K (dC, dI) vwCl (TY cI cJ cZ) s) (ha : apart q 15) (hN : NX s) (hk70 : ∀ (kc : Int32) (kp : Int32) (po : (Nat → Int32)) (so : (Nat → Int32)) (st : (Nat → Int32)) (nr : (Nat → Int64)) (v2 : Int32) (v3 : Int32) (v4 : Int32) (v5 : Int32) (ls : Array Slot) (H : Heap) (locs : List Loc), k70 kc kp po so st nr v2 v3 v4 v5 → lv_has ls 6 [(0, .ref (q 0)), (2, .int v2), (3, .int v3), (4, .int v4), (5, .int v5)] → va_P (dC, dI) vwCl (WM q cI cJ cZ kc kd kn kp ka kt ku kr cn xs ys x2 y2 my tl po so st nr co rg re) H → va_S (AF q 15 s.heap.size) s.heap H locs → W p l e { frames := 4, cells := 0, slots := 0, locals := 97 } s m av below meth c H locs 0 0 (MQ below (QX5_pair dC dI cI cJ cZ q s.heap.size kd kn ka kt ku kr cn xs ys x2 y2 my tl co rg re K) av s 0 0 (AF q 15 s.heap.size)) (F0 m 70 ls [])) : ∀ (kc : Int32) (kp : Int32) (po : (Nat → Int32)) (so : (Nat → Int32)) (st : (Nat → Int32)) (nr : (Nat → Int64)) (v2 : Int32) (v3 : Int32) (v4 : Int32) (v5 : Int32) (ls : Array Slot) (H : Heap) (locs : List Loc), bkX5_pair_109 kd kn cn xs ys x2 y2 my K k70 kc kp po so st nr v2 v3 v4 v5 → lv_has ls 6 [(0, .ref (q 0)), (2, .int v2), (3, .int v3), (4, .int v4), (5, .int v5)] → va_P (dC, dI) vwCl (WM q cI cJ cZ kc kd kn kp ka kt ku kr cn xs ys x2 y2 my tl po so st nr co rg re) H → va_S (AF q 15 s.heap.size) s.heap H locs → W p l e { frames := 4, cells := 0, slots := 0, locals := 97 } s m av below meth c H locs 0 0 (MQ below (QX5_pair dC dI cI cJ cZ q s.heap.size kd kn ka kt ku kr cn xs ys x2 y2 my tl co rg re K) av s 0 0 (AF q 15 s.heap.size)) (F0 m 109 ls []) := by
  obtain ⟨hx, hb, hr, hml, hown, hts, hlk⟩ := id C
  intro kc kp po so st nr v2 v3 v4 v5 ls H locs h hl hP hS
  unfold bkX5_pair_109 at h
  obtain ⟨i1, ei1⟩ : ∃ y : Int32, y = v5 + 1 := ⟨_, rfl⟩
  refine lv_iinc (v := i1) (lv' := [(5, .int i1), (0, .ref (q 0)), (2, .int v2), (3, .int v3), (4, .int v4)]) hx hb dX5_pair_109 hl (k := 4) rfl (by rw [ei1]; rfl) (by decide) rfl (fun ls hl => ?_)
  have h := h i1 ei1
  refine lv_goto (tgt := 70) hx hb dX5_pair_112 (by decide) ?_
  exact hk70 kc kp po so st nr v2 v3 v4 i1 ls H locs h (lv_sub hl [1, 2, 3, 4, 0] rfl) hP hS
def lpX5_pair_70 (kd : Int32) (kn : Int32) (cn : (Nat → Int32)) (xs : (Nat → Int32)) (ys : (Nat → Int32)) (x2 : (Nat → Int32)) (y2 : (Nat → Int32)) (my : (Nat → Int32)) (K : Int32 → (Int32 × Int32 × (Nat → Int32) × (Nat → Int32) × (Nat → Int32) × (Nat → Int64)) → Prop) (k94 : Int32 → Int32 → (Nat → Int32) → (Nat → Int32) → (Nat → Int32) → (Nat → Int64) → Int32 → Int32 → Int32 → Prop) (k115 : Int32 → Int32 → (Nat → Int32) → (Nat → Int32) → (Nat → Int32) → (Nat → Int64) → Int32 → Int32 → Int32 → Prop) : Nat → Int32 → Int32 → (Nat → Int32) → (Nat → Int32) → (Nat → Int32) → (Nat → Int64) → Int32 → Int32 → Int32 → Int32 → Prop
  | 0, _, _, _, _, _, _, _, _, _, _ => False
  | n + 1, kc, kp, po, so, st, nr, v2, v3, v4, v5 => ((kp ≤ v5 → k115 kc kp po so st nr v2 v3 v4) ∧ (¬ (kp ≤ v5) → (wX5_areNear nr v4 v5 (fun (r3 : Int32) => ((r3 = 0 → bkX5_pair_109 kd kn cn xs ys x2 y2 my K (fun kc kp po so st nr v2 v3 v4 v5 => lpX5_pair_70 kd kn cn xs ys x2 y2 my K k94 k115 n kc kp po so st nr v2 v3 v4 v5) kc kp po so st nr v2 v3 v4 v5) ∧ (¬ (r3 = 0) → ((¬ v3 = 0 → (∀ i7 : Int32, i7 = v3 + (-1) → bkX5_pair_109 kd kn cn xs ys x2 y2 my K (fun kc kp po so st nr v2 v3 v4 v5 => lpX5_pair_70 kd kn cn xs ys x2 y2 my K k94 k115 n kc kp po so st nr v2 v3 v4 v5) kc kp po so st nr v2 i7 v4 v5)) ∧ (v3 = 0 → k94 kc kp po so st nr v2 v4 v5))))))))
set_option maxHeartbeats 4000000 in
set_option maxRecDepth 100000 in
theorem mX5_pair_70 {p : Program} {l : Launch} {e : Env} {s : State} {m : MethodId} {av : Array Value} {below : List Frame} {meth : Method} {c : Code} {dC : Nat → ClassId} {dI : Nat → Nat → Nat} {cI cJ cZ : ClassId} {q : Nat → Nat} {K : Int32 → (Int32 × Int32 × (Nat → Int32) × (Nat → Int32) × (Nat → Int32) × (Nat → Int64)) → Prop} {k94 : Int32 → Int32 → (Nat → Int32) → (Nat → Int32) → (Nat → Int32) → (Nat → Int64) → Int32 → Int32 → Int32 → Prop} {k115 : Int32 → Int32 → (Nat → Int32) → (Nat → Int32) → (Nat → Int32) → (Nat → Int64) → Int32 → Int32 → Int32 → Prop} (kd : Int32) (kn : Int32) (ka : Int32) (kt : Int32) (ku : Int32) (kr : Int32) (cn : (Nat → Int32)) (xs : (Nat → Int32)) (ys : (Nat → Int32)) (x2 : (Nat → Int32)) (y2 : (Nat → Int32)) (my : (Nat → Int32)) (tl : (Nat → Int32)) (co : (Nat → Int32)) (rg : (Nat → Int32)) (re : (Nat → Int64)) (C : CX p s m av meth c cX5_pair 6 (some .int) RX5 wsX5_pair) (hK : va_K (dC, dI) vwCl (TY cI cJ cZ) s) (ha : apart q 15) (hN : NX s) (hk94 : ∀ (kc : Int32) (kp : Int32) (po : (Nat → Int32)) (so : (Nat → Int32)) (st : (Nat → Int32)) (nr : (Nat → Int64)) (v2 : Int32) (v4 : Int32) (v5 : Int32) (ls : Array Slot) (H : Heap) (locs : List Loc), k94 kc kp po so st nr v2 v4 v5 → lv_has ls 6 [(2, .int v2), (4, .int v4), (5, .int v5)] → va_P (dC, dI) vwCl (WM q cI cJ cZ kc kd kn kp ka kt ku kr cn xs ys x2 y2 my tl po so st nr co rg re) H → va_S (AF q 15 s.heap.size) s.heap H locs → W p l e { frames := 4, cells := 0, slots := 0, locals := 97 } s m av below meth c H locs 0 0 (MQ below (QX5_pair dC dI cI cJ cZ q s.heap.size kd kn ka kt ku kr cn xs ys x2 y2 my tl co rg re K) av s 0 0 (AF q 15 s.heap.size)) (F0 m 94 ls [])) (hk115 : ∀ (kc : Int32) (kp : Int32) (po : (Nat → Int32)) (so : (Nat → Int32)) (st : (Nat → Int32)) (nr : (Nat → Int64)) (v2 : Int32) (v3 : Int32) (v4 : Int32) (ls : Array Slot) (H : Heap) (locs : List Loc), k115 kc kp po so st nr v2 v3 v4 → lv_has ls 6 [(0, .ref (q 0)), (2, .int v2), (3, .int v3), (4, .int v4)] → va_P (dC, dI) vwCl (WM q cI cJ cZ kc kd kn kp ka kt ku kr cn xs ys x2 y2 my tl po so st nr co rg re) H → va_S (AF q 15 s.heap.size) s.heap H locs → W p l e { frames := 4, cells := 0, slots := 0, locals := 97 } s m av below meth c H locs 0 0 (MQ below (QX5_pair dC dI cI cJ cZ q s.heap.size kd kn ka kt ku kr cn xs ys x2 y2 my tl co rg re K) av s 0 0 (AF q 15 s.heap.size)) (F0 m 115 ls [])) : ∀ (n : Nat) (kc : Int32) (kp : Int32) (po : (Nat → Int32)) (so : (Nat → Int32)) (st : (Nat → Int32)) (nr : (Nat → Int64)) (v2 : Int32) (v3 : Int32) (v4 : Int32) (v5 : Int32) (ls : Array Slot) (H : Heap) (locs : List Loc), lpX5_pair_70 kd kn cn xs ys x2 y2 my K k94 k115 n kc kp po so st nr v2 v3 v4 v5 → lv_has ls 6 [(0, .ref (q 0)), (2, .int v2), (3, .int v3), (4, .int v4), (5, .int v5)] → va_P (dC, dI) vwCl (WM q cI cJ cZ kc kd kn kp ka kt ku kr cn xs ys x2 y2 my tl po so st nr co rg re) H → va_S (AF q 15 s.heap.size) s.heap H locs → W p l e { frames := 4, cells := 0, slots := 0, locals := 97 } s m av below meth c H locs 0 0 (MQ below (QX5_pair dC dI cI cJ cZ q s.heap.size kd kn ka kt ku kr cn xs ys x2 y2 my tl co rg re K) av s 0 0 (AF q 15 s.heap.size)) (F0 m 70 ls []) := by
  obtain ⟨hx, hb, hr, hml, hown, hts, hlk⟩ := id C
  intro n
  induction n with
  | zero =>
    intro kc kp po so st nr v2 v3 v4 v5 ls H locs h
    exact h.elim
  | succ n ih =>
    intro kc kp po so st nr v2 v3 v4 v5 ls H locs h hl hP hS
    rw [lpX5_pair_70.eq_2] at h
    refine lv_iload hx hb dX5_pair_70 (lv_at hl 4 rfl) ?_
    refine lv_aload_n hx hb dX5_pair_72 rfl (lv_at hl 0 rfl) ?_
    refine va_get (D := (dC, dI)) (ci := 5) (v := .int kp) (C := RX5) (T := TX5) (N := 22) hx hb hts iwX5_pair_X5 hown hK hP 0 rfl rfl 10 (by decide) (hts _ fwX5_pair_102) (fun _ h9 => h9) rfl dX5_pair_73 ?_
    refine lv_icmp_ge (tgt := 115) hx hb dX5_pair_76 (by decide) (fun c2 => ?_) (fun c2 => ?_)
    · have h := h.1 c2
      exact hk115 kc kp po so st nr v2 v3 v4 ls H locs h (lv_sub hl [0, 1, 2, 3] rfl) hP hS
    · have h := h.2 c2
      refine lv_aload_n hx hb dX5_pair_79 rfl (lv_at hl 0 rfl) ?_
      refine lv_iload hx hb dX5_pair_80 (lv_at hl 3 rfl) ?_
      refine lv_iload hx hb dX5_pair_82 (lv_at hl 4 rfl) ?_
      refine cl_i (va_runV (As := [.int v4, .int v5]) (rest := []) ⟨hx, hb, hml, hown, hts⟩ (ktX5_areNear l dC dI q cI cJ cZ H.size kc kd kn kp ka kt ku kr cn xs ys x2 y2 my tl po so st nr co rg re v4 v5 h) (cwV 2 hts gX5_pair_X5_areNear rfl rfl rfl (by decide +kernel) ⟨Nat.le_of_ble_eq_true rfl, Nat.le_of_ble_eq_true rfl⟩) ⟨wd.blind, va_recv hK hP (ci := 5) (q0 := 0) rfl rfl, fun U hU hW => ⟨rfl, wd.at hP hK ha hN hU hW⟩⟩ rfl rfl hl.1 rfl (lv_room (Nat.le_of_ble_eq_true rfl)) dX5_pair_84 ⟨Nat.le_of_ble_eq_true rfl, Nat.le_of_ble_eq_true rfl⟩) hS (fun r3 _ H locs h hP hS => ?_)
      have hP : va_P (dC, dI) vwCl (WM q cI cJ cZ kc kd kn kp ka kt ku kr cn xs ys x2 y2 my tl po so st nr co rg re) H := hP
      refine lv_if_eq (tgt := 109) hx hb dX5_pair_87 (by decide) (fun c5 => ?_) (fun c5 => ?_)
      · have h := h.1 c5
        exact mX5_pair_109 kd kn ka kt ku kr cn xs ys x2 y2 my tl co rg re C hK ha hN (fun kc kp po so st nr v2 v3 v4 v5 ls H locs h hl hP hS => ih kc kp po so st nr v2 v3 v4 v5 ls H locs h hl hP hS) kc kp po so st nr v2 v3 v4 v5 ls H locs h (lv_sub hl [0, 1, 2, 3, 4] rfl) hP hS
      · have h := h.2 c5
        refine lv_iload_n hx hb dX5_pair_90 rfl (lv_at hl 2 rfl) ?_
        refine lv_if_ne (tgt := 106) hx hb dX5_pair_91 (by decide) (fun c6 => ?_) (fun c6 => ?_)
        · have h := h.1 c6
          obtain ⟨i7, ei7⟩ : ∃ y : Int32, y = v3 + (-1) := ⟨_, rfl⟩
          refine lv_iinc (v := i7) (lv' := [(3, .int i7), (0, .ref (q 0)), (2, .int v2), (4, .int v4), (5, .int v5)]) hx hb dX5_pair_106 hl (k := 2) rfl (by rw [ei7]; rfl) (by decide) rfl (fun ls hl => ?_)
          have h := h i7 ei7
          exact mX5_pair_109 kd kn ka kt ku kr cn xs ys x2 y2 my tl co rg re C hK ha hN (fun kc kp po so st nr v2 v3 v4 v5 ls H locs h hl hP hS => ih kc kp po so st nr v2 v3 v4 v5 ls H locs h hl hP hS) kc kp po so st nr v2 i7 v4 v5 ls H locs h (lv_sub hl [1, 2, 0, 3, 4] rfl) hP hS
        · have h := h.2 c6
          exact hk94 kc kp po so st nr v2 v4 v5 ls H locs h (lv_sub hl [1, 3, 4] rfl) hP hS
def lpX5_pair_48 (kd : Int32) (kn : Int32) (cn : (Nat → Int32)) (xs : (Nat → Int32)) (ys : (Nat → Int32)) (x2 : (Nat → Int32)) (y2 : (Nat → Int32)) (my : (Nat → Int32)) (K : Int32 → (Int32 × Int32 × (Nat → Int32) × (Nat → Int32) × (Nat → Int32) × (Nat → Int64)) → Prop) (k94 : Int32 → Int32 → (Nat → Int32) → (Nat → Int32) → (Nat → Int32) → (Nat → Int64) → Int32 → Int32 → Int32 → Prop) (k121 : Int32 → Int32 → (Nat → Int32) → (Nat → Int32) → (Nat → Int32) → (Nat → Int64) → Prop) : Nat → Int32 → Int32 → (Nat → Int32) → (Nat → Int32) → (Nat → Int32) → (Nat → Int64) → Int32 → Int32 → Int32 → Prop
  | 0, _, _, _, _, _, _, _, _, _ => False
  | n + 1, kc, kp, po, so, st, nr, v2, v3, v4 => ((kp ≤ v4 → k121 kc kp po so st nr) ∧ (¬ (kp ≤ v4) → ((¬ kc = 0 → k121 kc kp po so st nr) ∧ (kc = 0 → (∀ i10 : Int32, i10 = (v4 + 1) → (∃ z70, lpX5_pair_70 kd kn cn xs ys x2 y2 my K k94 (fun (kc : Int32) (kp : Int32) (po : (Nat → Int32)) (so : (Nat → Int32)) (st : (Nat → Int32)) (nr : (Nat → Int64)) (v2 : Int32) (v3 : Int32) (v4 : Int32) => (∀ i11 : Int32, i11 = v4 + 1 → lpX5_pair_48 kd kn cn xs ys x2 y2 my K k94 k121 n kc kp po so st nr v2 v3 i11)) z70 kc kp po so st nr v2 v3 v4 i10))))))
set_option maxHeartbeats 4000000 in
set_option maxRecDepth 100000 in
theorem mX5_pair_48 {p : Program} {l : Launch} {e : Env} {s : State} {m : MethodId} {av : Array Value} {below : List Frame} {meth : Method} {c : Code} {dC : Nat → ClassId} {dI : Nat → Nat → Nat} {cI cJ cZ : ClassId} {q : Nat → Nat} {K : Int32 → (Int32 × Int32 × (Nat → Int32) × (Nat → Int32) × (Nat → Int32) × (Nat → Int64)) → Prop} {k94 : Int32 → Int32 → (Nat → Int32) → (Nat → Int32) → (Nat → Int32) → (Nat → Int64) → Int32 → Int32 → Int32 → Prop} {k121 : Int32 → Int32 → (Nat → Int32) → (Nat → Int32) → (Nat → Int32) → (Nat → Int64) → Prop} (kd : Int32) (kn : Int32) (ka : Int32) (kt : Int32) (ku : Int32) (kr : Int32) (cn : (Nat → Int32)) (xs : (Nat → Int32)) (ys : (Nat → Int32)) (x2 : (Nat → Int32)) (y2 : (Nat → Int32)) (my : (Nat → Int32)) (tl : (Nat → Int32)) (co : (Nat → Int32)) (rg : (Nat → Int32)) (re : (Nat → Int64)) (C : CX p s m av meth c cX5_pair 6 (some .int) RX5 wsX5_pair) (hK : va_K (dC, dI) vwCl (TY cI cJ cZ) s) (ha : apart q 15) (hN : NX s) (hk94 : ∀ (kc : Int32) (kp : Int32) (po : (Nat → Int32)) (so : (Nat → Int32)) (st : (Nat → Int32)) (nr : (Nat → Int64)) (v2 : Int32) (v4 : Int32) (v5 : Int32) (ls : Array Slot) (H : Heap) (locs : List Loc), k94 kc kp po so st nr v2 v4 v5 → lv_has ls 6 [(2, .int v2), (4, .int v4), (5, .int v5)] → va_P (dC, dI) vwCl (WM q cI cJ cZ kc kd kn kp ka kt ku kr cn xs ys x2 y2 my tl po so st nr co rg re) H → va_S (AF q 15 s.heap.size) s.heap H locs → W p l e { frames := 4, cells := 0, slots := 0, locals := 97 } s m av below meth c H locs 0 0 (MQ below (QX5_pair dC dI cI cJ cZ q s.heap.size kd kn ka kt ku kr cn xs ys x2 y2 my tl co rg re K) av s 0 0 (AF q 15 s.heap.size)) (F0 m 94 ls [])) (hk121 : ∀ (kc : Int32) (kp : Int32) (po : (Nat → Int32)) (so : (Nat → Int32)) (st : (Nat → Int32)) (nr : (Nat → Int64)) (ls : Array Slot) (H : Heap) (locs : List Loc), k121 kc kp po so st nr → lv_has ls 6 [] → va_P (dC, dI) vwCl (WM q cI cJ cZ kc kd kn kp ka kt ku kr cn xs ys x2 y2 my tl po so st nr co rg re) H → va_S (AF q 15 s.heap.size) s.heap H locs → W p l e { frames := 4, cells := 0, slots := 0, locals := 97 } s m av below meth c H locs 0 0 (MQ below (QX5_pair dC dI cI cJ cZ q s.heap.size kd kn ka kt ku kr cn xs ys x2 y2 my tl co rg re K) av s 0 0 (AF q 15 s.heap.size)) (F0 m 121 ls [])) : ∀ (n : Nat) (kc : Int32) (kp : Int32) (po : (Nat → Int32)) (so : (Nat → Int32)) (st : (Nat → Int32)) (nr : (Nat → Int64)) (v2 : Int32) (v3 : Int32) (v4 : Int32) (ls : Array Slot) (H : Heap) (locs : List Loc), lpX5_pair_48 kd kn cn xs ys x2 y2 my K k94 k121 n kc kp po so st nr v2 v3 v4 → lv_has ls 6 [(0, .ref (q 0)), (2, .int v2), (3, .int v3), (4, .int v4)] → va_P (dC, dI) vwCl (WM q cI cJ cZ kc kd kn kp ka kt ku kr cn xs ys x2 y2 my tl po so st nr co rg re) H → va_S (AF q 15 s.heap.size) s.heap H locs → W p l e { frames := 4, cells := 0, slots := 0, locals := 97 } s m av below meth c H locs 0 0 (MQ below (QX5_pair dC dI cI cJ cZ q s.heap.size kd kn ka kt ku kr cn xs ys x2 y2 my tl co rg re K) av s 0 0 (AF q 15 s.heap.size)) (F0 m 48 ls []) := by
  obtain ⟨hx, hb, hr, hml, hown, hts, hlk⟩ := id C
  intro n
  induction n with
  | zero =>
    intro kc kp po so st nr v2 v3 v4 ls H locs h
    exact h.elim
  | succ n ih =>
    intro kc kp po so st nr v2 v3 v4 ls H locs h hl hP hS
    rw [lpX5_pair_48.eq_2] at h
    refine lv_iload hx hb dX5_pair_48 (lv_at hl 3 rfl) ?_
    refine lv_aload_n hx hb dX5_pair_50 rfl (lv_at hl 0 rfl) ?_
    refine va_get (D := (dC, dI)) (ci := 5) (v := .int kp) (C := RX5) (T := TX5) (N := 22) hx hb hts iwX5_pair_X5 hown hK hP 0 rfl rfl 10 (by decide) (hts _ fwX5_pair_102) (fun _ h9 => h9) rfl dX5_pair_51 ?_
    refine lv_icmp_ge (tgt := 121) hx hb dX5_pair_54 (by decide) (fun c8 => ?_) (fun c8 => ?_)
    · have h := h.1 c8
      exact hk121 kc kp po so st nr ls H locs h (lv_sub hl [] rfl) hP hS
    · have h := h.2 c8
      refine lv_aload_n hx hb dX5_pair_57 rfl (lv_at hl 0 rfl) ?_
      refine va_get (D := (dC, dI)) (ci := 5) (v := .int kc) (C := RX5) (T := TX5) (N := 22) hx hb hts iwX5_pair_X5 hown hK hP 0 rfl rfl 0 (by decide) (hts _ fwX5_pair_61) (fun _ h9 => h9) rfl dX5_pair_58 ?_
      refine lv_if_ne (tgt := 121) hx hb dX5_pair_61 (by decide) (fun c9 => ?_) (fun c9 => ?_)
      · have h := h.1 c9
        exact hk121 kc kp po so st nr ls H locs h (lv_sub hl [] rfl) hP hS
      · have h := h.2 c9
        refine lv_iload hx hb dX5_pair_64 (lv_at hl 3 rfl) ?_
        refine lv_iconst (v := 1) hx hb dX5_pair_66 (by decide) ?_
        refine lv_iadd hx hb dX5_pair_67 ?_
        refine lv_topi (fun i10 ei10 => ?_)
        have h := h i10 ei10
        refine lv_istore (lv' := [(5, .int i10), (0, .ref (q 0)), (2, .int v2), (3, .int v3), (4, .int v4)]) hx hb dX5_pair_68 hl (by decide) rfl (fun ls hl => ?_)
        obtain ⟨n9, h⟩ := h
        exact mX5_pair_70 kd kn ka kt ku kr cn xs ys x2 y2 my tl co rg re C hK ha hN hk94 (fun kc kp po so st nr v2 v3 v4 ls H locs h hl hP hS => by
            obtain ⟨i11, ei11⟩ : ∃ y : Int32, y = v4 + 1 := ⟨_, rfl⟩
            refine lv_iinc (v := i11) (lv' := [(4, .int i11), (0, .ref (q 0)), (2, .int v2), (3, .int v3)]) hx hb dX5_pair_115 hl (k := 3) rfl (by rw [ei11]; rfl) (by decide) rfl (fun ls hl => ?_)
            have h := h i11 ei11
            refine lv_goto (tgt := 48) hx hb dX5_pair_118 (by decide) ?_
            exact ih kc kp po so st nr v2 v3 i11 ls H locs h (lv_sub hl [1, 2, 3, 0] rfl) hP hS) n9 kc kp po so st nr v2 v3 v4 i10 ls H locs h (lv_sub hl [1, 2, 3, 4, 0] rfl) hP hS
def bkX5_pair_40 (kd : Int32) (kn : Int32) (cn : (Nat → Int32)) (xs : (Nat → Int32)) (ys : (Nat → Int32)) (x2 : (Nat → Int32)) (y2 : (Nat → Int32)) (my : (Nat → Int32)) (K : Int32 → (Int32 × Int32 × (Nat → Int32) × (Nat → Int32) × (Nat → Int32) × (Nat → Int64)) → Prop) (kc : Int32) (kp : Int32) (po : (Nat → Int32)) (so : (Nat → Int32)) (st : (Nat → Int32)) (nr : (Nat → Int64)) (v1 : Int32) (v2 : Int32) (s1 : Int32) : Prop := (∃ z48, lpX5_pair_48 kd kn cn xs ys x2 y2 my K (fun (kc : Int32) (kp : Int32) (po : (Nat → Int32)) (so : (Nat → Int32)) (st : (Nat → Int32)) (nr : (Nat → Int64)) (v2 : Int32) (v4 : Int32) (v5 : Int32) => ((¬ v2 = 0 → K v5 (kc, kp, po, so, st, nr)) ∧ (v2 = 0 → K v4 (kc, kp, po, so, st, nr)))) (fun (kc : Int32) (kp : Int32) (po : (Nat → Int32)) (so : (Nat → Int32)) (st : (Nat → Int32)) (nr : (Nat → Int64)) => K 0 (kc, kp, po, so, st, nr)) z48 s1 kp po so st nr v2 v1 0)
set_option maxHeartbeats 4000000 in
set_option maxRecDepth 100000 in
theorem mX5_pair_40 {p : Program} {l : Launch} {e : Env} {s : State} {m : MethodId} {av : Array Value} {below : List Frame} {meth : Method} {c : Code} {dC : Nat → ClassId} {dI : Nat → Nat → Nat} {cI cJ cZ : ClassId} {q : Nat → Nat} {K : Int32 → (Int32 × Int32 × (Nat → Int32) × (Nat → Int32) × (Nat → Int32) × (Nat → Int64)) → Prop} (kd : Int32) (kn : Int32) (ka : Int32) (kt : Int32) (ku : Int32) (kr : Int32) (cn : (Nat → Int32)) (xs : (Nat → Int32)) (ys : (Nat → Int32)) (x2 : (Nat → Int32)) (y2 : (Nat → Int32)) (my : (Nat → Int32)) (tl : (Nat → Int32)) (co : (Nat → Int32)) (rg : (Nat → Int32)) (re : (Nat → Int64)) (C : CX p s m av meth c cX5_pair 6 (some .int) RX5 wsX5_pair) (hK : va_K (dC, dI) vwCl (TY cI cJ cZ) s) (ha : apart q 15) (hN : NX s)  : ∀ (kc : Int32) (kp : Int32) (po : (Nat → Int32)) (so : (Nat → Int32)) (st : (Nat → Int32)) (nr : (Nat → Int64)) (v1 : Int32) (v2 : Int32) (s1 : Int32) (ls : Array Slot) (H : Heap) (locs : List Loc), bkX5_pair_40 kd kn cn xs ys x2 y2 my K kc kp po so st nr v1 v2 s1 → lv_has ls 6 [(0, .ref (q 0)), (1, .int v1), (2, .int v2)] → va_P (dC, dI) vwCl (WM q cI cJ cZ kc kd kn kp ka kt ku kr cn xs ys x2 y2 my tl po so st nr co rg re) H → va_S (AF q 15 s.heap.size) s.heap H locs → W p l e { frames := 4, cells := 0, slots := 0, locals := 97 } s m av below meth c H locs 0 0 (MQ below (QX5_pair dC dI cI cJ cZ q s.heap.size kd kn ka kt ku kr cn xs ys x2 y2 my tl co rg re K) av s 0 0 (AF q 15 s.heap.size)) (F0 m 40 ls [.int s1, .ref (q 0)]) := by
  obtain ⟨hx, hb, hr, hml, hown, hts, hlk⟩ := id C
  intro kc kp po so st nr v1 v2 s1 ls H locs h hl hP hS
  unfold bkX5_pair_40 at h
  refine va_put (D := (dC, dI)) (ci := 5) (v := .int s1) (ty := .int) (C := RX5) (T := TX5) (N := 22) hx hb hts iwX5_pair_X5 tyX5 tyX5_ok nmX5 hown hK hP (d_WM ha) hS 0 rfl rfl 0 (by decide) (hts _ fwX5_pair_61) (fun _ h9 => h9) rfl (by decide +kernel) rfl rfl (Nat.le_of_ble_eq_true rfl) dX5_pair_40 (fun H locs hP _ hS => ?_)
  have hP : va_P (dC, dI) vwCl (WM q cI cJ cZ s1 kd kn kp ka kt ku kr cn xs ys x2 y2 my tl po so st nr co rg re) H := hP
  refine lv_iload_n hx hb dX5_pair_43 rfl (lv_at hl 1 rfl) ?_
  refine lv_istore_n (lv' := [(3, .int v1), (0, .ref (q 0)), (1, .int v1), (2, .int v2)]) hx hb dX5_pair_44 rfl hl (by decide) rfl (fun ls hl => ?_)
  refine lv_iconst (v := 0) hx hb dX5_pair_45 (by decide) ?_
  refine lv_istore (lv' := [(4, .int 0), (3, .int v1), (0, .ref (q 0)), (1, .int v1), (2, .int v2)]) hx hb dX5_pair_46 hl (by decide) rfl (fun ls hl => ?_)
  obtain ⟨n9, h⟩ := h
  exact mX5_pair_48 kd kn ka kt ku kr cn xs ys x2 y2 my tl co rg re C hK ha hN (fun kc kp po so st nr v2 v4 v5 ls H locs h hl hP hS => by
      refine lv_iload_n hx hb dX5_pair_94 rfl (lv_at hl 0 rfl) ?_
      refine lv_if_ne (tgt := 103) hx hb dX5_pair_95 (by decide) (fun c12 => ?_) (fun c12 => ?_)
      · have h := h.1 c12
        refine lv_iload hx hb dX5_pair_103 (lv_at hl 2 rfl) ?_
        exact rt_i (kc, kp, po, so, st, nr) hx hb hr hlk h (fun t ht => by rw [ht]; exact hP) hS dX5_pair_105
      · have h := h.2 c12
        refine lv_iload hx hb dX5_pair_98 (lv_at hl 1 rfl) ?_
        refine lv_goto (tgt := 105) hx hb dX5_pair_100 (by decide) ?_
        exact rt_i (kc, kp, po, so, st, nr) hx hb hr hlk h (fun t ht => by rw [ht]; exact hP) hS dX5_pair_105) (fun kc kp po so st nr ls H locs h hl hP hS => by
      refine lv_iconst (v := 0) hx hb dX5_pair_121 (by decide) ?_
      exact rt_i (kc, kp, po, so, st, nr) hx hb hr hlk h (fun t ht => by rw [ht]; exact hP) hS dX5_pair_122) n9 s1 kp po so st nr v2 v1 0 ls H locs h (lv_sub hl [2, 4, 1, 0] rfl) hP hS
def wX5_pair (kd : Int32) (kn : Int32) (cn : (Nat → Int32)) (xs : (Nat → Int32)) (ys : (Nat → Int32)) (x2 : (Nat → Int32)) (y2 : (Nat → Int32)) (my : (Nat → Int32)) (kc : Int32) (kp : Int32) (po : (Nat → Int32)) (so : (Nat → Int32)) (st : (Nat → Int32)) (nr : (Nat → Int64)) (v1 : Int32) (v2 : Int32) (K : Int32 → (Int32 × Int32 × (Nat → Int32) × (Nat → Int32) × (Nat → Int32) × (Nat → Int64)) → Prop) : Prop := (wX5_findParts kd kn cn xs ys x2 y2 my kp po so st nr  (fun (u14 : Int32 × (Nat → Int32) × (Nat → Int32) × (Nat → Int32) × (Nat → Int64)) => (wX5_pairs u14.1 u14.2.2.2.2  (fun (r15 : Int32) => (wX5_isIn v1.toInt64 0 (((r15 - 1) : Int32).toInt64) (fun r17 : Int32 => ((¬ r17 = 0 → (wX5_isIn v2.toInt64 0 1 (fun r20 : Int32 => ((¬ r20 = 0 → bkX5_pair_40 kd kn cn xs ys x2 y2 my K kc u14.1 u14.2.1 u14.2.2.1 u14.2.2.2.1 u14.2.2.2.2 v1 v2 0) ∧ (r20 = 0 → bkX5_pair_40 kd kn cn xs ys x2 y2 my K kc u14.1 u14.2.1 u14.2.2.1 u14.2.2.2.1 u14.2.2.2.2 v1 v2 2))))) ∧ (r17 = 0 → bkX5_pair_40 kd kn cn xs ys x2 y2 my K kc u14.1 u14.2.1 u14.2.2.1 u14.2.2.2.1 u14.2.2.2.2 v1 v2 1))))))))
set_option maxHeartbeats 4000000 in
set_option maxRecDepth 100000 in
theorem ktX5_pair (l : Launch) (dC : Nat → ClassId) (dI : Nat → Nat → Nat) (q : Nat → Nat) (cI cJ cZ : ClassId) (sz : Nat) (kc : Int32) (kd : Int32) (kn : Int32) (kp : Int32) (ka : Int32) (kt : Int32) (ku : Int32) (kr : Int32) (cn : (Nat → Int32)) (xs : (Nat → Int32)) (ys : (Nat → Int32)) (x2 : (Nat → Int32)) (y2 : (Nat → Int32)) (my : (Nat → Int32)) (tl : (Nat → Int32)) (po : (Nat → Int32)) (so : (Nat → Int32)) (st : (Nat → Int32)) (nr : (Nat → Int64)) (co : (Nat → Int32)) (rg : (Nat → Int32)) (re : (Nat → Int64)) (v1 : Int32) (v2 : Int32) {K : Int32 → (Int32 × Int32 × (Nat → Int32) × (Nat → Int32) × (Nat → Int32) × (Nat → Int64)) → Prop} (h : wX5_pair kd kn cn xs ys x2 y2 my kc kp po so st nr v1 v2 K) : Met l yX5_pair wsX5_pair { frames := 4, cells := 0, slots := 0, locals := 97 } (va_Pc [.ref (q 0), .int v1, .int v2] (wd dC dI cI cJ cZ q 15 sz (WM q cI cJ cZ kc kd kn kp ka kt ku kr cn xs ys x2 y2 my tl po so st nr co rg re))) (QX5_pair dC dI cI cJ cZ q sz kd kn ka kt ku kr cn xs ys x2 y2 my tl co rg re K) 0 0 (AF q 15 sz) := by
  refine met_of [.ref (q 0), .int v1, .int v2] (by decide +kernel) rfl (Nat.le_of_ble_eq_true rfl) ?_
  intro p e s m below meth c ls hsz C hK ha hN hl hP
  subst hsz
  obtain ⟨hx, hb, hr, hml, hown, hts, hlk⟩ := id C
  have hl : lv_has ls 6 [(0, .ref (q 0)), (1, .int v1), (2, .int v2)] := hl
  refine w_go (Pw := fun H => va_P (dC, dI) vwCl (WM q cI cJ cZ kc kd kn kp ka kt ku kr cn xs ys x2 y2 my tl po so st nr co rg re) H) (A := AF q 15 s.heap.size) (fun H locs hP hS => ?_) hP
  unfold wX5_pair at h
  refine lv_aload_n hx hb dX5_pair_0 rfl (lv_at hl 0 rfl) ?_
  refine cl_v (va_runV (As := []) (rest := []) ⟨hx, hb, hml, hown, hts⟩ (ktX5_findParts l dC dI q cI cJ cZ H.size kc kd kn kp ka kt ku kr cn xs ys x2 y2 my tl po so st nr co rg re  h) (cwV 0 hts gX5_pair_X5_findParts rfl rfl rfl (by decide +kernel) ⟨Nat.le_of_ble_eq_true rfl, Nat.le_of_ble_eq_true rfl⟩) ⟨wd.blind, va_recv hK hP (ci := 5) (q0 := 0) rfl rfl, fun U hU hW => ⟨rfl, wd.at hP hK ha hN hU hW⟩⟩ rfl rfl hl.1 rfl (lv_room (Nat.le_of_ble_eq_true rfl)) dX5_pair_1 ⟨Nat.le_of_ble_eq_true rfl, Nat.le_of_ble_eq_true rfl⟩) hS (fun u14 H locs h hP hS => ?_)
  have hP : va_P (dC, dI) vwCl (WM q cI cJ cZ kc kd kn u14.1 ka kt ku kr cn xs ys x2 y2 my tl u14.2.1 u14.2.2.1 u14.2.2.2.1 u14.2.2.2.2 co rg re) H := hP
  refine lv_aload_n hx hb dX5_pair_4 rfl (lv_at hl 0 rfl) ?_
  refine lv_iload_n hx hb dX5_pair_5 rfl (lv_at hl 1 rfl) ?_
  refine lv_i2l hx hb dX5_pair_6 rfl ?_
  refine lv_lconst (v := 0) hx hb dX5_pair_7 (by decide) ?_
  refine lv_aload_n hx hb dX5_pair_8 rfl (lv_at hl 0 rfl) ?_
  refine cl_i (va_runV (As := []) (rest := [.long 0, .long v1.toInt64, .ref (q 0)]) ⟨hx, hb, hml, hown, hts⟩ (ktX5_pairs l dC dI q cI cJ cZ H.size kc kd kn u14.1 ka kt ku kr cn xs ys x2 y2 my tl u14.2.1 u14.2.2.1 u14.2.2.2.1 u14.2.2.2.2 co rg re  h) (cwV 0 hts gX5_pair_X5_pairs rfl rfl rfl (by decide +kernel) ⟨Nat.le_of_ble_eq_true rfl, Nat.le_of_ble_eq_true rfl⟩) ⟨wd.blind, va_recv hK hP (ci := 5) (q0 := 0) rfl rfl, fun U hU hW => ⟨rfl, wd.at hP hK ha hN hU hW⟩⟩ rfl rfl hl.1 rfl (lv_room (Nat.le_of_ble_eq_true rfl)) dX5_pair_9 ⟨Nat.le_of_ble_eq_true rfl, Nat.le_of_ble_eq_true rfl⟩) hS (fun r15 _ H locs h hP hS => ?_)
  have hP : va_P (dC, dI) vwCl (WM q cI cJ cZ kc kd kn u14.1 ka kt ku kr cn xs ys x2 y2 my tl u14.2.1 u14.2.2.1 u14.2.2.2.1 u14.2.2.2.2 co rg re) H := hP
  refine lv_iconst (v := 1) hx hb dX5_pair_12 (by decide) ?_
  refine lv_isub hx hb dX5_pair_13 ?_
  refine lv_i2l hx hb dX5_pair_14 rfl ?_
  refine cl_pi (va_runS (As := [.long v1.toInt64, .long 0, .long (((r15 - 1) : Int32).toInt64)]) (rest := [.ref (q 0)]) ⟨hx, hb, hml, hown, hts⟩ (ktX5_isIn l H.size v1.toInt64 0 (((r15 - 1) : Int32).toInt64) h) (va_cwS 3 hts gX5_pair_X5_isIn rfl rfl rfl (by decide +kernel) ⟨Nat.le_of_ble_eq_true rfl, Nat.le_of_ble_eq_true rfl⟩) ⟨pz.blind, fun U hU _ => ⟨rfl, pz.at hU⟩⟩ rfl rfl hl.1 rfl (lv_room (Nat.le_of_ble_eq_true rfl)) dX5_pair_15 ⟨Nat.le_of_ble_eq_true rfl, Nat.le_of_ble_eq_true rfl⟩) hP hS (fun r17 _ H locs h hP hS => ?_)
  refine lv_if_ne (tgt := 25) hx hb dX5_pair_18 (by decide) (fun c19 => ?_) (fun c19 => ?_)
  · have h := h.1 c19
    refine lv_iload_n hx hb dX5_pair_25 rfl (lv_at hl 2 rfl) ?_
    refine lv_i2l hx hb dX5_pair_26 rfl ?_
    refine lv_lconst (v := 0) hx hb dX5_pair_27 (by decide) ?_
    refine lv_lconst (v := 1) hx hb dX5_pair_28 (by decide) ?_
    refine cl_pi (va_runS (As := [.long v2.toInt64, .long 0, .long 1]) (rest := [.ref (q 0)]) ⟨hx, hb, hml, hown, hts⟩ (ktX5_isIn l H.size v2.toInt64 0 1 h) (va_cwS 3 hts gX5_pair_X5_isIn rfl rfl rfl (by decide +kernel) ⟨Nat.le_of_ble_eq_true rfl, Nat.le_of_ble_eq_true rfl⟩) ⟨pz.blind, fun U hU _ => ⟨rfl, pz.at hU⟩⟩ rfl rfl hl.1 rfl (lv_room (Nat.le_of_ble_eq_true rfl)) dX5_pair_29 ⟨Nat.le_of_ble_eq_true rfl, Nat.le_of_ble_eq_true rfl⟩) hP hS (fun r20 _ H locs h hP hS => ?_)
    refine lv_if_ne (tgt := 39) hx hb dX5_pair_32 (by decide) (fun c22 => ?_) (fun c22 => ?_)
    · have h := h.1 c22
      refine lv_iconst (v := 0) hx hb dX5_pair_39 (by decide) ?_
      exact mX5_pair_40 kd kn ka kt ku kr cn xs ys x2 y2 my tl co rg re C hK ha hN  kc u14.1 u14.2.1 u14.2.2.1 u14.2.2.2.1 u14.2.2.2.2 v1 v2 0 ls H locs h (lv_sub hl [0, 1, 2] rfl) hP hS
    · have h := h.2 c22
      refine lv_iconst (v := 2) hx hb dX5_pair_35 (by decide) ?_
      refine lv_goto (tgt := 40) hx hb dX5_pair_36 (by decide) ?_
      exact mX5_pair_40 kd kn ka kt ku kr cn xs ys x2 y2 my tl co rg re C hK ha hN  kc u14.1 u14.2.1 u14.2.2.1 u14.2.2.2.1 u14.2.2.2.2 v1 v2 2 ls H locs h (lv_sub hl [0, 1, 2] rfl) hP hS
  · have h := h.2 c19
    refine lv_iconst (v := 1) hx hb dX5_pair_21 (by decide) ?_
    refine lv_goto (tgt := 40) hx hb dX5_pair_22 (by decide) ?_
    exact mX5_pair_40 kd kn ka kt ku kr cn xs ys x2 y2 my tl co rg re C hK ha hN  kc u14.1 u14.2.1 u14.2.2.1 u14.2.2.2.1 u14.2.2.2.2 v1 v2 1 ls H locs h (lv_sub hl [0, 1, 2] rfl) hP hS

theorem fwX5_stitches_102 : Cond.fieldLink RX5 102 "MaskPartsModel" "parts" "I" ∈ wsX5_stitches := by decide +kernel
set_option maxRecDepth 20000 in
theorem iwX5_stitches_X5 : ∀ w ∈ wsX50, w ∈ wsX5_stitches := by decide +kernel
theorem fwX5_stitches_42 : Cond.fieldLink RX5 42 "MaskPartsModel" "isStitched" "[Z" ∈ wsX5_stitches := by decide +kernel
abbrev QX5_stitches (dC : Nat → ClassId) (dI : Nat → Nat → Nat) (cI cJ cZ : ClassId) (q : Nat → Nat) (sz : Nat) (kc : Int32) (kd : Int32) (kn : Int32) (kp : Int32) (ka : Int32) (kt : Int32) (ku : Int32) (kr : Int32) (cn : (Nat → Int32)) (xs : (Nat → Int32)) (ys : (Nat → Int32)) (x2 : (Nat → Int32)) (y2 : (Nat → Int32)) (my : (Nat → Int32)) (tl : (Nat → Int32)) (po : (Nat → Int32)) (so : (Nat → Int32)) (st : (Nat → Int32)) (nr : (Nat → Int64)) (co : (Nat → Int32)) (rg : (Nat → Int32)) (re : (Nat → Int64)) (K : Int32 → Prop) : Array Value → State → Outcome → State → Prop := va_Qi (fun (r : Int32) (u : Unit) => K r) (fun (u : Unit) t => va_P (dC, dI) vwCl (WM q cI cJ cZ kc kd kn kp ka kt ku kr cn xs ys x2 y2 my tl po so st nr co rg re) t.heap) (AF q 15 sz)
def bkX5_stitches_27 (kp : Int32) (st : (Nat → Int32)) (K : Int32 → Prop) (k4 : Int32 → Int32 → Prop) (v2 : Int32) (s0 : Int32) (s1 : Int32) : Prop := (∀ i1 : Int32, i1 = (s0 + s1) → (∀ i2 : Int32, i2 = v2 + 1 → k4 i1 i2))
set_option maxHeartbeats 4000000 in
set_option maxRecDepth 100000 in
theorem mX5_stitches_27 {p : Program} {l : Launch} {e : Env} {s : State} {m : MethodId} {av : Array Value} {below : List Frame} {meth : Method} {c : Code} {dC : Nat → ClassId} {dI : Nat → Nat → Nat} {cI cJ cZ : ClassId} {q : Nat → Nat} {K : Int32 → Prop} {k4 : Int32 → Int32 → Prop} (kc : Int32) (kd : Int32) (kn : Int32) (kp : Int32) (ka : Int32) (kt : Int32) (ku : Int32) (kr : Int32) (cn : (Nat → Int32)) (xs : (Nat → Int32)) (ys : (Nat → Int32)) (x2 : (Nat → Int32)) (y2 : (Nat → Int32)) (my : (Nat → Int32)) (tl : (Nat → Int32)) (po : (Nat → Int32)) (so : (Nat → Int32)) (st : (Nat → Int32)) (nr : (Nat → Int64)) (co : (Nat → Int32)) (rg : (Nat → Int32)) (re : (Nat → Int64)) (C : CX p s m av meth c cX5_stitches 3 (some .int) RX5 wsX5_stitches) (hK : va_K (dC, dI) vwCl (TY cI cJ cZ) s) (ha : apart q 15) (hN : NX s) (hk4 : ∀ (v1 : Int32) (v2 : Int32) (ls : Array Slot) (H : Heap) (locs : List Loc), k4 v1 v2 → lv_has ls 3 [(0, .ref (q 0)), (1, .int v1), (2, .int v2)] → va_P (dC, dI) vwCl (WM q cI cJ cZ kc kd kn kp ka kt ku kr cn xs ys x2 y2 my tl po so st nr co rg re) H → va_S (AF q 15 s.heap.size) s.heap H locs → W p l e { frames := 0, cells := 0, slots := 0, locals := 0 } s m av below meth c H locs 0 0 (MQ below (QX5_stitches dC dI cI cJ cZ q s.heap.size kc kd kn kp ka kt ku kr cn xs ys x2 y2 my tl po so st nr co rg re K) av s 0 0 (AF q 15 s.heap.size)) (F0 m 4 ls [])) : ∀ (v2 : Int32) (s0 : Int32) (s1 : Int32) (ls : Array Slot) (H : Heap) (locs : List Loc), bkX5_stitches_27 kp st K k4 v2 s0 s1 → lv_has ls 3 [(0, .ref (q 0)), (2, .int v2)] → va_P (dC, dI) vwCl (WM q cI cJ cZ kc kd kn kp ka kt ku kr cn xs ys x2 y2 my tl po so st nr co rg re) H → va_S (AF q 15 s.heap.size) s.heap H locs → W p l e { frames := 0, cells := 0, slots := 0, locals := 0 } s m av below meth c H locs 0 0 (MQ below (QX5_stitches dC dI cI cJ cZ q s.heap.size kc kd kn kp ka kt ku kr cn xs ys x2 y2 my tl po so st nr co rg re K) av s 0 0 (AF q 15 s.heap.size)) (F0 m 27 ls [.int s1, .int s0]) := by
  obtain ⟨hx, hb, hr, hml, hown, hts, hlk⟩ := id C
  intro v2 s0 s1 ls H locs h hl hP hS
  unfold bkX5_stitches_27 at h
  refine lv_iadd hx hb dX5_stitches_27 ?_
  refine lv_topi (fun i1 ei1 => ?_)
  have h := h i1 ei1
  refine lv_istore_n (lv' := [(1, .int i1), (0, .ref (q 0)), (2, .int v2)]) hx hb dX5_stitches_28 rfl hl (by decide) rfl (fun ls hl => ?_)
  obtain ⟨i2, ei2⟩ : ∃ y : Int32, y = v2 + 1 := ⟨_, rfl⟩
  refine lv_iinc (v := i2) (lv' := [(2, .int i2), (1, .int i1), (0, .ref (q 0))]) hx hb dX5_stitches_29 hl (k := 2) rfl (by rw [ei2]; rfl) (by decide) rfl (fun ls hl => ?_)
  have h := h i2 ei2
  refine lv_goto (tgt := 4) hx hb dX5_stitches_32 (by decide) ?_
  exact hk4 i1 i2 ls H locs h (lv_sub hl [2, 1, 0] rfl) hP hS
def lpX5_stitches_4 (kp : Int32) (st : (Nat → Int32)) (K : Int32 → Prop) (k35 : Int32 → Prop) : Nat → Int32 → Int32 → Prop
  | 0, _, _ => False
  | n + 1, v1, v2 => ((kp ≤ v2 → k35 v1) ∧ (¬ (kp ≤ v2) → (vp_in v2 40 ∧ (((st v2.toNatClampNeg) = 0 → bkX5_stitches_27 kp st K (fun v1 v2 => lpX5_stitches_4 kp st K k35 n v1 v2) v2 v1 0) ∧ (¬ ((st v2.toNatClampNeg) = 0) → bkX5_stitches_27 kp st K (fun v1 v2 => lpX5_stitches_4 kp st K k35 n v1 v2) v2 v1 1)))))
set_option maxHeartbeats 4000000 in
set_option maxRecDepth 100000 in
theorem mX5_stitches_4 {p : Program} {l : Launch} {e : Env} {s : State} {m : MethodId} {av : Array Value} {below : List Frame} {meth : Method} {c : Code} {dC : Nat → ClassId} {dI : Nat → Nat → Nat} {cI cJ cZ : ClassId} {q : Nat → Nat} {K : Int32 → Prop} {k35 : Int32 → Prop} (kc : Int32) (kd : Int32) (kn : Int32) (kp : Int32) (ka : Int32) (kt : Int32) (ku : Int32) (kr : Int32) (cn : (Nat → Int32)) (xs : (Nat → Int32)) (ys : (Nat → Int32)) (x2 : (Nat → Int32)) (y2 : (Nat → Int32)) (my : (Nat → Int32)) (tl : (Nat → Int32)) (po : (Nat → Int32)) (so : (Nat → Int32)) (st : (Nat → Int32)) (nr : (Nat → Int64)) (co : (Nat → Int32)) (rg : (Nat → Int32)) (re : (Nat → Int64)) (C : CX p s m av meth c cX5_stitches 3 (some .int) RX5 wsX5_stitches) (hK : va_K (dC, dI) vwCl (TY cI cJ cZ) s) (ha : apart q 15) (hN : NX s) (hk35 : ∀ (v1 : Int32) (ls : Array Slot) (H : Heap) (locs : List Loc), k35 v1 → lv_has ls 3 [(1, .int v1)] → va_P (dC, dI) vwCl (WM q cI cJ cZ kc kd kn kp ka kt ku kr cn xs ys x2 y2 my tl po so st nr co rg re) H → va_S (AF q 15 s.heap.size) s.heap H locs → W p l e { frames := 0, cells := 0, slots := 0, locals := 0 } s m av below meth c H locs 0 0 (MQ below (QX5_stitches dC dI cI cJ cZ q s.heap.size kc kd kn kp ka kt ku kr cn xs ys x2 y2 my tl po so st nr co rg re K) av s 0 0 (AF q 15 s.heap.size)) (F0 m 35 ls [])) : ∀ (n : Nat) (v1 : Int32) (v2 : Int32) (ls : Array Slot) (H : Heap) (locs : List Loc), lpX5_stitches_4 kp st K k35 n v1 v2 → lv_has ls 3 [(0, .ref (q 0)), (1, .int v1), (2, .int v2)] → va_P (dC, dI) vwCl (WM q cI cJ cZ kc kd kn kp ka kt ku kr cn xs ys x2 y2 my tl po so st nr co rg re) H → va_S (AF q 15 s.heap.size) s.heap H locs → W p l e { frames := 0, cells := 0, slots := 0, locals := 0 } s m av below meth c H locs 0 0 (MQ below (QX5_stitches dC dI cI cJ cZ q s.heap.size kc kd kn kp ka kt ku kr cn xs ys x2 y2 my tl po so st nr co rg re K) av s 0 0 (AF q 15 s.heap.size)) (F0 m 4 ls []) := by
  obtain ⟨hx, hb, hr, hml, hown, hts, hlk⟩ := id C
  intro n
  induction n with
  | zero =>
    intro v1 v2 ls H locs h
    exact h.elim
  | succ n ih =>
    intro v1 v2 ls H locs h hl hP hS
    rw [lpX5_stitches_4.eq_2] at h
    refine lv_iload_n hx hb dX5_stitches_4 rfl (lv_at hl 2 rfl) ?_
    refine lv_aload_n hx hb dX5_stitches_5 rfl (lv_at hl 0 rfl) ?_
    refine va_get (D := (dC, dI)) (ci := 5) (v := .int kp) (C := RX5) (T := TX5) (N := 22) hx hb hts iwX5_stitches_X5 hown hK hP 0 rfl rfl 10 (by decide) (hts _ fwX5_stitches_102) (fun _ h9 => h9) rfl dX5_stitches_6 ?_
    refine lv_icmp_ge (tgt := 35) hx hb dX5_stitches_9 (by decide) (fun c3 => ?_) (fun c3 => ?_)
    · have h := h.1 c3
      exact hk35 v1 ls H locs h (lv_sub hl [1] rfl) hP hS
    · have h := h.2 c3
      refine lv_iload_n hx hb dX5_stitches_12 rfl (lv_at hl 1 rfl) ?_
      refine lv_aload_n hx hb dX5_stitches_13 rfl (lv_at hl 0 rfl) ?_
      refine va_get (D := (dC, dI)) (ci := 5) (v := .ref (q 10)) (C := RX5) (T := TX5) (N := 22) hx hb hts iwX5_stitches_X5 hown hK hP 0 rfl rfl 13 (by decide) (hts _ fwX5_stitches_42) (fun _ h9 => h9) rfl dX5_stitches_14 ?_
      refine lv_iload_n hx hb dX5_stitches_17 rfl (lv_at hl 2 rfl) ?_
      obtain ⟨b4, h⟩ := h
      refine va_zald (D := (dC, dI)) hx hb hK hP 10 2 rfl rfl b4 dX5_stitches_18 ?_
      refine lv_if_eq (tgt := 26) hx hb dX5_stitches_19 (by decide) (fun c5 => ?_) (fun c5 => ?_)
      · have h := h.1 c5
        refine lv_iconst (v := 0) hx hb dX5_stitches_26 (by decide) ?_
        exact mX5_stitches_27 kc kd kn kp ka kt ku kr cn xs ys x2 y2 my tl po so st nr co rg re C hK ha hN (fun v1 v2 ls H locs h hl hP hS => ih v1 v2 ls H locs h hl hP hS) v2 v1 0 ls H locs h (lv_sub hl [0, 2] rfl) hP hS
      · have h := h.2 c5
        refine lv_iconst (v := 1) hx hb dX5_stitches_22 (by decide) ?_
        refine lv_goto (tgt := 27) hx hb dX5_stitches_23 (by decide) ?_
        exact mX5_stitches_27 kc kd kn kp ka kt ku kr cn xs ys x2 y2 my tl po so st nr co rg re C hK ha hN (fun v1 v2 ls H locs h hl hP hS => ih v1 v2 ls H locs h hl hP hS) v2 v1 1 ls H locs h (lv_sub hl [0, 2] rfl) hP hS
def wX5_stitches (kp : Int32) (st : (Nat → Int32))  (K : Int32 → Prop) : Prop := (∃ z4, lpX5_stitches_4 kp st K (fun (v1 : Int32) => K v1 ) z4 0 0)
set_option maxHeartbeats 4000000 in
set_option maxRecDepth 100000 in
theorem ktX5_stitches (l : Launch) (dC : Nat → ClassId) (dI : Nat → Nat → Nat) (q : Nat → Nat) (cI cJ cZ : ClassId) (sz : Nat) (kc : Int32) (kd : Int32) (kn : Int32) (kp : Int32) (ka : Int32) (kt : Int32) (ku : Int32) (kr : Int32) (cn : (Nat → Int32)) (xs : (Nat → Int32)) (ys : (Nat → Int32)) (x2 : (Nat → Int32)) (y2 : (Nat → Int32)) (my : (Nat → Int32)) (tl : (Nat → Int32)) (po : (Nat → Int32)) (so : (Nat → Int32)) (st : (Nat → Int32)) (nr : (Nat → Int64)) (co : (Nat → Int32)) (rg : (Nat → Int32)) (re : (Nat → Int64))  {K : Int32 → Prop} (h : wX5_stitches kp st K) : Met l yX5_stitches wsX5_stitches { frames := 0, cells := 0, slots := 0, locals := 0 } (va_Pc [.ref (q 0)] (wd dC dI cI cJ cZ q 15 sz (WM q cI cJ cZ kc kd kn kp ka kt ku kr cn xs ys x2 y2 my tl po so st nr co rg re))) (QX5_stitches dC dI cI cJ cZ q sz kc kd kn kp ka kt ku kr cn xs ys x2 y2 my tl po so st nr co rg re K) 0 0 (AF q 15 sz) := by
  refine met_of [.ref (q 0)] (by decide +kernel) rfl (Nat.le_of_ble_eq_true rfl) ?_
  intro p e s m below meth c ls hsz C hK ha hN hl hP
  subst hsz
  obtain ⟨hx, hb, hr, hml, hown, hts, hlk⟩ := id C
  have hl : lv_has ls 3 [(0, .ref (q 0))] := hl
  refine w_go (Pw := fun H => va_P (dC, dI) vwCl (WM q cI cJ cZ kc kd kn kp ka kt ku kr cn xs ys x2 y2 my tl po so st nr co rg re) H) (A := AF q 15 s.heap.size) (fun H locs hP hS => ?_) hP
  unfold wX5_stitches at h
  refine lv_iconst (v := 0) hx hb dX5_stitches_0 (by decide) ?_
  refine lv_istore_n (lv' := [(1, .int 0), (0, .ref (q 0))]) hx hb dX5_stitches_1 rfl hl (by decide) rfl (fun ls hl => ?_)
  refine lv_iconst (v := 0) hx hb dX5_stitches_2 (by decide) ?_
  refine lv_istore_n (lv' := [(2, .int 0), (1, .int 0), (0, .ref (q 0))]) hx hb dX5_stitches_3 rfl hl (by decide) rfl (fun ls hl => ?_)
  obtain ⟨n9, h⟩ := h
  exact mX5_stitches_4 kc kd kn kp ka kt ku kr cn xs ys x2 y2 my tl po so st nr co rg re C hK ha hN (fun v1 ls H locs h hl hP hS => by
      refine lv_iload_n hx hb dX5_stitches_35 rfl (lv_at hl 0 rfl) ?_
      exact rt_i () hx hb hr hlk h (fun t ht => by rw [ht]; exact hP) hS dX5_stitches_36) n9 0 0 ls H locs h (lv_sub hl [2, 1, 0] rfl) hP hS

theorem fwX5_usedUpTo_42 : Cond.fieldLink RX5 42 "MaskPartsModel" "isStitched" "[Z" ∈ wsX5_usedUpTo := by decide +kernel
set_option maxRecDepth 20000 in
theorem iwX5_usedUpTo_X5 : ∀ w ∈ wsX50, w ∈ wsX5_usedUpTo := by decide +kernel
theorem fwX5_usedUpTo_52 : Cond.fieldLink RX5 52 "MaskPartsModel" "colours" "[I" ∈ wsX5_usedUpTo := by decide +kernel
abbrev QX5_usedUpTo (dC : Nat → ClassId) (dI : Nat → Nat → Nat) (cI cJ cZ : ClassId) (q : Nat → Nat) (sz : Nat) (kc : Int32) (kd : Int32) (kn : Int32) (kp : Int32) (ka : Int32) (kt : Int32) (ku : Int32) (kr : Int32) (cn : (Nat → Int32)) (xs : (Nat → Int32)) (ys : (Nat → Int32)) (x2 : (Nat → Int32)) (y2 : (Nat → Int32)) (my : (Nat → Int32)) (tl : (Nat → Int32)) (po : (Nat → Int32)) (so : (Nat → Int32)) (st : (Nat → Int32)) (nr : (Nat → Int64)) (co : (Nat → Int32)) (rg : (Nat → Int32)) (re : (Nat → Int64)) (K : Int32 → Prop) : Array Value → State → Outcome → State → Prop := va_Qi (fun (r : Int32) (u : Unit) => K r) (fun (u : Unit) t => va_P (dC, dI) vwCl (WM q cI cJ cZ kc kd kn kp ka kt ku kr cn xs ys x2 y2 my tl po so st nr co rg re) t.heap) (AF q 15 sz)
def bkX5_usedUpTo_41 (st : (Nat → Int32)) (co : (Nat → Int32)) (K : Int32 → Prop) (k4 : Int32 → Int32 → Int32 → Prop) (v1 : Int32) (v3 : Int32) (s0 : Int32) (s1 : Int32) : Prop := (∀ i1 : Int32, i1 = (s0 + s1) → (∀ i2 : Int32, i2 = v3 + 1 → k4 v1 i1 i2))
set_option maxHeartbeats 4000000 in
set_option maxRecDepth 100000 in
theorem mX5_usedUpTo_41 {p : Program} {l : Launch} {e : Env} {s : State} {m : MethodId} {av : Array Value} {below : List Frame} {meth : Method} {c : Code} {dC : Nat → ClassId} {dI : Nat → Nat → Nat} {cI cJ cZ : ClassId} {q : Nat → Nat} {K : Int32 → Prop} {k4 : Int32 → Int32 → Int32 → Prop} (kc : Int32) (kd : Int32) (kn : Int32) (kp : Int32) (ka : Int32) (kt : Int32) (ku : Int32) (kr : Int32) (cn : (Nat → Int32)) (xs : (Nat → Int32)) (ys : (Nat → Int32)) (x2 : (Nat → Int32)) (y2 : (Nat → Int32)) (my : (Nat → Int32)) (tl : (Nat → Int32)) (po : (Nat → Int32)) (so : (Nat → Int32)) (st : (Nat → Int32)) (nr : (Nat → Int64)) (co : (Nat → Int32)) (rg : (Nat → Int32)) (re : (Nat → Int64)) (C : CX p s m av meth c cX5_usedUpTo 4 (some .int) RX5 wsX5_usedUpTo) (hK : va_K (dC, dI) vwCl (TY cI cJ cZ) s) (ha : apart q 15) (hN : NX s) (hk4 : ∀ (v1 : Int32) (v2 : Int32) (v3 : Int32) (ls : Array Slot) (H : Heap) (locs : List Loc), k4 v1 v2 v3 → lv_has ls 4 [(0, .ref (q 0)), (1, .int v1), (2, .int v2), (3, .int v3)] → va_P (dC, dI) vwCl (WM q cI cJ cZ kc kd kn kp ka kt ku kr cn xs ys x2 y2 my tl po so st nr co rg re) H → va_S (AF q 15 s.heap.size) s.heap H locs → W p l e { frames := 0, cells := 0, slots := 0, locals := 0 } s m av below meth c H locs 0 0 (MQ below (QX5_usedUpTo dC dI cI cJ cZ q s.heap.size kc kd kn kp ka kt ku kr cn xs ys x2 y2 my tl po so st nr co rg re K) av s 0 0 (AF q 15 s.heap.size)) (F0 m 4 ls [])) : ∀ (v1 : Int32) (v3 : Int32) (s0 : Int32) (s1 : Int32) (ls : Array Slot) (H : Heap) (locs : List Loc), bkX5_usedUpTo_41 st co K k4 v1 v3 s0 s1 → lv_has ls 4 [(0, .ref (q 0)), (1, .int v1), (3, .int v3)] → va_P (dC, dI) vwCl (WM q cI cJ cZ kc kd kn kp ka kt ku kr cn xs ys x2 y2 my tl po so st nr co rg re) H → va_S (AF q 15 s.heap.size) s.heap H locs → W p l e { frames := 0, cells := 0, slots := 0, locals := 0 } s m av below meth c H locs 0 0 (MQ below (QX5_usedUpTo dC dI cI cJ cZ q s.heap.size kc kd kn kp ka kt ku kr cn xs ys x2 y2 my tl po so st nr co rg re K) av s 0 0 (AF q 15 s.heap.size)) (F0 m 41 ls [.int s1, .int s0]) := by
  obtain ⟨hx, hb, hr, hml, hown, hts, hlk⟩ := id C
  intro v1 v3 s0 s1 ls H locs h hl hP hS
  unfold bkX5_usedUpTo_41 at h
  refine lv_iadd hx hb dX5_usedUpTo_41 ?_
  refine lv_topi (fun i1 ei1 => ?_)
  have h := h i1 ei1
  refine lv_istore_n (lv' := [(2, .int i1), (0, .ref (q 0)), (1, .int v1), (3, .int v3)]) hx hb dX5_usedUpTo_42 rfl hl (by decide) rfl (fun ls hl => ?_)
  obtain ⟨i2, ei2⟩ : ∃ y : Int32, y = v3 + 1 := ⟨_, rfl⟩
  refine lv_iinc (v := i2) (lv' := [(3, .int i2), (2, .int i1), (0, .ref (q 0)), (1, .int v1)]) hx hb dX5_usedUpTo_43 hl (k := 3) rfl (by rw [ei2]; rfl) (by decide) rfl (fun ls hl => ?_)
  have h := h i2 ei2
  refine lv_goto (tgt := 4) hx hb dX5_usedUpTo_46 (by decide) ?_
  exact hk4 v1 i1 i2 ls H locs h (lv_sub hl [2, 3, 1, 0] rfl) hP hS
def bkX5_usedUpTo_40 (st : (Nat → Int32)) (co : (Nat → Int32)) (K : Int32 → Prop) (k4 : Int32 → Int32 → Int32 → Prop) (v1 : Int32) (v3 : Int32) (s0 : Int32) : Prop := bkX5_usedUpTo_41 st co K k4 v1 v3 s0 0
set_option maxHeartbeats 4000000 in
set_option maxRecDepth 100000 in
theorem mX5_usedUpTo_40 {p : Program} {l : Launch} {e : Env} {s : State} {m : MethodId} {av : Array Value} {below : List Frame} {meth : Method} {c : Code} {dC : Nat → ClassId} {dI : Nat → Nat → Nat} {cI cJ cZ : ClassId} {q : Nat → Nat} {K : Int32 → Prop} {k4 : Int32 → Int32 → Int32 → Prop} (kc : Int32) (kd : Int32) (kn : Int32) (kp : Int32) (ka : Int32) (kt : Int32) (ku : Int32) (kr : Int32) (cn : (Nat → Int32)) (xs : (Nat → Int32)) (ys : (Nat → Int32)) (x2 : (Nat → Int32)) (y2 : (Nat → Int32)) (my : (Nat → Int32)) (tl : (Nat → Int32)) (po : (Nat → Int32)) (so : (Nat → Int32)) (st : (Nat → Int32)) (nr : (Nat → Int64)) (co : (Nat → Int32)) (rg : (Nat → Int32)) (re : (Nat → Int64)) (C : CX p s m av meth c cX5_usedUpTo 4 (some .int) RX5 wsX5_usedUpTo) (hK : va_K (dC, dI) vwCl (TY cI cJ cZ) s) (ha : apart q 15) (hN : NX s) (hk4 : ∀ (v1 : Int32) (v2 : Int32) (v3 : Int32) (ls : Array Slot) (H : Heap) (locs : List Loc), k4 v1 v2 v3 → lv_has ls 4 [(0, .ref (q 0)), (1, .int v1), (2, .int v2), (3, .int v3)] → va_P (dC, dI) vwCl (WM q cI cJ cZ kc kd kn kp ka kt ku kr cn xs ys x2 y2 my tl po so st nr co rg re) H → va_S (AF q 15 s.heap.size) s.heap H locs → W p l e { frames := 0, cells := 0, slots := 0, locals := 0 } s m av below meth c H locs 0 0 (MQ below (QX5_usedUpTo dC dI cI cJ cZ q s.heap.size kc kd kn kp ka kt ku kr cn xs ys x2 y2 my tl po so st nr co rg re K) av s 0 0 (AF q 15 s.heap.size)) (F0 m 4 ls [])) : ∀ (v1 : Int32) (v3 : Int32) (s0 : Int32) (ls : Array Slot) (H : Heap) (locs : List Loc), bkX5_usedUpTo_40 st co K k4 v1 v3 s0 → lv_has ls 4 [(0, .ref (q 0)), (1, .int v1), (3, .int v3)] → va_P (dC, dI) vwCl (WM q cI cJ cZ kc kd kn kp ka kt ku kr cn xs ys x2 y2 my tl po so st nr co rg re) H → va_S (AF q 15 s.heap.size) s.heap H locs → W p l e { frames := 0, cells := 0, slots := 0, locals := 0 } s m av below meth c H locs 0 0 (MQ below (QX5_usedUpTo dC dI cI cJ cZ q s.heap.size kc kd kn kp ka kt ku kr cn xs ys x2 y2 my tl po so st nr co rg re K) av s 0 0 (AF q 15 s.heap.size)) (F0 m 40 ls [.int s0]) := by
  obtain ⟨hx, hb, hr, hml, hown, hts, hlk⟩ := id C
  intro v1 v3 s0 ls H locs h hl hP hS
  unfold bkX5_usedUpTo_40 at h
  refine lv_iconst (v := 0) hx hb dX5_usedUpTo_40 (by decide) ?_
  exact mX5_usedUpTo_41 kc kd kn kp ka kt ku kr cn xs ys x2 y2 my tl po so st nr co rg re C hK ha hN hk4 v1 v3 s0 0 ls H locs h (lv_sub hl [0, 1, 2] rfl) hP hS
def lpX5_usedUpTo_4 (st : (Nat → Int32)) (co : (Nat → Int32)) (K : Int32 → Prop) (k49 : Int32 → Prop) : Nat → Int32 → Int32 → Int32 → Prop
  | 0, _, _, _ => False
  | n + 1, v1, v2, v3 => ((v1 < v3 → k49 v2) ∧ (¬ (v1 < v3) → (vp_in v3 40 ∧ (((st v3.toNatClampNeg) = 0 → bkX5_usedUpTo_40 st co K (fun v1 v2 v3 => lpX5_usedUpTo_4 st co K k49 n v1 v2 v3) v1 v3 v2) ∧ (¬ ((st v3.toNatClampNeg) = 0) → (vp_in v3 40 ∧ (vp_in ((v3 - 1)) 40 ∧ (((co v3.toNatClampNeg) = (co ((v3 - 1) : Int32).toNatClampNeg) → bkX5_usedUpTo_40 st co K (fun v1 v2 v3 => lpX5_usedUpTo_4 st co K k49 n v1 v2 v3) v1 v3 v2) ∧ (¬ ((co v3.toNatClampNeg) = (co ((v3 - 1) : Int32).toNatClampNeg)) → bkX5_usedUpTo_41 st co K (fun v1 v2 v3 => lpX5_usedUpTo_4 st co K k49 n v1 v2 v3) v1 v3 v2 1)))))))))
set_option maxHeartbeats 4000000 in
set_option maxRecDepth 100000 in
theorem mX5_usedUpTo_4 {p : Program} {l : Launch} {e : Env} {s : State} {m : MethodId} {av : Array Value} {below : List Frame} {meth : Method} {c : Code} {dC : Nat → ClassId} {dI : Nat → Nat → Nat} {cI cJ cZ : ClassId} {q : Nat → Nat} {K : Int32 → Prop} {k49 : Int32 → Prop} (kc : Int32) (kd : Int32) (kn : Int32) (kp : Int32) (ka : Int32) (kt : Int32) (ku : Int32) (kr : Int32) (cn : (Nat → Int32)) (xs : (Nat → Int32)) (ys : (Nat → Int32)) (x2 : (Nat → Int32)) (y2 : (Nat → Int32)) (my : (Nat → Int32)) (tl : (Nat → Int32)) (po : (Nat → Int32)) (so : (Nat → Int32)) (st : (Nat → Int32)) (nr : (Nat → Int64)) (co : (Nat → Int32)) (rg : (Nat → Int32)) (re : (Nat → Int64)) (C : CX p s m av meth c cX5_usedUpTo 4 (some .int) RX5 wsX5_usedUpTo) (hK : va_K (dC, dI) vwCl (TY cI cJ cZ) s) (ha : apart q 15) (hN : NX s) (hk49 : ∀ (v2 : Int32) (ls : Array Slot) (H : Heap) (locs : List Loc), k49 v2 → lv_has ls 4 [(2, .int v2)] → va_P (dC, dI) vwCl (WM q cI cJ cZ kc kd kn kp ka kt ku kr cn xs ys x2 y2 my tl po so st nr co rg re) H → va_S (AF q 15 s.heap.size) s.heap H locs → W p l e { frames := 0, cells := 0, slots := 0, locals := 0 } s m av below meth c H locs 0 0 (MQ below (QX5_usedUpTo dC dI cI cJ cZ q s.heap.size kc kd kn kp ka kt ku kr cn xs ys x2 y2 my tl po so st nr co rg re K) av s 0 0 (AF q 15 s.heap.size)) (F0 m 49 ls [])) : ∀ (n : Nat) (v1 : Int32) (v2 : Int32) (v3 : Int32) (ls : Array Slot) (H : Heap) (locs : List Loc), lpX5_usedUpTo_4 st co K k49 n v1 v2 v3 → lv_has ls 4 [(0, .ref (q 0)), (1, .int v1), (2, .int v2), (3, .int v3)] → va_P (dC, dI) vwCl (WM q cI cJ cZ kc kd kn kp ka kt ku kr cn xs ys x2 y2 my tl po so st nr co rg re) H → va_S (AF q 15 s.heap.size) s.heap H locs → W p l e { frames := 0, cells := 0, slots := 0, locals := 0 } s m av below meth c H locs 0 0 (MQ below (QX5_usedUpTo dC dI cI cJ cZ q s.heap.size kc kd kn kp ka kt ku kr cn xs ys x2 y2 my tl po so st nr co rg re K) av s 0 0 (AF q 15 s.heap.size)) (F0 m 4 ls []) := by
  obtain ⟨hx, hb, hr, hml, hown, hts, hlk⟩ := id C
  intro n
  induction n with
  | zero =>
    intro v1 v2 v3 ls H locs h
    exact h.elim
  | succ n ih =>
    intro v1 v2 v3 ls H locs h hl hP hS
    rw [lpX5_usedUpTo_4.eq_2] at h
    refine lv_iload_n hx hb dX5_usedUpTo_4 rfl (lv_at hl 3 rfl) ?_
    refine lv_iload_n hx hb dX5_usedUpTo_5 rfl (lv_at hl 1 rfl) ?_
    refine lv_icmp_gt (tgt := 49) hx hb dX5_usedUpTo_6 (by decide) (fun c3 => ?_) (fun c3 => ?_)
    · have h := h.1 c3
      exact hk49 v2 ls H locs h (lv_sub hl [2] rfl) hP hS
    · have h := h.2 c3
      refine lv_iload_n hx hb dX5_usedUpTo_9 rfl (lv_at hl 2 rfl) ?_
      refine lv_aload_n hx hb dX5_usedUpTo_10 rfl (lv_at hl 0 rfl) ?_
      refine va_get (D := (dC, dI)) (ci := 5) (v := .ref (q 10)) (C := RX5) (T := TX5) (N := 22) hx hb hts iwX5_usedUpTo_X5 hown hK hP 0 rfl rfl 13 (by decide) (hts _ fwX5_usedUpTo_42) (fun _ h9 => h9) rfl dX5_usedUpTo_11 ?_
      refine lv_iload_n hx hb dX5_usedUpTo_14 rfl (lv_at hl 3 rfl) ?_
      obtain ⟨b4, h⟩ := h
      refine va_zald (D := (dC, dI)) hx hb hK hP 10 2 rfl rfl b4 dX5_usedUpTo_15 ?_
      refine lv_if_eq (tgt := 40) hx hb dX5_usedUpTo_16 (by decide) (fun c5 => ?_) (fun c5 => ?_)
      · have h := h.1 c5
        exact mX5_usedUpTo_40 kc kd kn kp ka kt ku kr cn xs ys x2 y2 my tl po so st nr co rg re C hK ha hN (fun v1 v2 v3 ls H locs h hl hP hS => ih v1 v2 v3 ls H locs h hl hP hS) v1 v3 v2 ls H locs h (lv_sub hl [0, 1, 3] rfl) hP hS
      · have h := h.2 c5
        refine lv_aload_n hx hb dX5_usedUpTo_19 rfl (lv_at hl 0 rfl) ?_
        refine va_get (D := (dC, dI)) (ci := 5) (v := .ref (q 12)) (C := RX5) (T := TX5) (N := 22) hx hb hts iwX5_usedUpTo_X5 hown hK hP 0 rfl rfl 18 (by decide) (hts _ fwX5_usedUpTo_52) (fun _ h9 => h9) rfl dX5_usedUpTo_20 ?_
        refine lv_iload_n hx hb dX5_usedUpTo_23 rfl (lv_at hl 3 rfl) ?_
        obtain ⟨b6, h⟩ := h
        refine va_iald (D := (dC, dI)) hx hb hK hP 12 0 rfl rfl b6 dX5_usedUpTo_24 ?_
        refine lv_aload_n hx hb dX5_usedUpTo_25 rfl (lv_at hl 0 rfl) ?_
        refine va_get (D := (dC, dI)) (ci := 5) (v := .ref (q 12)) (C := RX5) (T := TX5) (N := 22) hx hb hts iwX5_usedUpTo_X5 hown hK hP 0 rfl rfl 18 (by decide) (hts _ fwX5_usedUpTo_52) (fun _ h9 => h9) rfl dX5_usedUpTo_26 ?_
        refine lv_iload_n hx hb dX5_usedUpTo_29 rfl (lv_at hl 3 rfl) ?_
        refine lv_iconst (v := 1) hx hb dX5_usedUpTo_30 (by decide) ?_
        refine lv_isub hx hb dX5_usedUpTo_31 ?_
        obtain ⟨b7, h⟩ := h
        refine va_iald (D := (dC, dI)) hx hb hK hP 12 0 rfl rfl b7 dX5_usedUpTo_32 ?_
        refine lv_icmp_eq (tgt := 40) hx hb dX5_usedUpTo_33 (by decide) (fun c8 => ?_) (fun c8 => ?_)
        · have h := h.1 c8
          exact mX5_usedUpTo_40 kc kd kn kp ka kt ku kr cn xs ys x2 y2 my tl po so st nr co rg re C hK ha hN (fun v1 v2 v3 ls H locs h hl hP hS => ih v1 v2 v3 ls H locs h hl hP hS) v1 v3 v2 ls H locs h (lv_sub hl [0, 1, 3] rfl) hP hS
        · have h := h.2 c8
          refine lv_iconst (v := 1) hx hb dX5_usedUpTo_36 (by decide) ?_
          refine lv_goto (tgt := 41) hx hb dX5_usedUpTo_37 (by decide) ?_
          exact mX5_usedUpTo_41 kc kd kn kp ka kt ku kr cn xs ys x2 y2 my tl po so st nr co rg re C hK ha hN (fun v1 v2 v3 ls H locs h hl hP hS => ih v1 v2 v3 ls H locs h hl hP hS) v1 v3 v2 1 ls H locs h (lv_sub hl [0, 1, 3] rfl) hP hS
def wX5_usedUpTo (st : (Nat → Int32)) (co : (Nat → Int32)) (v1 : Int32) (K : Int32 → Prop) : Prop := (∃ z4, lpX5_usedUpTo_4 st co K (fun (v2 : Int32) => K v2 ) z4 v1 0 1)
set_option maxHeartbeats 4000000 in
set_option maxRecDepth 100000 in
theorem ktX5_usedUpTo (l : Launch) (dC : Nat → ClassId) (dI : Nat → Nat → Nat) (q : Nat → Nat) (cI cJ cZ : ClassId) (sz : Nat) (kc : Int32) (kd : Int32) (kn : Int32) (kp : Int32) (ka : Int32) (kt : Int32) (ku : Int32) (kr : Int32) (cn : (Nat → Int32)) (xs : (Nat → Int32)) (ys : (Nat → Int32)) (x2 : (Nat → Int32)) (y2 : (Nat → Int32)) (my : (Nat → Int32)) (tl : (Nat → Int32)) (po : (Nat → Int32)) (so : (Nat → Int32)) (st : (Nat → Int32)) (nr : (Nat → Int64)) (co : (Nat → Int32)) (rg : (Nat → Int32)) (re : (Nat → Int64)) (v1 : Int32) {K : Int32 → Prop} (h : wX5_usedUpTo st co v1 K) : Met l yX5_usedUpTo wsX5_usedUpTo { frames := 0, cells := 0, slots := 0, locals := 0 } (va_Pc [.ref (q 0), .int v1] (wd dC dI cI cJ cZ q 15 sz (WM q cI cJ cZ kc kd kn kp ka kt ku kr cn xs ys x2 y2 my tl po so st nr co rg re))) (QX5_usedUpTo dC dI cI cJ cZ q sz kc kd kn kp ka kt ku kr cn xs ys x2 y2 my tl po so st nr co rg re K) 0 0 (AF q 15 sz) := by
  refine met_of [.ref (q 0), .int v1] (by decide +kernel) rfl (Nat.le_of_ble_eq_true rfl) ?_
  intro p e s m below meth c ls hsz C hK ha hN hl hP
  subst hsz
  obtain ⟨hx, hb, hr, hml, hown, hts, hlk⟩ := id C
  have hl : lv_has ls 4 [(0, .ref (q 0)), (1, .int v1)] := hl
  refine w_go (Pw := fun H => va_P (dC, dI) vwCl (WM q cI cJ cZ kc kd kn kp ka kt ku kr cn xs ys x2 y2 my tl po so st nr co rg re) H) (A := AF q 15 s.heap.size) (fun H locs hP hS => ?_) hP
  unfold wX5_usedUpTo at h
  refine lv_iconst (v := 0) hx hb dX5_usedUpTo_0 (by decide) ?_
  refine lv_istore_n (lv' := [(2, .int 0), (0, .ref (q 0)), (1, .int v1)]) hx hb dX5_usedUpTo_1 rfl hl (by decide) rfl (fun ls hl => ?_)
  refine lv_iconst (v := 1) hx hb dX5_usedUpTo_2 (by decide) ?_
  refine lv_istore_n (lv' := [(3, .int 1), (2, .int 0), (0, .ref (q 0)), (1, .int v1)]) hx hb dX5_usedUpTo_3 rfl hl (by decide) rfl (fun ls hl => ?_)
  obtain ⟨n9, h⟩ := h
  exact mX5_usedUpTo_4 kc kd kn kp ka kt ku kr cn xs ys x2 y2 my tl po so st nr co rg re C hK ha hN (fun v2 ls H locs h hl hP hS => by
      refine lv_iload_n hx hb dX5_usedUpTo_49 rfl (lv_at hl 0 rfl) ?_
      exact rt_i () hx hb hr hlk h (fun t ht => by rw [ht]; exact hP) hS dX5_usedUpTo_50) n9 v1 0 1 ls H locs h (lv_sub hl [2, 3, 1, 0] rfl) hP hS

theorem fwX5_fits_13 : Cond.fieldLink RX5 13 "MaskPartsModel" "counts" "[I" ∈ wsX5_fits := by decide +kernel
set_option maxRecDepth 20000 in
theorem iwX5_fits_X5 : ∀ w ∈ wsX50, w ∈ wsX5_fits := by decide +kernel
theorem fwX5_fits_36 : Cond.fieldLink RX5 36 "MaskPartsModel" "partOf" "[I" ∈ wsX5_fits := by decide +kernel
theorem fwX5_fits_33 : Cond.fieldLink RX5 33 "MaskPartsModel" "told" "[I" ∈ wsX5_fits := by decide +kernel
theorem fwX5_fits_52 : Cond.fieldLink RX5 52 "MaskPartsModel" "colours" "[I" ∈ wsX5_fits := by decide +kernel
theorem fwX5_fits_64 : Cond.fieldLink RX5 64 "MaskPartsModel" "shapes" "I" ∈ wsX5_fits := by decide +kernel
abbrev QX5_fits (dC : Nat → ClassId) (dI : Nat → Nat → Nat) (cI cJ cZ : ClassId) (q : Nat → Nat) (sz : Nat) (kc : Int32) (kd : Int32) (kn : Int32) (kp : Int32) (ka : Int32) (kt : Int32) (ku : Int32) (kr : Int32) (cn : (Nat → Int32)) (xs : (Nat → Int32)) (ys : (Nat → Int32)) (x2 : (Nat → Int32)) (y2 : (Nat → Int32)) (my : (Nat → Int32)) (tl : (Nat → Int32)) (po : (Nat → Int32)) (so : (Nat → Int32)) (st : (Nat → Int32)) (nr : (Nat → Int64)) (co : (Nat → Int32)) (rg : (Nat → Int32)) (re : (Nat → Int64)) (K : Int32 → Prop) : Array Value → State → Outcome → State → Prop := va_Qi (fun (r : Int32) (u : Unit) => K r) (fun (u : Unit) t => va_P (dC, dI) vwCl (WM q cI cJ cZ kc kd kn kp ka kt ku kr cn xs ys x2 y2 my tl po so st nr co rg re) t.heap) (AF q 15 sz)
def bkX5_fits_59 (kn : Int32) (cn : (Nat → Int32)) (tl : (Nat → Int32)) (po : (Nat → Int32)) (st : (Nat → Int32)) (nr : (Nat → Int64)) (co : (Nat → Int32)) (K : Int32 → Prop) (k18 : Int32 → Int32 → Int32 → Prop) (v1 : Int32) (v4 : Int32) (s0 : Int32) : Prop := (∀ i1 : Int32, i1 = v4 + 1 → k18 v1 s0 i1)
set_option maxHeartbeats 4000000 in
set_option maxRecDepth 100000 in
theorem mX5_fits_59 {p : Program} {l : Launch} {e : Env} {s : State} {m : MethodId} {av : Array Value} {below : List Frame} {meth : Method} {c : Code} {dC : Nat → ClassId} {dI : Nat → Nat → Nat} {cI cJ cZ : ClassId} {q : Nat → Nat} {K : Int32 → Prop} {k18 : Int32 → Int32 → Int32 → Prop} (kc : Int32) (kd : Int32) (kn : Int32) (kp : Int32) (ka : Int32) (kt : Int32) (ku : Int32) (kr : Int32) (cn : (Nat → Int32)) (xs : (Nat → Int32)) (ys : (Nat → Int32)) (x2 : (Nat → Int32)) (y2 : (Nat → Int32)) (my : (Nat → Int32)) (tl : (Nat → Int32)) (po : (Nat → Int32)) (so : (Nat → Int32)) (st : (Nat → Int32)) (nr : (Nat → Int64)) (co : (Nat → Int32)) (rg : (Nat → Int32)) (re : (Nat → Int64)) (C : CX p s m av meth c cX5_fits 7 (some .boolean) RX5 wsX5_fits) (hK : va_K (dC, dI) vwCl (TY cI cJ cZ) s) (ha : apart q 15) (hN : NX s) (hk18 : ∀ (v1 : Int32) (v3 : Int32) (v4 : Int32) (ls : Array Slot) (H : Heap) (locs : List Loc), k18 v1 v3 v4 → lv_has ls 7 [(0, .ref (q 0)), (1, .int v1), (3, .int v3), (4, .int v4)] → va_P (dC, dI) vwCl (WM q cI cJ cZ kc kd kn kp ka kt ku kr cn xs ys x2 y2 my tl po so st nr co rg re) H → va_S (AF q 15 s.heap.size) s.heap H locs → W p l e { frames := 1, cells := 0, slots := 0, locals := 23 } s m av below meth c H locs 0 0 (MQ below (QX5_fits dC dI cI cJ cZ q s.heap.size kc kd kn kp ka kt ku kr cn xs ys x2 y2 my tl po so st nr co rg re K) av s 0 0 (AF q 15 s.heap.size)) (F0 m 18 ls [])) : ∀ (v1 : Int32) (v4 : Int32) (s0 : Int32) (ls : Array Slot) (H : Heap) (locs : List Loc), bkX5_fits_59 kn cn tl po st nr co K k18 v1 v4 s0 → lv_has ls 7 [(0, .ref (q 0)), (1, .int v1), (4, .int v4)] → va_P (dC, dI) vwCl (WM q cI cJ cZ kc kd kn kp ka kt ku kr cn xs ys x2 y2 my tl po so st nr co rg re) H → va_S (AF q 15 s.heap.size) s.heap H locs → W p l e { frames := 1, cells := 0, slots := 0, locals := 23 } s m av below meth c H locs 0 0 (MQ below (QX5_fits dC dI cI cJ cZ q s.heap.size kc kd kn kp ka kt ku kr cn xs ys x2 y2 my tl po so st nr co rg re K) av s 0 0 (AF q 15 s.heap.size)) (F0 m 59 ls [.int s0]) := by
  obtain ⟨hx, hb, hr, hml, hown, hts, hlk⟩ := id C
  intro v1 v4 s0 ls H locs h hl hP hS
  unfold bkX5_fits_59 at h
  refine lv_istore_n (lv' := [(3, .int s0), (0, .ref (q 0)), (1, .int v1), (4, .int v4)]) hx hb dX5_fits_59 rfl hl (by decide) rfl (fun ls hl => ?_)
  obtain ⟨i1, ei1⟩ : ∃ y : Int32, y = v4 + 1 := ⟨_, rfl⟩
  refine lv_iinc (v := i1) (lv' := [(4, .int i1), (3, .int s0), (0, .ref (q 0)), (1, .int v1)]) hx hb dX5_fits_60 hl (k := 3) rfl (by rw [ei1]; rfl) (by decide) rfl (fun ls hl => ?_)
  have h := h i1 ei1
  refine lv_goto (tgt := 18) hx hb dX5_fits_63 (by decide) ?_
  exact hk18 v1 s0 i1 ls H locs h (lv_sub hl [2, 3, 1, 0] rfl) hP hS
def bkX5_fits_54 (kn : Int32) (cn : (Nat → Int32)) (tl : (Nat → Int32)) (po : (Nat → Int32)) (st : (Nat → Int32)) (nr : (Nat → Int64)) (co : (Nat → Int32)) (K : Int32 → Prop) (k18 : Int32 → Int32 → Int32 → Prop) (v1 : Int32) (v4 : Int32) : Prop := bkX5_fits_59 kn cn tl po st nr co K k18 v1 v4 1
set_option maxHeartbeats 4000000 in
set_option maxRecDepth 100000 in
theorem mX5_fits_54 {p : Program} {l : Launch} {e : Env} {s : State} {m : MethodId} {av : Array Value} {below : List Frame} {meth : Method} {c : Code} {dC : Nat → ClassId} {dI : Nat → Nat → Nat} {cI cJ cZ : ClassId} {q : Nat → Nat} {K : Int32 → Prop} {k18 : Int32 → Int32 → Int32 → Prop} (kc : Int32) (kd : Int32) (kn : Int32) (kp : Int32) (ka : Int32) (kt : Int32) (ku : Int32) (kr : Int32) (cn : (Nat → Int32)) (xs : (Nat → Int32)) (ys : (Nat → Int32)) (x2 : (Nat → Int32)) (y2 : (Nat → Int32)) (my : (Nat → Int32)) (tl : (Nat → Int32)) (po : (Nat → Int32)) (so : (Nat → Int32)) (st : (Nat → Int32)) (nr : (Nat → Int64)) (co : (Nat → Int32)) (rg : (Nat → Int32)) (re : (Nat → Int64)) (C : CX p s m av meth c cX5_fits 7 (some .boolean) RX5 wsX5_fits) (hK : va_K (dC, dI) vwCl (TY cI cJ cZ) s) (ha : apart q 15) (hN : NX s) (hk18 : ∀ (v1 : Int32) (v3 : Int32) (v4 : Int32) (ls : Array Slot) (H : Heap) (locs : List Loc), k18 v1 v3 v4 → lv_has ls 7 [(0, .ref (q 0)), (1, .int v1), (3, .int v3), (4, .int v4)] → va_P (dC, dI) vwCl (WM q cI cJ cZ kc kd kn kp ka kt ku kr cn xs ys x2 y2 my tl po so st nr co rg re) H → va_S (AF q 15 s.heap.size) s.heap H locs → W p l e { frames := 1, cells := 0, slots := 0, locals := 23 } s m av below meth c H locs 0 0 (MQ below (QX5_fits dC dI cI cJ cZ q s.heap.size kc kd kn kp ka kt ku kr cn xs ys x2 y2 my tl po so st nr co rg re K) av s 0 0 (AF q 15 s.heap.size)) (F0 m 18 ls [])) : ∀ (v1 : Int32) (v4 : Int32) (ls : Array Slot) (H : Heap) (locs : List Loc), bkX5_fits_54 kn cn tl po st nr co K k18 v1 v4 → lv_has ls 7 [(0, .ref (q 0)), (1, .int v1), (4, .int v4)] → va_P (dC, dI) vwCl (WM q cI cJ cZ kc kd kn kp ka kt ku kr cn xs ys x2 y2 my tl po so st nr co rg re) H → va_S (AF q 15 s.heap.size) s.heap H locs → W p l e { frames := 1, cells := 0, slots := 0, locals := 23 } s m av below meth c H locs 0 0 (MQ below (QX5_fits dC dI cI cJ cZ q s.heap.size kc kd kn kp ka kt ku kr cn xs ys x2 y2 my tl po so st nr co rg re K) av s 0 0 (AF q 15 s.heap.size)) (F0 m 54 ls []) := by
  obtain ⟨hx, hb, hr, hml, hown, hts, hlk⟩ := id C
  intro v1 v4 ls H locs h hl hP hS
  unfold bkX5_fits_54 at h
  refine lv_iconst (v := 1) hx hb dX5_fits_54 (by decide) ?_
  refine lv_goto (tgt := 59) hx hb dX5_fits_55 (by decide) ?_
  exact mX5_fits_59 kc kd kn kp ka kt ku kr cn xs ys x2 y2 my tl po so st nr co rg re C hK ha hN hk18 v1 v4 1 ls H locs h (lv_sub hl [0, 1, 2] rfl) hP hS
def bkX5_fits_58 (kn : Int32) (cn : (Nat → Int32)) (tl : (Nat → Int32)) (po : (Nat → Int32)) (st : (Nat → Int32)) (nr : (Nat → Int64)) (co : (Nat → Int32)) (K : Int32 → Prop) (k18 : Int32 → Int32 → Int32 → Prop) (v1 : Int32) (v4 : Int32) : Prop := bkX5_fits_59 kn cn tl po st nr co K k18 v1 v4 0
set_option maxHeartbeats 4000000 in
set_option maxRecDepth 100000 in
theorem mX5_fits_58 {p : Program} {l : Launch} {e : Env} {s : State} {m : MethodId} {av : Array Value} {below : List Frame} {meth : Method} {c : Code} {dC : Nat → ClassId} {dI : Nat → Nat → Nat} {cI cJ cZ : ClassId} {q : Nat → Nat} {K : Int32 → Prop} {k18 : Int32 → Int32 → Int32 → Prop} (kc : Int32) (kd : Int32) (kn : Int32) (kp : Int32) (ka : Int32) (kt : Int32) (ku : Int32) (kr : Int32) (cn : (Nat → Int32)) (xs : (Nat → Int32)) (ys : (Nat → Int32)) (x2 : (Nat → Int32)) (y2 : (Nat → Int32)) (my : (Nat → Int32)) (tl : (Nat → Int32)) (po : (Nat → Int32)) (so : (Nat → Int32)) (st : (Nat → Int32)) (nr : (Nat → Int64)) (co : (Nat → Int32)) (rg : (Nat → Int32)) (re : (Nat → Int64)) (C : CX p s m av meth c cX5_fits 7 (some .boolean) RX5 wsX5_fits) (hK : va_K (dC, dI) vwCl (TY cI cJ cZ) s) (ha : apart q 15) (hN : NX s) (hk18 : ∀ (v1 : Int32) (v3 : Int32) (v4 : Int32) (ls : Array Slot) (H : Heap) (locs : List Loc), k18 v1 v3 v4 → lv_has ls 7 [(0, .ref (q 0)), (1, .int v1), (3, .int v3), (4, .int v4)] → va_P (dC, dI) vwCl (WM q cI cJ cZ kc kd kn kp ka kt ku kr cn xs ys x2 y2 my tl po so st nr co rg re) H → va_S (AF q 15 s.heap.size) s.heap H locs → W p l e { frames := 1, cells := 0, slots := 0, locals := 23 } s m av below meth c H locs 0 0 (MQ below (QX5_fits dC dI cI cJ cZ q s.heap.size kc kd kn kp ka kt ku kr cn xs ys x2 y2 my tl po so st nr co rg re K) av s 0 0 (AF q 15 s.heap.size)) (F0 m 18 ls [])) : ∀ (v1 : Int32) (v4 : Int32) (ls : Array Slot) (H : Heap) (locs : List Loc), bkX5_fits_58 kn cn tl po st nr co K k18 v1 v4 → lv_has ls 7 [(0, .ref (q 0)), (1, .int v1), (4, .int v4)] → va_P (dC, dI) vwCl (WM q cI cJ cZ kc kd kn kp ka kt ku kr cn xs ys x2 y2 my tl po so st nr co rg re) H → va_S (AF q 15 s.heap.size) s.heap H locs → W p l e { frames := 1, cells := 0, slots := 0, locals := 23 } s m av below meth c H locs 0 0 (MQ below (QX5_fits dC dI cI cJ cZ q s.heap.size kc kd kn kp ka kt ku kr cn xs ys x2 y2 my tl po so st nr co rg re K) av s 0 0 (AF q 15 s.heap.size)) (F0 m 58 ls []) := by
  obtain ⟨hx, hb, hr, hml, hown, hts, hlk⟩ := id C
  intro v1 v4 ls H locs h hl hP hS
  unfold bkX5_fits_58 at h
  refine lv_iconst (v := 0) hx hb dX5_fits_58 (by decide) ?_
  exact mX5_fits_59 kc kd kn kp ka kt ku kr cn xs ys x2 y2 my tl po so st nr co rg re C hK ha hN hk18 v1 v4 0 ls H locs h (lv_sub hl [0, 1, 2] rfl) hP hS
def bkX5_fits_148 (kn : Int32) (cn : (Nat → Int32)) (tl : (Nat → Int32)) (po : (Nat → Int32)) (st : (Nat → Int32)) (nr : (Nat → Int64)) (co : (Nat → Int32)) (K : Int32 → Prop) (k81 : Int32 → Int32 → Int32 → Int32 → Prop) (v1 : Int32) (v4 : Int32) (v5 : Int32) (s0 : Int32) : Prop := (∀ i2 : Int32, i2 = v5 + 1 → k81 v1 s0 v4 i2)
set_option maxHeartbeats 4000000 in
set_option maxRecDepth 100000 in
theorem mX5_fits_148 {p : Program} {l : Launch} {e : Env} {s : State} {m : MethodId} {av : Array Value} {below : List Frame} {meth : Method} {c : Code} {dC : Nat → ClassId} {dI : Nat → Nat → Nat} {cI cJ cZ : ClassId} {q : Nat → Nat} {K : Int32 → Prop} {k81 : Int32 → Int32 → Int32 → Int32 → Prop} (kc : Int32) (kd : Int32) (kn : Int32) (kp : Int32) (ka : Int32) (kt : Int32) (ku : Int32) (kr : Int32) (cn : (Nat → Int32)) (xs : (Nat → Int32)) (ys : (Nat → Int32)) (x2 : (Nat → Int32)) (y2 : (Nat → Int32)) (my : (Nat → Int32)) (tl : (Nat → Int32)) (po : (Nat → Int32)) (so : (Nat → Int32)) (st : (Nat → Int32)) (nr : (Nat → Int64)) (co : (Nat → Int32)) (rg : (Nat → Int32)) (re : (Nat → Int64)) (C : CX p s m av meth c cX5_fits 7 (some .boolean) RX5 wsX5_fits) (hK : va_K (dC, dI) vwCl (TY cI cJ cZ) s) (ha : apart q 15) (hN : NX s) (hk81 : ∀ (v1 : Int32) (v3 : Int32) (v4 : Int32) (v5 : Int32) (ls : Array Slot) (H : Heap) (locs : List Loc), k81 v1 v3 v4 v5 → lv_has ls 7 [(0, .ref (q 0)), (1, .int v1), (3, .int v3), (4, .int v4), (5, .int v5)] → va_P (dC, dI) vwCl (WM q cI cJ cZ kc kd kn kp ka kt ku kr cn xs ys x2 y2 my tl po so st nr co rg re) H → va_S (AF q 15 s.heap.size) s.heap H locs → W p l e { frames := 1, cells := 0, slots := 0, locals := 23 } s m av below meth c H locs 0 0 (MQ below (QX5_fits dC dI cI cJ cZ q s.heap.size kc kd kn kp ka kt ku kr cn xs ys x2 y2 my tl po so st nr co rg re K) av s 0 0 (AF q 15 s.heap.size)) (F0 m 81 ls [])) : ∀ (v1 : Int32) (v4 : Int32) (v5 : Int32) (s0 : Int32) (ls : Array Slot) (H : Heap) (locs : List Loc), bkX5_fits_148 kn cn tl po st nr co K k81 v1 v4 v5 s0 → lv_has ls 7 [(0, .ref (q 0)), (1, .int v1), (4, .int v4), (5, .int v5)] → va_P (dC, dI) vwCl (WM q cI cJ cZ kc kd kn kp ka kt ku kr cn xs ys x2 y2 my tl po so st nr co rg re) H → va_S (AF q 15 s.heap.size) s.heap H locs → W p l e { frames := 1, cells := 0, slots := 0, locals := 23 } s m av below meth c H locs 0 0 (MQ below (QX5_fits dC dI cI cJ cZ q s.heap.size kc kd kn kp ka kt ku kr cn xs ys x2 y2 my tl po so st nr co rg re K) av s 0 0 (AF q 15 s.heap.size)) (F0 m 148 ls [.int s0]) := by
  obtain ⟨hx, hb, hr, hml, hown, hts, hlk⟩ := id C
  intro v1 v4 v5 s0 ls H locs h hl hP hS
  unfold bkX5_fits_148 at h
  refine lv_istore_n (lv' := [(3, .int s0), (0, .ref (q 0)), (1, .int v1), (4, .int v4), (5, .int v5)]) hx hb dX5_fits_148 rfl hl (by decide) rfl (fun ls hl => ?_)
  obtain ⟨i2, ei2⟩ : ∃ y : Int32, y = v5 + 1 := ⟨_, rfl⟩
  refine lv_iinc (v := i2) (lv' := [(5, .int i2), (3, .int s0), (0, .ref (q 0)), (1, .int v1), (4, .int v4)]) hx hb dX5_fits_149 hl (k := 4) rfl (by rw [ei2]; rfl) (by decide) rfl (fun ls hl => ?_)
  have h := h i2 ei2
  refine lv_goto (tgt := 81) hx hb dX5_fits_152 (by decide) ?_
  exact hk81 v1 s0 v4 i2 ls H locs h (lv_sub hl [2, 3, 1, 4, 0] rfl) hP hS
def bkX5_fits_143 (kn : Int32) (cn : (Nat → Int32)) (tl : (Nat → Int32)) (po : (Nat → Int32)) (st : (Nat → Int32)) (nr : (Nat → Int64)) (co : (Nat → Int32)) (K : Int32 → Prop) (k81 : Int32 → Int32 → Int32 → Int32 → Prop) (v1 : Int32) (v4 : Int32) (v5 : Int32) : Prop := bkX5_fits_148 kn cn tl po st nr co K k81 v1 v4 v5 1
set_option maxHeartbeats 4000000 in
set_option maxRecDepth 100000 in
theorem mX5_fits_143 {p : Program} {l : Launch} {e : Env} {s : State} {m : MethodId} {av : Array Value} {below : List Frame} {meth : Method} {c : Code} {dC : Nat → ClassId} {dI : Nat → Nat → Nat} {cI cJ cZ : ClassId} {q : Nat → Nat} {K : Int32 → Prop} {k81 : Int32 → Int32 → Int32 → Int32 → Prop} (kc : Int32) (kd : Int32) (kn : Int32) (kp : Int32) (ka : Int32) (kt : Int32) (ku : Int32) (kr : Int32) (cn : (Nat → Int32)) (xs : (Nat → Int32)) (ys : (Nat → Int32)) (x2 : (Nat → Int32)) (y2 : (Nat → Int32)) (my : (Nat → Int32)) (tl : (Nat → Int32)) (po : (Nat → Int32)) (so : (Nat → Int32)) (st : (Nat → Int32)) (nr : (Nat → Int64)) (co : (Nat → Int32)) (rg : (Nat → Int32)) (re : (Nat → Int64)) (C : CX p s m av meth c cX5_fits 7 (some .boolean) RX5 wsX5_fits) (hK : va_K (dC, dI) vwCl (TY cI cJ cZ) s) (ha : apart q 15) (hN : NX s) (hk81 : ∀ (v1 : Int32) (v3 : Int32) (v4 : Int32) (v5 : Int32) (ls : Array Slot) (H : Heap) (locs : List Loc), k81 v1 v3 v4 v5 → lv_has ls 7 [(0, .ref (q 0)), (1, .int v1), (3, .int v3), (4, .int v4), (5, .int v5)] → va_P (dC, dI) vwCl (WM q cI cJ cZ kc kd kn kp ka kt ku kr cn xs ys x2 y2 my tl po so st nr co rg re) H → va_S (AF q 15 s.heap.size) s.heap H locs → W p l e { frames := 1, cells := 0, slots := 0, locals := 23 } s m av below meth c H locs 0 0 (MQ below (QX5_fits dC dI cI cJ cZ q s.heap.size kc kd kn kp ka kt ku kr cn xs ys x2 y2 my tl po so st nr co rg re K) av s 0 0 (AF q 15 s.heap.size)) (F0 m 81 ls [])) : ∀ (v1 : Int32) (v4 : Int32) (v5 : Int32) (ls : Array Slot) (H : Heap) (locs : List Loc), bkX5_fits_143 kn cn tl po st nr co K k81 v1 v4 v5 → lv_has ls 7 [(0, .ref (q 0)), (1, .int v1), (4, .int v4), (5, .int v5)] → va_P (dC, dI) vwCl (WM q cI cJ cZ kc kd kn kp ka kt ku kr cn xs ys x2 y2 my tl po so st nr co rg re) H → va_S (AF q 15 s.heap.size) s.heap H locs → W p l e { frames := 1, cells := 0, slots := 0, locals := 23 } s m av below meth c H locs 0 0 (MQ below (QX5_fits dC dI cI cJ cZ q s.heap.size kc kd kn kp ka kt ku kr cn xs ys x2 y2 my tl po so st nr co rg re K) av s 0 0 (AF q 15 s.heap.size)) (F0 m 143 ls []) := by
  obtain ⟨hx, hb, hr, hml, hown, hts, hlk⟩ := id C
  intro v1 v4 v5 ls H locs h hl hP hS
  unfold bkX5_fits_143 at h
  refine lv_iconst (v := 1) hx hb dX5_fits_143 (by decide) ?_
  refine lv_goto (tgt := 148) hx hb dX5_fits_144 (by decide) ?_
  exact mX5_fits_148 kc kd kn kp ka kt ku kr cn xs ys x2 y2 my tl po so st nr co rg re C hK ha hN hk81 v1 v4 v5 1 ls H locs h (lv_sub hl [0, 1, 2, 3] rfl) hP hS
def bkX5_fits_147 (kn : Int32) (cn : (Nat → Int32)) (tl : (Nat → Int32)) (po : (Nat → Int32)) (st : (Nat → Int32)) (nr : (Nat → Int64)) (co : (Nat → Int32)) (K : Int32 → Prop) (k81 : Int32 → Int32 → Int32 → Int32 → Prop) (v1 : Int32) (v4 : Int32) (v5 : Int32) : Prop := bkX5_fits_148 kn cn tl po st nr co K k81 v1 v4 v5 0
set_option maxHeartbeats 4000000 in
set_option maxRecDepth 100000 in
theorem mX5_fits_147 {p : Program} {l : Launch} {e : Env} {s : State} {m : MethodId} {av : Array Value} {below : List Frame} {meth : Method} {c : Code} {dC : Nat → ClassId} {dI : Nat → Nat → Nat} {cI cJ cZ : ClassId} {q : Nat → Nat} {K : Int32 → Prop} {k81 : Int32 → Int32 → Int32 → Int32 → Prop} (kc : Int32) (kd : Int32) (kn : Int32) (kp : Int32) (ka : Int32) (kt : Int32) (ku : Int32) (kr : Int32) (cn : (Nat → Int32)) (xs : (Nat → Int32)) (ys : (Nat → Int32)) (x2 : (Nat → Int32)) (y2 : (Nat → Int32)) (my : (Nat → Int32)) (tl : (Nat → Int32)) (po : (Nat → Int32)) (so : (Nat → Int32)) (st : (Nat → Int32)) (nr : (Nat → Int64)) (co : (Nat → Int32)) (rg : (Nat → Int32)) (re : (Nat → Int64)) (C : CX p s m av meth c cX5_fits 7 (some .boolean) RX5 wsX5_fits) (hK : va_K (dC, dI) vwCl (TY cI cJ cZ) s) (ha : apart q 15) (hN : NX s) (hk81 : ∀ (v1 : Int32) (v3 : Int32) (v4 : Int32) (v5 : Int32) (ls : Array Slot) (H : Heap) (locs : List Loc), k81 v1 v3 v4 v5 → lv_has ls 7 [(0, .ref (q 0)), (1, .int v1), (3, .int v3), (4, .int v4), (5, .int v5)] → va_P (dC, dI) vwCl (WM q cI cJ cZ kc kd kn kp ka kt ku kr cn xs ys x2 y2 my tl po so st nr co rg re) H → va_S (AF q 15 s.heap.size) s.heap H locs → W p l e { frames := 1, cells := 0, slots := 0, locals := 23 } s m av below meth c H locs 0 0 (MQ below (QX5_fits dC dI cI cJ cZ q s.heap.size kc kd kn kp ka kt ku kr cn xs ys x2 y2 my tl po so st nr co rg re K) av s 0 0 (AF q 15 s.heap.size)) (F0 m 81 ls [])) : ∀ (v1 : Int32) (v4 : Int32) (v5 : Int32) (ls : Array Slot) (H : Heap) (locs : List Loc), bkX5_fits_147 kn cn tl po st nr co K k81 v1 v4 v5 → lv_has ls 7 [(0, .ref (q 0)), (1, .int v1), (4, .int v4), (5, .int v5)] → va_P (dC, dI) vwCl (WM q cI cJ cZ kc kd kn kp ka kt ku kr cn xs ys x2 y2 my tl po so st nr co rg re) H → va_S (AF q 15 s.heap.size) s.heap H locs → W p l e { frames := 1, cells := 0, slots := 0, locals := 23 } s m av below meth c H locs 0 0 (MQ below (QX5_fits dC dI cI cJ cZ q s.heap.size kc kd kn kp ka kt ku kr cn xs ys x2 y2 my tl po so st nr co rg re K) av s 0 0 (AF q 15 s.heap.size)) (F0 m 147 ls []) := by
  obtain ⟨hx, hb, hr, hml, hown, hts, hlk⟩ := id C
  intro v1 v4 v5 ls H locs h hl hP hS
  unfold bkX5_fits_147 at h
  refine lv_iconst (v := 0) hx hb dX5_fits_147 (by decide) ?_
  exact mX5_fits_148 kc kd kn kp ka kt ku kr cn xs ys x2 y2 my tl po so st nr co rg re C hK ha hN hk81 v1 v4 v5 0 ls H locs h (lv_sub hl [0, 1, 2, 3] rfl) hP hS
def lpX5_fits_81 (kn : Int32) (cn : (Nat → Int32)) (tl : (Nat → Int32)) (po : (Nat → Int32)) (st : (Nat → Int32)) (nr : (Nat → Int64)) (co : (Nat → Int32)) (K : Int32 → Prop) (k155 : Int32 → Int32 → Int32 → Prop) : Nat → Int32 → Int32 → Int32 → Int32 → Prop
  | 0, _, _, _, _ => False
  | n + 1, v1, v3, v4, v5 => (vp_in v4 10 ∧ (((cn v4.toNatClampNeg) ≤ v5 → k155 v1 v3 v4) ∧ (¬ ((cn v4.toNatClampNeg) ≤ v5) → (∀ i5 : Int32, i5 = ((4 * v4) + v5) → ((v3 = 0 → bkX5_fits_147 kn cn tl po st nr co K (fun v1 v3 v4 v5 => lpX5_fits_81 kn cn tl po st nr co K k155 n v1 v3 v4 v5) v1 v4 v5) ∧ (¬ (v3 = 0) → (vp_in i5 40 ∧ ((¬ (po i5.toNatClampNeg) = v1 → bkX5_fits_143 kn cn tl po st nr co K (fun v1 v3 v4 v5 => lpX5_fits_81 kn cn tl po st nr co K k155 n v1 v3 v4 v5) v1 v4 v5) ∧ ((po i5.toNatClampNeg) = v1 → (vp_in i5 40 ∧ (((tl i5.toNatClampNeg) < 0 → bkX5_fits_143 kn cn tl po st nr co K (fun v1 v3 v4 v5 => lpX5_fits_81 kn cn tl po st nr co K k155 n v1 v3 v4 v5) v1 v4 v5) ∧ (¬ ((tl i5.toNatClampNeg) < 0) → (vp_in i5 40 ∧ (vp_in v1 40 ∧ ((¬ (tl i5.toNatClampNeg) = (co v1.toNatClampNeg) → bkX5_fits_147 kn cn tl po st nr co K (fun v1 v3 v4 v5 => lpX5_fits_81 kn cn tl po st nr co K k155 n v1 v3 v4 v5) v1 v4 v5) ∧ ((tl i5.toNatClampNeg) = (co v1.toNatClampNeg) → bkX5_fits_143 kn cn tl po st nr co K (fun v1 v3 v4 v5 => lpX5_fits_81 kn cn tl po st nr co K k155 n v1 v3 v4 v5) v1 v4 v5))))))))))))))))
set_option maxHeartbeats 4000000 in
set_option maxRecDepth 100000 in
theorem mX5_fits_81 {p : Program} {l : Launch} {e : Env} {s : State} {m : MethodId} {av : Array Value} {below : List Frame} {meth : Method} {c : Code} {dC : Nat → ClassId} {dI : Nat → Nat → Nat} {cI cJ cZ : ClassId} {q : Nat → Nat} {K : Int32 → Prop} {k155 : Int32 → Int32 → Int32 → Prop} (kc : Int32) (kd : Int32) (kn : Int32) (kp : Int32) (ka : Int32) (kt : Int32) (ku : Int32) (kr : Int32) (cn : (Nat → Int32)) (xs : (Nat → Int32)) (ys : (Nat → Int32)) (x2 : (Nat → Int32)) (y2 : (Nat → Int32)) (my : (Nat → Int32)) (tl : (Nat → Int32)) (po : (Nat → Int32)) (so : (Nat → Int32)) (st : (Nat → Int32)) (nr : (Nat → Int64)) (co : (Nat → Int32)) (rg : (Nat → Int32)) (re : (Nat → Int64)) (C : CX p s m av meth c cX5_fits 7 (some .boolean) RX5 wsX5_fits) (hK : va_K (dC, dI) vwCl (TY cI cJ cZ) s) (ha : apart q 15) (hN : NX s) (hk155 : ∀ (v1 : Int32) (v3 : Int32) (v4 : Int32) (ls : Array Slot) (H : Heap) (locs : List Loc), k155 v1 v3 v4 → lv_has ls 7 [(0, .ref (q 0)), (1, .int v1), (3, .int v3), (4, .int v4)] → va_P (dC, dI) vwCl (WM q cI cJ cZ kc kd kn kp ka kt ku kr cn xs ys x2 y2 my tl po so st nr co rg re) H → va_S (AF q 15 s.heap.size) s.heap H locs → W p l e { frames := 1, cells := 0, slots := 0, locals := 23 } s m av below meth c H locs 0 0 (MQ below (QX5_fits dC dI cI cJ cZ q s.heap.size kc kd kn kp ka kt ku kr cn xs ys x2 y2 my tl po so st nr co rg re K) av s 0 0 (AF q 15 s.heap.size)) (F0 m 155 ls [])) : ∀ (n : Nat) (v1 : Int32) (v3 : Int32) (v4 : Int32) (v5 : Int32) (ls : Array Slot) (H : Heap) (locs : List Loc), lpX5_fits_81 kn cn tl po st nr co K k155 n v1 v3 v4 v5 → lv_has ls 7 [(0, .ref (q 0)), (1, .int v1), (3, .int v3), (4, .int v4), (5, .int v5)] → va_P (dC, dI) vwCl (WM q cI cJ cZ kc kd kn kp ka kt ku kr cn xs ys x2 y2 my tl po so st nr co rg re) H → va_S (AF q 15 s.heap.size) s.heap H locs → W p l e { frames := 1, cells := 0, slots := 0, locals := 23 } s m av below meth c H locs 0 0 (MQ below (QX5_fits dC dI cI cJ cZ q s.heap.size kc kd kn kp ka kt ku kr cn xs ys x2 y2 my tl po so st nr co rg re K) av s 0 0 (AF q 15 s.heap.size)) (F0 m 81 ls []) := by
  obtain ⟨hx, hb, hr, hml, hown, hts, hlk⟩ := id C
  intro n
  induction n with
  | zero =>
    intro v1 v3 v4 v5 ls H locs h
    exact h.elim
  | succ n ih =>
    intro v1 v3 v4 v5 ls H locs h hl hP hS
    rw [lpX5_fits_81.eq_2] at h
    refine lv_iload hx hb dX5_fits_81 (lv_at hl 4 rfl) ?_
    refine lv_aload_n hx hb dX5_fits_83 rfl (lv_at hl 0 rfl) ?_
    refine va_get (D := (dC, dI)) (ci := 5) (v := .ref (q 1)) (C := RX5) (T := TX5) (N := 22) hx hb hts iwX5_fits_X5 hown hK hP 0 rfl rfl 3 (by decide) (hts _ fwX5_fits_13) (fun _ h9 => h9) rfl dX5_fits_84 ?_
    refine lv_iload hx hb dX5_fits_87 (lv_at hl 3 rfl) ?_
    obtain ⟨b3, h⟩ := h
    refine va_iald (D := (dC, dI)) hx hb hK hP 1 0 rfl rfl b3 dX5_fits_89 ?_
    refine lv_icmp_ge (tgt := 155) hx hb dX5_fits_90 (by decide) (fun c4 => ?_) (fun c4 => ?_)
    · have h := h.1 c4
      exact hk155 v1 v3 v4 ls H locs h (lv_sub hl [0, 1, 2, 3] rfl) hP hS
    · have h := h.2 c4
      refine lv_iconst (v := 4) hx hb dX5_fits_93 (by decide) ?_
      refine lv_iload hx hb dX5_fits_94 (lv_at hl 3 rfl) ?_
      refine lv_imul hx hb dX5_fits_96 ?_
      refine lv_iload hx hb dX5_fits_97 (lv_at hl 4 rfl) ?_
      refine lv_iadd hx hb dX5_fits_99 ?_
      refine lv_topi (fun i5 ei5 => ?_)
      have h := h i5 ei5
      refine lv_istore (lv' := [(6, .int i5), (0, .ref (q 0)), (1, .int v1), (3, .int v3), (4, .int v4), (5, .int v5)]) hx hb dX5_fits_100 hl (by decide) rfl (fun ls hl => ?_)
      refine lv_iload_n hx hb dX5_fits_102 rfl (lv_at hl 3 rfl) ?_
      refine lv_if_eq (tgt := 147) hx hb dX5_fits_103 (by decide) (fun c6 => ?_) (fun c6 => ?_)
      · have h := h.1 c6
        exact mX5_fits_147 kc kd kn kp ka kt ku kr cn xs ys x2 y2 my tl po so st nr co rg re C hK ha hN (fun v1 v3 v4 v5 ls H locs h hl hP hS => ih v1 v3 v4 v5 ls H locs h hl hP hS) v1 v4 v5 ls H locs h (lv_sub hl [1, 2, 4, 5] rfl) hP hS
      · have h := h.2 c6
        refine lv_aload_n hx hb dX5_fits_106 rfl (lv_at hl 1 rfl) ?_
        refine va_get (D := (dC, dI)) (ci := 5) (v := .ref (q 8)) (C := RX5) (T := TX5) (N := 22) hx hb hts iwX5_fits_X5 hown hK hP 0 rfl rfl 11 (by decide) (hts _ fwX5_fits_36) (fun _ h9 => h9) rfl dX5_fits_107 ?_
        refine lv_iload hx hb dX5_fits_110 (lv_at hl 0 rfl) ?_
        obtain ⟨b7, h⟩ := h
        refine va_iald (D := (dC, dI)) hx hb hK hP 8 0 rfl rfl b7 dX5_fits_112 ?_
        refine lv_iload_n hx hb dX5_fits_113 rfl (lv_at hl 2 rfl) ?_
        refine lv_icmp_ne (tgt := 143) hx hb dX5_fits_114 (by decide) (fun c8 => ?_) (fun c8 => ?_)
        · have h := h.1 c8
          exact mX5_fits_143 kc kd kn kp ka kt ku kr cn xs ys x2 y2 my tl po so st nr co rg re C hK ha hN (fun v1 v3 v4 v5 ls H locs h hl hP hS => ih v1 v3 v4 v5 ls H locs h hl hP hS) v1 v4 v5 ls H locs h (lv_sub hl [1, 2, 4, 5] rfl) hP hS
        · have h := h.2 c8
          refine lv_aload_n hx hb dX5_fits_117 rfl (lv_at hl 1 rfl) ?_
          refine va_get (D := (dC, dI)) (ci := 5) (v := .ref (q 7)) (C := RX5) (T := TX5) (N := 22) hx hb hts iwX5_fits_X5 hown hK hP 0 rfl rfl 9 (by decide) (hts _ fwX5_fits_33) (fun _ h9 => h9) rfl dX5_fits_118 ?_
          refine lv_iload hx hb dX5_fits_121 (lv_at hl 0 rfl) ?_
          obtain ⟨b9, h⟩ := h
          refine va_iald (D := (dC, dI)) hx hb hK hP 7 0 rfl rfl b9 dX5_fits_123 ?_
          refine lv_if_lt (tgt := 143) hx hb dX5_fits_124 (by decide) (fun c10 => ?_) (fun c10 => ?_)
          · have h := h.1 c10
            exact mX5_fits_143 kc kd kn kp ka kt ku kr cn xs ys x2 y2 my tl po so st nr co rg re C hK ha hN (fun v1 v3 v4 v5 ls H locs h hl hP hS => ih v1 v3 v4 v5 ls H locs h hl hP hS) v1 v4 v5 ls H locs h (lv_sub hl [1, 2, 4, 5] rfl) hP hS
          · have h := h.2 c10
            refine lv_aload_n hx hb dX5_fits_127 rfl (lv_at hl 1 rfl) ?_
            refine va_get (D := (dC, dI)) (ci := 5) (v := .ref (q 7)) (C := RX5) (T := TX5) (N := 22) hx hb hts iwX5_fits_X5 hown hK hP 0 rfl rfl 9 (by decide) (hts _ fwX5_fits_33) (fun _ h9 => h9) rfl dX5_fits_128 ?_
            refine lv_iload hx hb dX5_fits_131 (lv_at hl 0 rfl) ?_
            obtain ⟨b11, h⟩ := h
            refine va_iald (D := (dC, dI)) hx hb hK hP 7 0 rfl rfl b11 dX5_fits_133 ?_
            refine lv_aload_n hx hb dX5_fits_134 rfl (lv_at hl 1 rfl) ?_
            refine va_get (D := (dC, dI)) (ci := 5) (v := .ref (q 12)) (C := RX5) (T := TX5) (N := 22) hx hb hts iwX5_fits_X5 hown hK hP 0 rfl rfl 18 (by decide) (hts _ fwX5_fits_52) (fun _ h9 => h9) rfl dX5_fits_135 ?_
            refine lv_iload_n hx hb dX5_fits_138 rfl (lv_at hl 2 rfl) ?_
            obtain ⟨b12, h⟩ := h
            refine va_iald (D := (dC, dI)) hx hb hK hP 12 0 rfl rfl b12 dX5_fits_139 ?_
            refine lv_icmp_ne (tgt := 147) hx hb dX5_fits_140 (by decide) (fun c13 => ?_) (fun c13 => ?_)
            · have h := h.1 c13
              exact mX5_fits_147 kc kd kn kp ka kt ku kr cn xs ys x2 y2 my tl po so st nr co rg re C hK ha hN (fun v1 v3 v4 v5 ls H locs h hl hP hS => ih v1 v3 v4 v5 ls H locs h hl hP hS) v1 v4 v5 ls H locs h (lv_sub hl [1, 2, 4, 5] rfl) hP hS
            · have h := h.2 c13
              exact mX5_fits_143 kc kd kn kp ka kt ku kr cn xs ys x2 y2 my tl po so st nr co rg re C hK ha hN (fun v1 v3 v4 v5 ls H locs h hl hP hS => ih v1 v3 v4 v5 ls H locs h hl hP hS) v1 v4 v5 ls H locs h (lv_sub hl [1, 2, 4, 5] rfl) hP hS
def lpX5_fits_69 (kn : Int32) (cn : (Nat → Int32)) (tl : (Nat → Int32)) (po : (Nat → Int32)) (st : (Nat → Int32)) (nr : (Nat → Int64)) (co : (Nat → Int32)) (K : Int32 → Prop) (k161 : Int32 → Prop) : Nat → Int32 → Int32 → Int32 → Prop
  | 0, _, _, _ => False
  | n + 1, v1, v3, v4 => ((kn ≤ v4 → k161 v3) ∧ (¬ (kn ≤ v4) → (∃ z81, lpX5_fits_81 kn cn tl po st nr co K (fun (v1 : Int32) (v3 : Int32) (v4 : Int32) => (∀ i15 : Int32, i15 = v4 + 1 → lpX5_fits_69 kn cn tl po st nr co K k161 n v1 v3 i15)) z81 v1 v3 v4 0)))
set_option maxHeartbeats 4000000 in
set_option maxRecDepth 100000 in
theorem mX5_fits_69 {p : Program} {l : Launch} {e : Env} {s : State} {m : MethodId} {av : Array Value} {below : List Frame} {meth : Method} {c : Code} {dC : Nat → ClassId} {dI : Nat → Nat → Nat} {cI cJ cZ : ClassId} {q : Nat → Nat} {K : Int32 → Prop} {k161 : Int32 → Prop} (kc : Int32) (kd : Int32) (kn : Int32) (kp : Int32) (ka : Int32) (kt : Int32) (ku : Int32) (kr : Int32) (cn : (Nat → Int32)) (xs : (Nat → Int32)) (ys : (Nat → Int32)) (x2 : (Nat → Int32)) (y2 : (Nat → Int32)) (my : (Nat → Int32)) (tl : (Nat → Int32)) (po : (Nat → Int32)) (so : (Nat → Int32)) (st : (Nat → Int32)) (nr : (Nat → Int64)) (co : (Nat → Int32)) (rg : (Nat → Int32)) (re : (Nat → Int64)) (C : CX p s m av meth c cX5_fits 7 (some .boolean) RX5 wsX5_fits) (hK : va_K (dC, dI) vwCl (TY cI cJ cZ) s) (ha : apart q 15) (hN : NX s) (hk161 : ∀ (v3 : Int32) (ls : Array Slot) (H : Heap) (locs : List Loc), k161 v3 → lv_has ls 7 [(3, .int v3)] → va_P (dC, dI) vwCl (WM q cI cJ cZ kc kd kn kp ka kt ku kr cn xs ys x2 y2 my tl po so st nr co rg re) H → va_S (AF q 15 s.heap.size) s.heap H locs → W p l e { frames := 1, cells := 0, slots := 0, locals := 23 } s m av below meth c H locs 0 0 (MQ below (QX5_fits dC dI cI cJ cZ q s.heap.size kc kd kn kp ka kt ku kr cn xs ys x2 y2 my tl po so st nr co rg re K) av s 0 0 (AF q 15 s.heap.size)) (F0 m 161 ls [])) : ∀ (n : Nat) (v1 : Int32) (v3 : Int32) (v4 : Int32) (ls : Array Slot) (H : Heap) (locs : List Loc), lpX5_fits_69 kn cn tl po st nr co K k161 n v1 v3 v4 → lv_has ls 7 [(0, .ref (q 0)), (1, .int v1), (3, .int v3), (4, .int v4)] → va_P (dC, dI) vwCl (WM q cI cJ cZ kc kd kn kp ka kt ku kr cn xs ys x2 y2 my tl po so st nr co rg re) H → va_S (AF q 15 s.heap.size) s.heap H locs → W p l e { frames := 1, cells := 0, slots := 0, locals := 23 } s m av below meth c H locs 0 0 (MQ below (QX5_fits dC dI cI cJ cZ q s.heap.size kc kd kn kp ka kt ku kr cn xs ys x2 y2 my tl po so st nr co rg re K) av s 0 0 (AF q 15 s.heap.size)) (F0 m 69 ls []) := by
  obtain ⟨hx, hb, hr, hml, hown, hts, hlk⟩ := id C
  intro n
  induction n with
  | zero =>
    intro v1 v3 v4 ls H locs h
    exact h.elim
  | succ n ih =>
    intro v1 v3 v4 ls H locs h hl hP hS
    rw [lpX5_fits_69.eq_2] at h
    refine lv_iload hx hb dX5_fits_69 (lv_at hl 3 rfl) ?_
    refine lv_aload_n hx hb dX5_fits_71 rfl (lv_at hl 0 rfl) ?_
    refine va_get (D := (dC, dI)) (ci := 5) (v := .int kn) (C := RX5) (T := TX5) (N := 22) hx hb hts iwX5_fits_X5 hown hK hP 0 rfl rfl 2 (by decide) (hts _ fwX5_fits_64) (fun _ h9 => h9) rfl dX5_fits_72 ?_
    refine lv_icmp_ge (tgt := 161) hx hb dX5_fits_75 (by decide) (fun c14 => ?_) (fun c14 => ?_)
    · have h := h.1 c14
      exact hk161 v3 ls H locs h (lv_sub hl [2] rfl) hP hS
    · have h := h.2 c14
      refine lv_iconst (v := 0) hx hb dX5_fits_78 (by decide) ?_
      refine lv_istore (lv' := [(5, .int 0), (0, .ref (q 0)), (1, .int v1), (3, .int v3), (4, .int v4)]) hx hb dX5_fits_79 hl (by decide) rfl (fun ls hl => ?_)
      obtain ⟨n9, h⟩ := h
      exact mX5_fits_81 kc kd kn kp ka kt ku kr cn xs ys x2 y2 my tl po so st nr co rg re C hK ha hN (fun v1 v3 v4 ls H locs h hl hP hS => by
          obtain ⟨i15, ei15⟩ : ∃ y : Int32, y = v4 + 1 := ⟨_, rfl⟩
          refine lv_iinc (v := i15) (lv' := [(4, .int i15), (0, .ref (q 0)), (1, .int v1), (3, .int v3)]) hx hb dX5_fits_155 hl (k := 3) rfl (by rw [ei15]; rfl) (by decide) rfl (fun ls hl => ?_)
          have h := h i15 ei15
          refine lv_goto (tgt := 69) hx hb dX5_fits_158 (by decide) ?_
          exact ih v1 v3 i15 ls H locs h (lv_sub hl [1, 2, 3, 0] rfl) hP hS) n9 v1 v3 v4 0 ls H locs h (lv_sub hl [1, 2, 3, 4, 0] rfl) hP hS
def lpX5_fits_18 (kn : Int32) (cn : (Nat → Int32)) (tl : (Nat → Int32)) (po : (Nat → Int32)) (st : (Nat → Int32)) (nr : (Nat → Int64)) (co : (Nat → Int32)) (K : Int32 → Prop) (k66 : Int32 → Int32 → Prop) : Nat → Int32 → Int32 → Int32 → Prop
  | 0, _, _, _ => False
  | n + 1, v1, v3, v4 => ((v1 ≤ v4 → k66 v1 v3) ∧ (¬ (v1 ≤ v4) → ((v3 = 0 → bkX5_fits_58 kn cn tl po st nr co K (fun v1 v3 v4 => lpX5_fits_18 kn cn tl po st nr co K k66 n v1 v3 v4) v1 v4) ∧ (¬ (v3 = 0) → (wX5_areNear nr v1 v4 (fun (r18 : Int32) => ((r18 = 0 → bkX5_fits_54 kn cn tl po st nr co K (fun v1 v3 v4 => lpX5_fits_18 kn cn tl po st nr co K k66 n v1 v3 v4) v1 v4) ∧ (¬ (r18 = 0) → (vp_in v4 40 ∧ (vp_in v1 40 ∧ (((co v4.toNatClampNeg) = (co v1.toNatClampNeg) → bkX5_fits_58 kn cn tl po st nr co K (fun v1 v3 v4 => lpX5_fits_18 kn cn tl po st nr co K k66 n v1 v3 v4) v1 v4) ∧ (¬ ((co v4.toNatClampNeg) = (co v1.toNatClampNeg)) → bkX5_fits_54 kn cn tl po st nr co K (fun v1 v3 v4 => lpX5_fits_18 kn cn tl po st nr co K k66 n v1 v3 v4) v1 v4))))))))))))
set_option maxHeartbeats 4000000 in
set_option maxRecDepth 100000 in
theorem mX5_fits_18 {p : Program} {l : Launch} {e : Env} {s : State} {m : MethodId} {av : Array Value} {below : List Frame} {meth : Method} {c : Code} {dC : Nat → ClassId} {dI : Nat → Nat → Nat} {cI cJ cZ : ClassId} {q : Nat → Nat} {K : Int32 → Prop} {k66 : Int32 → Int32 → Prop} (kc : Int32) (kd : Int32) (kn : Int32) (kp : Int32) (ka : Int32) (kt : Int32) (ku : Int32) (kr : Int32) (cn : (Nat → Int32)) (xs : (Nat → Int32)) (ys : (Nat → Int32)) (x2 : (Nat → Int32)) (y2 : (Nat → Int32)) (my : (Nat → Int32)) (tl : (Nat → Int32)) (po : (Nat → Int32)) (so : (Nat → Int32)) (st : (Nat → Int32)) (nr : (Nat → Int64)) (co : (Nat → Int32)) (rg : (Nat → Int32)) (re : (Nat → Int64)) (C : CX p s m av meth c cX5_fits 7 (some .boolean) RX5 wsX5_fits) (hK : va_K (dC, dI) vwCl (TY cI cJ cZ) s) (ha : apart q 15) (hN : NX s) (hk66 : ∀ (v1 : Int32) (v3 : Int32) (ls : Array Slot) (H : Heap) (locs : List Loc), k66 v1 v3 → lv_has ls 7 [(0, .ref (q 0)), (1, .int v1), (3, .int v3)] → va_P (dC, dI) vwCl (WM q cI cJ cZ kc kd kn kp ka kt ku kr cn xs ys x2 y2 my tl po so st nr co rg re) H → va_S (AF q 15 s.heap.size) s.heap H locs → W p l e { frames := 1, cells := 0, slots := 0, locals := 23 } s m av below meth c H locs 0 0 (MQ below (QX5_fits dC dI cI cJ cZ q s.heap.size kc kd kn kp ka kt ku kr cn xs ys x2 y2 my tl po so st nr co rg re K) av s 0 0 (AF q 15 s.heap.size)) (F0 m 66 ls [])) : ∀ (n : Nat) (v1 : Int32) (v3 : Int32) (v4 : Int32) (ls : Array Slot) (H : Heap) (locs : List Loc), lpX5_fits_18 kn cn tl po st nr co K k66 n v1 v3 v4 → lv_has ls 7 [(0, .ref (q 0)), (1, .int v1), (3, .int v3), (4, .int v4)] → va_P (dC, dI) vwCl (WM q cI cJ cZ kc kd kn kp ka kt ku kr cn xs ys x2 y2 my tl po so st nr co rg re) H → va_S (AF q 15 s.heap.size) s.heap H locs → W p l e { frames := 1, cells := 0, slots := 0, locals := 23 } s m av below meth c H locs 0 0 (MQ below (QX5_fits dC dI cI cJ cZ q s.heap.size kc kd kn kp ka kt ku kr cn xs ys x2 y2 my tl po so st nr co rg re K) av s 0 0 (AF q 15 s.heap.size)) (F0 m 18 ls []) := by
  obtain ⟨hx, hb, hr, hml, hown, hts, hlk⟩ := id C
  intro n
  induction n with
  | zero =>
    intro v1 v3 v4 ls H locs h
    exact h.elim
  | succ n ih =>
    intro v1 v3 v4 ls H locs h hl hP hS
    rw [lpX5_fits_18.eq_2] at h
    refine lv_iload hx hb dX5_fits_18 (lv_at hl 3 rfl) ?_
    refine lv_iload_n hx hb dX5_fits_20 rfl (lv_at hl 1 rfl) ?_
    refine lv_icmp_ge (tgt := 66) hx hb dX5_fits_21 (by decide) (fun c16 => ?_) (fun c16 => ?_)
    · have h := h.1 c16
      exact hk66 v1 v3 ls H locs h (lv_sub hl [0, 1, 2] rfl) hP hS
    · have h := h.2 c16
      refine lv_iload_n hx hb dX5_fits_24 rfl (lv_at hl 2 rfl) ?_
      refine lv_if_eq (tgt := 58) hx hb dX5_fits_25 (by decide) (fun c17 => ?_) (fun c17 => ?_)
      · have h := h.1 c17
        exact mX5_fits_58 kc kd kn kp ka kt ku kr cn xs ys x2 y2 my tl po so st nr co rg re C hK ha hN (fun v1 v3 v4 ls H locs h hl hP hS => ih v1 v3 v4 ls H locs h hl hP hS) v1 v4 ls H locs h (lv_sub hl [0, 1, 3] rfl) hP hS
      · have h := h.2 c17
        refine lv_aload_n hx hb dX5_fits_28 rfl (lv_at hl 0 rfl) ?_
        refine lv_iload_n hx hb dX5_fits_29 rfl (lv_at hl 1 rfl) ?_
        refine lv_iload hx hb dX5_fits_30 (lv_at hl 3 rfl) ?_
        refine cl_i (va_runV (As := [.int v1, .int v4]) (rest := []) ⟨hx, hb, hml, hown, hts⟩ (ktX5_areNear l dC dI q cI cJ cZ H.size kc kd kn kp ka kt ku kr cn xs ys x2 y2 my tl po so st nr co rg re v1 v4 h) (cwV 2 hts gX5_fits_X5_areNear rfl rfl rfl (by decide +kernel) ⟨Nat.le_of_ble_eq_true rfl, Nat.le_of_ble_eq_true rfl⟩) ⟨wd.blind, va_recv hK hP (ci := 5) (q0 := 0) rfl rfl, fun U hU hW => ⟨rfl, wd.at hP hK ha hN hU hW⟩⟩ rfl rfl hl.1 rfl (lv_room (Nat.le_of_ble_eq_true rfl)) dX5_fits_32 ⟨Nat.le_of_ble_eq_true rfl, Nat.le_of_ble_eq_true rfl⟩) hS (fun r18 _ H locs h hP hS => ?_)
        have hP : va_P (dC, dI) vwCl (WM q cI cJ cZ kc kd kn kp ka kt ku kr cn xs ys x2 y2 my tl po so st nr co rg re) H := hP
        refine lv_if_eq (tgt := 54) hx hb dX5_fits_35 (by decide) (fun c20 => ?_) (fun c20 => ?_)
        · have h := h.1 c20
          exact mX5_fits_54 kc kd kn kp ka kt ku kr cn xs ys x2 y2 my tl po so st nr co rg re C hK ha hN (fun v1 v3 v4 ls H locs h hl hP hS => ih v1 v3 v4 ls H locs h hl hP hS) v1 v4 ls H locs h (lv_sub hl [0, 1, 3] rfl) hP hS
        · have h := h.2 c20
          refine lv_aload_n hx hb dX5_fits_38 rfl (lv_at hl 0 rfl) ?_
          refine va_get (D := (dC, dI)) (ci := 5) (v := .ref (q 12)) (C := RX5) (T := TX5) (N := 22) hx hb hts iwX5_fits_X5 hown hK hP 0 rfl rfl 18 (by decide) (hts _ fwX5_fits_52) (fun _ h9 => h9) rfl dX5_fits_39 ?_
          refine lv_iload hx hb dX5_fits_42 (lv_at hl 3 rfl) ?_
          obtain ⟨b21, h⟩ := h
          refine va_iald (D := (dC, dI)) hx hb hK hP 12 0 rfl rfl b21 dX5_fits_44 ?_
          refine lv_aload_n hx hb dX5_fits_45 rfl (lv_at hl 0 rfl) ?_
          refine va_get (D := (dC, dI)) (ci := 5) (v := .ref (q 12)) (C := RX5) (T := TX5) (N := 22) hx hb hts iwX5_fits_X5 hown hK hP 0 rfl rfl 18 (by decide) (hts _ fwX5_fits_52) (fun _ h9 => h9) rfl dX5_fits_46 ?_
          refine lv_iload_n hx hb dX5_fits_49 rfl (lv_at hl 1 rfl) ?_
          obtain ⟨b22, h⟩ := h
          refine va_iald (D := (dC, dI)) hx hb hK hP 12 0 rfl rfl b22 dX5_fits_50 ?_
          refine lv_icmp_eq (tgt := 58) hx hb dX5_fits_51 (by decide) (fun c23 => ?_) (fun c23 => ?_)
          · have h := h.1 c23
            exact mX5_fits_58 kc kd kn kp ka kt ku kr cn xs ys x2 y2 my tl po so st nr co rg re C hK ha hN (fun v1 v3 v4 ls H locs h hl hP hS => ih v1 v3 v4 ls H locs h hl hP hS) v1 v4 ls H locs h (lv_sub hl [0, 1, 3] rfl) hP hS
          · have h := h.2 c23
            exact mX5_fits_54 kc kd kn kp ka kt ku kr cn xs ys x2 y2 my tl po so st nr co rg re C hK ha hN (fun v1 v3 v4 ls H locs h hl hP hS => ih v1 v3 v4 ls H locs h hl hP hS) v1 v4 ls H locs h (lv_sub hl [0, 1, 3] rfl) hP hS
def bkX5_fits_14 (kn : Int32) (cn : (Nat → Int32)) (tl : (Nat → Int32)) (po : (Nat → Int32)) (st : (Nat → Int32)) (nr : (Nat → Int64)) (co : (Nat → Int32)) (K : Int32 → Prop) (v1 : Int32) (s0 : Int32) : Prop := (∃ z18, lpX5_fits_18 kn cn tl po st nr co K (fun (v1 : Int32) (v3 : Int32) => (∃ z69, lpX5_fits_69 kn cn tl po st nr co K (fun (v3 : Int32) => (narrow .boolean (.int v3) = .int v3 ∧ K v3 )) z69 v1 v3 0)) z18 v1 s0 0)
set_option maxHeartbeats 4000000 in
set_option maxRecDepth 100000 in
theorem mX5_fits_14 {p : Program} {l : Launch} {e : Env} {s : State} {m : MethodId} {av : Array Value} {below : List Frame} {meth : Method} {c : Code} {dC : Nat → ClassId} {dI : Nat → Nat → Nat} {cI cJ cZ : ClassId} {q : Nat → Nat} {K : Int32 → Prop} (kc : Int32) (kd : Int32) (kn : Int32) (kp : Int32) (ka : Int32) (kt : Int32) (ku : Int32) (kr : Int32) (cn : (Nat → Int32)) (xs : (Nat → Int32)) (ys : (Nat → Int32)) (x2 : (Nat → Int32)) (y2 : (Nat → Int32)) (my : (Nat → Int32)) (tl : (Nat → Int32)) (po : (Nat → Int32)) (so : (Nat → Int32)) (st : (Nat → Int32)) (nr : (Nat → Int64)) (co : (Nat → Int32)) (rg : (Nat → Int32)) (re : (Nat → Int64)) (C : CX p s m av meth c cX5_fits 7 (some .boolean) RX5 wsX5_fits) (hK : va_K (dC, dI) vwCl (TY cI cJ cZ) s) (ha : apart q 15) (hN : NX s)  : ∀ (v1 : Int32) (s0 : Int32) (ls : Array Slot) (H : Heap) (locs : List Loc), bkX5_fits_14 kn cn tl po st nr co K v1 s0 → lv_has ls 7 [(0, .ref (q 0)), (1, .int v1)] → va_P (dC, dI) vwCl (WM q cI cJ cZ kc kd kn kp ka kt ku kr cn xs ys x2 y2 my tl po so st nr co rg re) H → va_S (AF q 15 s.heap.size) s.heap H locs → W p l e { frames := 1, cells := 0, slots := 0, locals := 23 } s m av below meth c H locs 0 0 (MQ below (QX5_fits dC dI cI cJ cZ q s.heap.size kc kd kn kp ka kt ku kr cn xs ys x2 y2 my tl po so st nr co rg re K) av s 0 0 (AF q 15 s.heap.size)) (F0 m 14 ls [.int s0]) := by
  obtain ⟨hx, hb, hr, hml, hown, hts, hlk⟩ := id C
  intro v1 s0 ls H locs h hl hP hS
  unfold bkX5_fits_14 at h
  refine lv_istore_n (lv' := [(3, .int s0), (0, .ref (q 0)), (1, .int v1)]) hx hb dX5_fits_14 rfl hl (by decide) rfl (fun ls hl => ?_)
  refine lv_iconst (v := 0) hx hb dX5_fits_15 (by decide) ?_
  refine lv_istore (lv' := [(4, .int 0), (3, .int s0), (0, .ref (q 0)), (1, .int v1)]) hx hb dX5_fits_16 hl (by decide) rfl (fun ls hl => ?_)
  obtain ⟨n9, h⟩ := h
  exact mX5_fits_18 kc kd kn kp ka kt ku kr cn xs ys x2 y2 my tl po so st nr co rg re C hK ha hN (fun v1 v3 ls H locs h hl hP hS => by
      refine lv_iconst (v := 0) hx hb dX5_fits_66 (by decide) ?_
      refine lv_istore (lv' := [(4, .int 0), (0, .ref (q 0)), (1, .int v1), (3, .int v3)]) hx hb dX5_fits_67 hl (by decide) rfl (fun ls hl => ?_)
      obtain ⟨n9, h⟩ := h
      exact mX5_fits_69 kc kd kn kp ka kt ku kr cn xs ys x2 y2 my tl po so st nr co rg re C hK ha hN (fun v3 ls H locs h hl hP hS => by
          refine lv_iload_n hx hb dX5_fits_161 rfl (lv_at hl 0 rfl) ?_
          obtain ⟨hn9, h⟩ := h
          exact rt_z () hx hb hr hlk hn9 h (fun t ht => by rw [ht]; exact hP) hS dX5_fits_162) n9 v1 v3 0 ls H locs h (lv_sub hl [1, 2, 3, 0] rfl) hP hS) n9 v1 s0 0 ls H locs h (lv_sub hl [2, 3, 1, 0] rfl) hP hS
def wX5_fits (kn : Int32) (cn : (Nat → Int32)) (tl : (Nat → Int32)) (po : (Nat → Int32)) (st : (Nat → Int32)) (nr : (Nat → Int64)) (co : (Nat → Int32)) (v1 : Int32) (v2 : Int32) (K : Int32 → Prop) : Prop := (wX5_usedUpTo st co v1 (fun (r24 : Int32) => ((v2 < r24 → bkX5_fits_14 kn cn tl po st nr co K v1 0) ∧ (¬ (v2 < r24) → bkX5_fits_14 kn cn tl po st nr co K v1 1))))
set_option maxHeartbeats 4000000 in
set_option maxRecDepth 100000 in
theorem ktX5_fits (l : Launch) (dC : Nat → ClassId) (dI : Nat → Nat → Nat) (q : Nat → Nat) (cI cJ cZ : ClassId) (sz : Nat) (kc : Int32) (kd : Int32) (kn : Int32) (kp : Int32) (ka : Int32) (kt : Int32) (ku : Int32) (kr : Int32) (cn : (Nat → Int32)) (xs : (Nat → Int32)) (ys : (Nat → Int32)) (x2 : (Nat → Int32)) (y2 : (Nat → Int32)) (my : (Nat → Int32)) (tl : (Nat → Int32)) (po : (Nat → Int32)) (so : (Nat → Int32)) (st : (Nat → Int32)) (nr : (Nat → Int64)) (co : (Nat → Int32)) (rg : (Nat → Int32)) (re : (Nat → Int64)) (v1 : Int32) (v2 : Int32) {K : Int32 → Prop} (h : wX5_fits kn cn tl po st nr co v1 v2 K) : Met l yX5_fits wsX5_fits { frames := 1, cells := 0, slots := 0, locals := 23 } (va_Pc [.ref (q 0), .int v1, .int v2] (wd dC dI cI cJ cZ q 15 sz (WM q cI cJ cZ kc kd kn kp ka kt ku kr cn xs ys x2 y2 my tl po so st nr co rg re))) (QX5_fits dC dI cI cJ cZ q sz kc kd kn kp ka kt ku kr cn xs ys x2 y2 my tl po so st nr co rg re K) 0 0 (AF q 15 sz) := by
  refine met_of [.ref (q 0), .int v1, .int v2] (by decide +kernel) rfl (Nat.le_of_ble_eq_true rfl) ?_
  intro p e s m below meth c ls hsz C hK ha hN hl hP
  subst hsz
  obtain ⟨hx, hb, hr, hml, hown, hts, hlk⟩ := id C
  have hl : lv_has ls 7 [(0, .ref (q 0)), (1, .int v1), (2, .int v2)] := hl
  refine w_go (Pw := fun H => va_P (dC, dI) vwCl (WM q cI cJ cZ kc kd kn kp ka kt ku kr cn xs ys x2 y2 my tl po so st nr co rg re) H) (A := AF q 15 s.heap.size) (fun H locs hP hS => ?_) hP
  unfold wX5_fits at h
  refine lv_aload_n hx hb dX5_fits_0 rfl (lv_at hl 0 rfl) ?_
  refine lv_iload_n hx hb dX5_fits_1 rfl (lv_at hl 1 rfl) ?_
  refine cl_i (va_runV (As := [.int v1]) (rest := []) ⟨hx, hb, hml, hown, hts⟩ (ktX5_usedUpTo l dC dI q cI cJ cZ H.size kc kd kn kp ka kt ku kr cn xs ys x2 y2 my tl po so st nr co rg re v1 h) (cwV 1 hts gX5_fits_X5_usedUpTo rfl rfl rfl (by decide +kernel) ⟨Nat.le_of_ble_eq_true rfl, Nat.le_of_ble_eq_true rfl⟩) ⟨wd.blind, va_recv hK hP (ci := 5) (q0 := 0) rfl rfl, fun U hU hW => ⟨rfl, wd.at hP hK ha hN hU hW⟩⟩ rfl rfl hl.1 rfl (lv_room (Nat.le_of_ble_eq_true rfl)) dX5_fits_2 ⟨Nat.le_of_ble_eq_true rfl, Nat.le_of_ble_eq_true rfl⟩) hS (fun r24 _ H locs h hP hS => ?_)
  have hP : va_P (dC, dI) vwCl (WM q cI cJ cZ kc kd kn kp ka kt ku kr cn xs ys x2 y2 my tl po so st nr co rg re) H := hP
  refine lv_iload_n hx hb dX5_fits_5 rfl (lv_at hl 2 rfl) ?_
  refine lv_icmp_gt (tgt := 13) hx hb dX5_fits_6 (by decide) (fun c26 => ?_) (fun c26 => ?_)
  · have h := h.1 c26
    refine lv_iconst (v := 0) hx hb dX5_fits_13 (by decide) ?_
    exact mX5_fits_14 kc kd kn kp ka kt ku kr cn xs ys x2 y2 my tl po so st nr co rg re C hK ha hN  v1 0 ls H locs h (lv_sub hl [0, 1] rfl) hP hS
  · have h := h.2 c26
    refine lv_iconst (v := 1) hx hb dX5_fits_9 (by decide) ?_
    refine lv_goto (tgt := 14) hx hb dX5_fits_10 (by decide) ?_
    exact mX5_fits_14 kc kd kn kp ka kt ku kr cn xs ys x2 y2 my tl po so st nr co rg re C hK ha hN  v1 1 ls H locs h (lv_sub hl [0, 1] rfl) hP hS

theorem fwX5_look_52 : Cond.fieldLink RX5 52 "MaskPartsModel" "colours" "[I" ∈ wsX5_look := by decide +kernel
set_option maxRecDepth 20000 in
theorem iwX5_look_X5 : ∀ w ∈ wsX50, w ∈ wsX5_look := by decide +kernel
theorem fwX5_look_75 : Cond.fieldLink RX5 75 "MaskPartsModel" "steps" "I" ∈ wsX5_look := by decide +kernel
theorem fwX5_look_102 : Cond.fieldLink RX5 102 "MaskPartsModel" "parts" "I" ∈ wsX5_look := by decide +kernel
abbrev QX5_look (dC : Nat → ClassId) (dI : Nat → Nat → Nat) (cI cJ cZ : ClassId) (q : Nat → Nat) (sz : Nat) (kc : Int32) (kd : Int32) (kn : Int32) (kp : Int32) (ka : Int32) (ku : Int32) (kr : Int32) (cn : (Nat → Int32)) (xs : (Nat → Int32)) (ys : (Nat → Int32)) (x2 : (Nat → Int32)) (y2 : (Nat → Int32)) (my : (Nat → Int32)) (tl : (Nat → Int32)) (po : (Nat → Int32)) (so : (Nat → Int32)) (st : (Nat → Int32)) (nr : (Nat → Int64)) (rg : (Nat → Int32)) (re : (Nat → Int64)) (K : Int32 → (Int32 × (Nat → Int32)) → Prop) : Array Value → State → Outcome → State → Prop := va_Qi (fun (r : Int32) (u : Int32 × (Nat → Int32)) => K r u) (fun (u : Int32 × (Nat → Int32)) t => va_P (dC, dI) vwCl (WM q cI cJ cZ kc kd kn kp ka u.1 ku kr cn xs ys x2 y2 my tl po so st nr u.2 rg re) t.heap) (AF q 15 sz)
def bkX5_look_115 (kn : Int32) (kp : Int32) (cn : (Nat → Int32)) (tl : (Nat → Int32)) (po : (Nat → Int32)) (st : (Nat → Int32)) (nr : (Nat → Int64)) (K : Int32 → (Int32 × (Nat → Int32)) → Prop) (k6 : Int32 → (Nat → Int32) → Int32 → Int32 → Int32 → Int32 → Int32 → Prop) (kt : Int32) (co : (Nat → Int32)) (v1 : Int32) (v2 : Int32) (v3 : Int32) (v4 : Int32) (v5 : Int32) : Prop := k6 kt co v1 v2 v3 v4 v5
set_option maxHeartbeats 4000000 in
set_option maxRecDepth 100000 in
theorem mX5_look_115 {p : Program} {l : Launch} {e : Env} {s : State} {m : MethodId} {av : Array Value} {below : List Frame} {meth : Method} {c : Code} {dC : Nat → ClassId} {dI : Nat → Nat → Nat} {cI cJ cZ : ClassId} {q : Nat → Nat} {K : Int32 → (Int32 × (Nat → Int32)) → Prop} {k6 : Int32 → (Nat → Int32) → Int32 → Int32 → Int32 → Int32 → Int32 → Prop} (kc : Int32) (kd : Int32) (kn : Int32) (kp : Int32) (ka : Int32) (ku : Int32) (kr : Int32) (cn : (Nat → Int32)) (xs : (Nat → Int32)) (ys : (Nat → Int32)) (x2 : (Nat → Int32)) (y2 : (Nat → Int32)) (my : (Nat → Int32)) (tl : (Nat → Int32)) (po : (Nat → Int32)) (so : (Nat → Int32)) (st : (Nat → Int32)) (nr : (Nat → Int64)) (rg : (Nat → Int32)) (re : (Nat → Int64)) (C : CX p s m av meth c cX5_look 7 (some .int) RX5 wsX5_look) (hK : va_K (dC, dI) vwCl (TY cI cJ cZ) s) (ha : apart q 15) (hN : NX s) (hk6 : ∀ (kt : Int32) (co : (Nat → Int32)) (v1 : Int32) (v2 : Int32) (v3 : Int32) (v4 : Int32) (v5 : Int32) (ls : Array Slot) (H : Heap) (locs : List Loc), k6 kt co v1 v2 v3 v4 v5 → lv_has ls 7 [(0, .ref (q 0)), (1, .int v1), (2, .int v2), (3, .int v3), (4, .int v4), (5, .int v5)] → va_P (dC, dI) vwCl (WM q cI cJ cZ kc kd kn kp ka kt ku kr cn xs ys x2 y2 my tl po so st nr co rg re) H → va_S (AF q 15 s.heap.size) s.heap H locs → W p l e { frames := 2, cells := 0, slots := 0, locals := 49 } s m av below meth c H locs 0 0 (MQ below (QX5_look dC dI cI cJ cZ q s.heap.size kc kd kn kp ka ku kr cn xs ys x2 y2 my tl po so st nr rg re K) av s 0 0 (AF q 15 s.heap.size)) (F0 m 6 ls [])) : ∀ (kt : Int32) (co : (Nat → Int32)) (v1 : Int32) (v2 : Int32) (v3 : Int32) (v4 : Int32) (v5 : Int32) (ls : Array Slot) (H : Heap) (locs : List Loc), bkX5_look_115 kn kp cn tl po st nr K k6 kt co v1 v2 v3 v4 v5 → lv_has ls 7 [(0, .ref (q 0)), (1, .int v1), (2, .int v2), (3, .int v3), (4, .int v4), (5, .int v5)] → va_P (dC, dI) vwCl (WM q cI cJ cZ kc kd kn kp ka kt ku kr cn xs ys x2 y2 my tl po so st nr co rg re) H → va_S (AF q 15 s.heap.size) s.heap H locs → W p l e { frames := 2, cells := 0, slots := 0, locals := 49 } s m av below meth c H locs 0 0 (MQ below (QX5_look dC dI cI cJ cZ q s.heap.size kc kd kn kp ka ku kr cn xs ys x2 y2 my tl po so st nr rg re K) av s 0 0 (AF q 15 s.heap.size)) (F0 m 115 ls []) := by
  obtain ⟨hx, hb, hr, hml, hown, hts, hlk⟩ := id C
  intro kt co v1 v2 v3 v4 v5 ls H locs h hl hP hS
  unfold bkX5_look_115 at h
  refine lv_goto (tgt := 6) hx hb dX5_look_115 (by decide) ?_
  exact hk6 kt co v1 v2 v3 v4 v5 ls H locs h (lv_sub hl [0, 1, 2, 3, 4, 5] rfl) hP hS
def bkX5_look_113 (kn : Int32) (kp : Int32) (cn : (Nat → Int32)) (tl : (Nat → Int32)) (po : (Nat → Int32)) (st : (Nat → Int32)) (nr : (Nat → Int64)) (K : Int32 → (Int32 × (Nat → Int32)) → Prop) (k6 : Int32 → (Nat → Int32) → Int32 → Int32 → Int32 → Int32 → Int32 → Prop) (kt : Int32) (co : (Nat → Int32)) (v1 : Int32) (v2 : Int32) (v3 : Int32) (v4 : Int32) (s0 : Int32) : Prop := bkX5_look_115 kn kp cn tl po st nr K k6 kt co v1 v2 v3 v4 s0
set_option maxHeartbeats 4000000 in
set_option maxRecDepth 100000 in
theorem mX5_look_113 {p : Program} {l : Launch} {e : Env} {s : State} {m : MethodId} {av : Array Value} {below : List Frame} {meth : Method} {c : Code} {dC : Nat → ClassId} {dI : Nat → Nat → Nat} {cI cJ cZ : ClassId} {q : Nat → Nat} {K : Int32 → (Int32 × (Nat → Int32)) → Prop} {k6 : Int32 → (Nat → Int32) → Int32 → Int32 → Int32 → Int32 → Int32 → Prop} (kc : Int32) (kd : Int32) (kn : Int32) (kp : Int32) (ka : Int32) (ku : Int32) (kr : Int32) (cn : (Nat → Int32)) (xs : (Nat → Int32)) (ys : (Nat → Int32)) (x2 : (Nat → Int32)) (y2 : (Nat → Int32)) (my : (Nat → Int32)) (tl : (Nat → Int32)) (po : (Nat → Int32)) (so : (Nat → Int32)) (st : (Nat → Int32)) (nr : (Nat → Int64)) (rg : (Nat → Int32)) (re : (Nat → Int64)) (C : CX p s m av meth c cX5_look 7 (some .int) RX5 wsX5_look) (hK : va_K (dC, dI) vwCl (TY cI cJ cZ) s) (ha : apart q 15) (hN : NX s) (hk6 : ∀ (kt : Int32) (co : (Nat → Int32)) (v1 : Int32) (v2 : Int32) (v3 : Int32) (v4 : Int32) (v5 : Int32) (ls : Array Slot) (H : Heap) (locs : List Loc), k6 kt co v1 v2 v3 v4 v5 → lv_has ls 7 [(0, .ref (q 0)), (1, .int v1), (2, .int v2), (3, .int v3), (4, .int v4), (5, .int v5)] → va_P (dC, dI) vwCl (WM q cI cJ cZ kc kd kn kp ka kt ku kr cn xs ys x2 y2 my tl po so st nr co rg re) H → va_S (AF q 15 s.heap.size) s.heap H locs → W p l e { frames := 2, cells := 0, slots := 0, locals := 49 } s m av below meth c H locs 0 0 (MQ below (QX5_look dC dI cI cJ cZ q s.heap.size kc kd kn kp ka ku kr cn xs ys x2 y2 my tl po so st nr rg re K) av s 0 0 (AF q 15 s.heap.size)) (F0 m 6 ls [])) : ∀ (kt : Int32) (co : (Nat → Int32)) (v1 : Int32) (v2 : Int32) (v3 : Int32) (v4 : Int32) (s0 : Int32) (ls : Array Slot) (H : Heap) (locs : List Loc), bkX5_look_113 kn kp cn tl po st nr K k6 kt co v1 v2 v3 v4 s0 → lv_has ls 7 [(0, .ref (q 0)), (1, .int v1), (2, .int v2), (3, .int v3), (4, .int v4)] → va_P (dC, dI) vwCl (WM q cI cJ cZ kc kd kn kp ka kt ku kr cn xs ys x2 y2 my tl po so st nr co rg re) H → va_S (AF q 15 s.heap.size) s.heap H locs → W p l e { frames := 2, cells := 0, slots := 0, locals := 49 } s m av below meth c H locs 0 0 (MQ below (QX5_look dC dI cI cJ cZ q s.heap.size kc kd kn kp ka ku kr cn xs ys x2 y2 my tl po so st nr rg re K) av s 0 0 (AF q 15 s.heap.size)) (F0 m 113 ls [.int s0]) := by
  obtain ⟨hx, hb, hr, hml, hown, hts, hlk⟩ := id C
  intro kt co v1 v2 v3 v4 s0 ls H locs h hl hP hS
  unfold bkX5_look_113 at h
  refine lv_istore (lv' := [(5, .int s0), (0, .ref (q 0)), (1, .int v1), (2, .int v2), (3, .int v3), (4, .int v4)]) hx hb dX5_look_113 hl (by decide) rfl (fun ls hl => ?_)
  exact mX5_look_115 kc kd kn kp ka ku kr cn xs ys x2 y2 my tl po so st nr rg re C hK ha hN hk6 kt co v1 v2 v3 v4 s0 ls H locs h (lv_sub hl [1, 2, 3, 4, 5, 0] rfl) hP hS
def bkX5_look_78 (kn : Int32) (kp : Int32) (cn : (Nat → Int32)) (tl : (Nat → Int32)) (po : (Nat → Int32)) (st : (Nat → Int32)) (nr : (Nat → Int64)) (K : Int32 → (Int32 × (Nat → Int32)) → Prop) (k6 : Int32 → (Nat → Int32) → Int32 → Int32 → Int32 → Int32 → Int32 → Prop) (kt : Int32) (co : (Nat → Int32)) (v1 : Int32) (v2 : Int32) (v3 : Int32) (v4 : Int32) (v6 : Int32) : Prop := ((v6 = 0 → (∀ i2 : Int32, i2 = v4 + (-1) → ((0 ≤ i2 → (vp_in i2 40 ∧ bkX5_look_113 kn kp cn tl po st nr K k6 kt co v1 v2 v3 i2 (((co i2.toNatClampNeg) + 1)))) ∧ (¬ (0 ≤ i2) → bkX5_look_113 kn kp cn tl po st nr K k6 kt co v1 v2 v3 i2 0)))) ∧ (¬ (v6 = 0) → (∀ i5 : Int32, i5 = v4 + 1 → bkX5_look_115 kn kp cn tl po st nr K k6 kt co v1 v2 v3 i5 0)))
set_option maxHeartbeats 4000000 in
set_option maxRecDepth 100000 in
theorem mX5_look_78 {p : Program} {l : Launch} {e : Env} {s : State} {m : MethodId} {av : Array Value} {below : List Frame} {meth : Method} {c : Code} {dC : Nat → ClassId} {dI : Nat → Nat → Nat} {cI cJ cZ : ClassId} {q : Nat → Nat} {K : Int32 → (Int32 × (Nat → Int32)) → Prop} {k6 : Int32 → (Nat → Int32) → Int32 → Int32 → Int32 → Int32 → Int32 → Prop} (kc : Int32) (kd : Int32) (kn : Int32) (kp : Int32) (ka : Int32) (ku : Int32) (kr : Int32) (cn : (Nat → Int32)) (xs : (Nat → Int32)) (ys : (Nat → Int32)) (x2 : (Nat → Int32)) (y2 : (Nat → Int32)) (my : (Nat → Int32)) (tl : (Nat → Int32)) (po : (Nat → Int32)) (so : (Nat → Int32)) (st : (Nat → Int32)) (nr : (Nat → Int64)) (rg : (Nat → Int32)) (re : (Nat → Int64)) (C : CX p s m av meth c cX5_look 7 (some .int) RX5 wsX5_look) (hK : va_K (dC, dI) vwCl (TY cI cJ cZ) s) (ha : apart q 15) (hN : NX s) (hk6 : ∀ (kt : Int32) (co : (Nat → Int32)) (v1 : Int32) (v2 : Int32) (v3 : Int32) (v4 : Int32) (v5 : Int32) (ls : Array Slot) (H : Heap) (locs : List Loc), k6 kt co v1 v2 v3 v4 v5 → lv_has ls 7 [(0, .ref (q 0)), (1, .int v1), (2, .int v2), (3, .int v3), (4, .int v4), (5, .int v5)] → va_P (dC, dI) vwCl (WM q cI cJ cZ kc kd kn kp ka kt ku kr cn xs ys x2 y2 my tl po so st nr co rg re) H → va_S (AF q 15 s.heap.size) s.heap H locs → W p l e { frames := 2, cells := 0, slots := 0, locals := 49 } s m av below meth c H locs 0 0 (MQ below (QX5_look dC dI cI cJ cZ q s.heap.size kc kd kn kp ka ku kr cn xs ys x2 y2 my tl po so st nr rg re K) av s 0 0 (AF q 15 s.heap.size)) (F0 m 6 ls [])) : ∀ (kt : Int32) (co : (Nat → Int32)) (v1 : Int32) (v2 : Int32) (v3 : Int32) (v4 : Int32) (v6 : Int32) (ls : Array Slot) (H : Heap) (locs : List Loc), bkX5_look_78 kn kp cn tl po st nr K k6 kt co v1 v2 v3 v4 v6 → lv_has ls 7 [(0, .ref (q 0)), (1, .int v1), (2, .int v2), (3, .int v3), (4, .int v4), (6, .int v6)] → va_P (dC, dI) vwCl (WM q cI cJ cZ kc kd kn kp ka kt ku kr cn xs ys x2 y2 my tl po so st nr co rg re) H → va_S (AF q 15 s.heap.size) s.heap H locs → W p l e { frames := 2, cells := 0, slots := 0, locals := 49 } s m av below meth c H locs 0 0 (MQ below (QX5_look dC dI cI cJ cZ q s.heap.size kc kd kn kp ka ku kr cn xs ys x2 y2 my tl po so st nr rg re K) av s 0 0 (AF q 15 s.heap.size)) (F0 m 78 ls []) := by
  obtain ⟨hx, hb, hr, hml, hown, hts, hlk⟩ := id C
  intro kt co v1 v2 v3 v4 v6 ls H locs h hl hP hS
  unfold bkX5_look_78 at h
  refine lv_iload hx hb dX5_look_78 (lv_at hl 5 rfl) ?_
  refine lv_if_eq (tgt := 92) hx hb dX5_look_80 (by decide) (fun c1 => ?_) (fun c1 => ?_)
  · have h := h.1 c1
    obtain ⟨i2, ei2⟩ : ∃ y : Int32, y = v4 + (-1) := ⟨_, rfl⟩
    refine lv_iinc (v := i2) (lv' := [(4, .int i2), (0, .ref (q 0)), (1, .int v1), (2, .int v2), (3, .int v3), (6, .int v6)]) hx hb dX5_look_92 hl (k := 4) rfl (by rw [ei2]; rfl) (by decide) rfl (fun ls hl => ?_)
    have h := h i2 ei2
    refine lv_iload hx hb dX5_look_95 (lv_at hl 0 rfl) ?_
    refine lv_if_ge (tgt := 104) hx hb dX5_look_97 (by decide) (fun c3 => ?_) (fun c3 => ?_)
    · have h := h.1 c3
      refine lv_aload_n hx hb dX5_look_104 rfl (lv_at hl 1 rfl) ?_
      refine va_get (D := (dC, dI)) (ci := 5) (v := .ref (q 12)) (C := RX5) (T := TX5) (N := 22) hx hb hts iwX5_look_X5 hown hK hP 0 rfl rfl 18 (by decide) (hts _ fwX5_look_52) (fun _ h9 => h9) rfl dX5_look_105 ?_
      refine lv_iload hx hb dX5_look_108 (lv_at hl 0 rfl) ?_
      obtain ⟨b4, h⟩ := h
      refine va_iald (D := (dC, dI)) hx hb hK hP 12 0 rfl rfl b4 dX5_look_110 ?_
      refine lv_iconst (v := 1) hx hb dX5_look_111 (by decide) ?_
      refine lv_iadd hx hb dX5_look_112 ?_
      exact mX5_look_113 kc kd kn kp ka ku kr cn xs ys x2 y2 my tl po so st nr rg re C hK ha hN hk6 kt co v1 v2 v3 i2 (((co i2.toNatClampNeg) + 1)) ls H locs h (lv_sub hl [1, 2, 3, 4, 0] rfl) hP hS
    · have h := h.2 c3
      refine lv_iconst (v := 0) hx hb dX5_look_100 (by decide) ?_
      refine lv_goto (tgt := 113) hx hb dX5_look_101 (by decide) ?_
      exact mX5_look_113 kc kd kn kp ka ku kr cn xs ys x2 y2 my tl po so st nr rg re C hK ha hN hk6 kt co v1 v2 v3 i2 0 ls H locs h (lv_sub hl [1, 2, 3, 4, 0] rfl) hP hS
  · have h := h.2 c1
    obtain ⟨i5, ei5⟩ : ∃ y : Int32, y = v4 + 1 := ⟨_, rfl⟩
    refine lv_iinc (v := i5) (lv' := [(4, .int i5), (0, .ref (q 0)), (1, .int v1), (2, .int v2), (3, .int v3), (6, .int v6)]) hx hb dX5_look_83 hl (k := 4) rfl (by rw [ei5]; rfl) (by decide) rfl (fun ls hl => ?_)
    have h := h i5 ei5
    refine lv_iconst (v := 0) hx hb dX5_look_86 (by decide) ?_
    refine lv_istore (lv' := [(5, .int 0), (4, .int i5), (0, .ref (q 0)), (1, .int v1), (2, .int v2), (3, .int v3), (6, .int v6)]) hx hb dX5_look_87 hl (by decide) rfl (fun ls hl => ?_)
    refine lv_goto (tgt := 115) hx hb dX5_look_89 (by decide) ?_
    exact mX5_look_115 kc kd kn kp ka ku kr cn xs ys x2 y2 my tl po so st nr rg re C hK ha hN hk6 kt co v1 v2 v3 i5 0 ls H locs h (lv_sub hl [2, 3, 4, 5, 1, 0] rfl) hP hS
def lpX5_look_23 (kn : Int32) (kp : Int32) (cn : (Nat → Int32)) (tl : (Nat → Int32)) (po : (Nat → Int32)) (st : (Nat → Int32)) (nr : (Nat → Int64)) (K : Int32 → (Int32 × (Nat → Int32)) → Prop) (k42 : Int32 → (Nat → Int32) → Prop) (k78 : Int32 → (Nat → Int32) → Int32 → Int32 → Int32 → Int32 → Int32 → Prop) : Nat → Int32 → (Nat → Int32) → Int32 → Int32 → Int32 → Int32 → Int32 → Int32 → Prop
  | 0, _, _, _, _, _, _, _, _ => False
  | n + 1, kt, co, v1, v2, v3, v4, v5, v6 => ((v1 ≤ v5 → k78 kt co v1 v2 v3 v4 v6) ∧ (¬ (v1 ≤ v5) → ((¬ v6 = 0 → k78 kt co v1 v2 v3 v4 v6) ∧ (v6 = 0 → ((¬ kt = v3 → (∀ i9 : Int32, i9 = (kt + 1) → (vp_in v4 40 ∧ (∀ f11 : (Nat → Int32), f11 = upd co v4.toNatClampNeg v5 → (wX5_fits kn cn tl po st nr f11 v4 v2 (fun (r12 : Int32) => (∀ i14 : Int32, i14 = v5 + 1 → lpX5_look_23 kn kp cn tl po st nr K k42 k78 n i9 f11 v1 v2 v3 v4 i14 r12))))))) ∧ (kt = v3 → k42 kt co))))))
set_option maxHeartbeats 4000000 in
set_option maxRecDepth 100000 in
theorem mX5_look_23 {p : Program} {l : Launch} {e : Env} {s : State} {m : MethodId} {av : Array Value} {below : List Frame} {meth : Method} {c : Code} {dC : Nat → ClassId} {dI : Nat → Nat → Nat} {cI cJ cZ : ClassId} {q : Nat → Nat} {K : Int32 → (Int32 × (Nat → Int32)) → Prop} {k42 : Int32 → (Nat → Int32) → Prop} {k78 : Int32 → (Nat → Int32) → Int32 → Int32 → Int32 → Int32 → Int32 → Prop} (kc : Int32) (kd : Int32) (kn : Int32) (kp : Int32) (ka : Int32) (ku : Int32) (kr : Int32) (cn : (Nat → Int32)) (xs : (Nat → Int32)) (ys : (Nat → Int32)) (x2 : (Nat → Int32)) (y2 : (Nat → Int32)) (my : (Nat → Int32)) (tl : (Nat → Int32)) (po : (Nat → Int32)) (so : (Nat → Int32)) (st : (Nat → Int32)) (nr : (Nat → Int64)) (rg : (Nat → Int32)) (re : (Nat → Int64)) (C : CX p s m av meth c cX5_look 7 (some .int) RX5 wsX5_look) (hK : va_K (dC, dI) vwCl (TY cI cJ cZ) s) (ha : apart q 15) (hN : NX s) (hk42 : ∀ (kt : Int32) (co : (Nat → Int32)) (ls : Array Slot) (H : Heap) (locs : List Loc), k42 kt co → lv_has ls 7 [] → va_P (dC, dI) vwCl (WM q cI cJ cZ kc kd kn kp ka kt ku kr cn xs ys x2 y2 my tl po so st nr co rg re) H → va_S (AF q 15 s.heap.size) s.heap H locs → W p l e { frames := 2, cells := 0, slots := 0, locals := 49 } s m av below meth c H locs 0 0 (MQ below (QX5_look dC dI cI cJ cZ q s.heap.size kc kd kn kp ka ku kr cn xs ys x2 y2 my tl po so st nr rg re K) av s 0 0 (AF q 15 s.heap.size)) (F0 m 42 ls [])) (hk78 : ∀ (kt : Int32) (co : (Nat → Int32)) (v1 : Int32) (v2 : Int32) (v3 : Int32) (v4 : Int32) (v6 : Int32) (ls : Array Slot) (H : Heap) (locs : List Loc), k78 kt co v1 v2 v3 v4 v6 → lv_has ls 7 [(0, .ref (q 0)), (1, .int v1), (2, .int v2), (3, .int v3), (4, .int v4), (6, .int v6)] → va_P (dC, dI) vwCl (WM q cI cJ cZ kc kd kn kp ka kt ku kr cn xs ys x2 y2 my tl po so st nr co rg re) H → va_S (AF q 15 s.heap.size) s.heap H locs → W p l e { frames := 2, cells := 0, slots := 0, locals := 49 } s m av below meth c H locs 0 0 (MQ below (QX5_look dC dI cI cJ cZ q s.heap.size kc kd kn kp ka ku kr cn xs ys x2 y2 my tl po so st nr rg re K) av s 0 0 (AF q 15 s.heap.size)) (F0 m 78 ls [])) : ∀ (n : Nat) (kt : Int32) (co : (Nat → Int32)) (v1 : Int32) (v2 : Int32) (v3 : Int32) (v4 : Int32) (v5 : Int32) (v6 : Int32) (ls : Array Slot) (H : Heap) (locs : List Loc), lpX5_look_23 kn kp cn tl po st nr K k42 k78 n kt co v1 v2 v3 v4 v5 v6 → lv_has ls 7 [(0, .ref (q 0)), (1, .int v1), (2, .int v2), (3, .int v3), (4, .int v4), (5, .int v5), (6, .int v6)] → va_P (dC, dI) vwCl (WM q cI cJ cZ kc kd kn kp ka kt ku kr cn xs ys x2 y2 my tl po so st nr co rg re) H → va_S (AF q 15 s.heap.size) s.heap H locs → W p l e { frames := 2, cells := 0, slots := 0, locals := 49 } s m av below meth c H locs 0 0 (MQ below (QX5_look dC dI cI cJ cZ q s.heap.size kc kd kn kp ka ku kr cn xs ys x2 y2 my tl po so st nr rg re K) av s 0 0 (AF q 15 s.heap.size)) (F0 m 23 ls []) := by
  obtain ⟨hx, hb, hr, hml, hown, hts, hlk⟩ := id C
  intro n
  induction n with
  | zero =>
    intro kt co v1 v2 v3 v4 v5 v6 ls H locs h
    exact h.elim
  | succ n ih =>
    intro kt co v1 v2 v3 v4 v5 v6 ls H locs h hl hP hS
    rw [lpX5_look_23.eq_2] at h
    refine lv_iload hx hb dX5_look_23 (lv_at hl 5 rfl) ?_
    refine lv_iload_n hx hb dX5_look_25 rfl (lv_at hl 1 rfl) ?_
    refine lv_icmp_ge (tgt := 78) hx hb dX5_look_26 (by decide) (fun c6 => ?_) (fun c6 => ?_)
    · have h := h.1 c6
      exact hk78 kt co v1 v2 v3 v4 v6 ls H locs h (lv_sub hl [0, 1, 2, 3, 4, 6] rfl) hP hS
    · have h := h.2 c6
      refine lv_iload hx hb dX5_look_29 (lv_at hl 6 rfl) ?_
      refine lv_if_ne (tgt := 78) hx hb dX5_look_31 (by decide) (fun c7 => ?_) (fun c7 => ?_)
      · have h := h.1 c7
        exact hk78 kt co v1 v2 v3 v4 v6 ls H locs h (lv_sub hl [0, 1, 2, 3, 4, 6] rfl) hP hS
      · have h := h.2 c7
        refine lv_aload_n hx hb dX5_look_34 rfl (lv_at hl 0 rfl) ?_
        refine va_get (D := (dC, dI)) (ci := 5) (v := .int kt) (C := RX5) (T := TX5) (N := 22) hx hb hts iwX5_look_X5 hown hK hP 0 rfl rfl 16 (by decide) (hts _ fwX5_look_75) (fun _ h9 => h9) rfl dX5_look_35 ?_
        refine lv_iload_n hx hb dX5_look_38 rfl (lv_at hl 3 rfl) ?_
        refine lv_icmp_ne (tgt := 44) hx hb dX5_look_39 (by decide) (fun c8 => ?_) (fun c8 => ?_)
        · have h := h.1 c8
          refine lv_aload_n hx hb dX5_look_44 rfl (lv_at hl 0 rfl) ?_
          refine lv_dup hx hb dX5_look_45 rfl ?_
          refine va_get (D := (dC, dI)) (ci := 5) (v := .int kt) (C := RX5) (T := TX5) (N := 22) hx hb hts iwX5_look_X5 hown hK hP 0 rfl rfl 16 (by decide) (hts _ fwX5_look_75) (fun _ h9 => h9) rfl dX5_look_46 ?_
          refine lv_iconst (v := 1) hx hb dX5_look_49 (by decide) ?_
          refine lv_iadd hx hb dX5_look_50 ?_
          refine lv_topi (fun i9 ei9 => ?_)
          have h := h i9 ei9
          refine va_put (D := (dC, dI)) (ci := 5) (v := .int i9) (ty := .int) (C := RX5) (T := TX5) (N := 22) hx hb hts iwX5_look_X5 tyX5 tyX5_ok nmX5 hown hK hP (d_WM ha) hS 0 rfl rfl 16 (by decide) (hts _ fwX5_look_75) (fun _ h9 => h9) rfl (by decide +kernel) rfl rfl (Nat.le_of_ble_eq_true rfl) dX5_look_51 (fun H locs hP _ hS => ?_)
          have hP : va_P (dC, dI) vwCl (WM q cI cJ cZ kc kd kn kp ka i9 ku kr cn xs ys x2 y2 my tl po so st nr co rg re) H := hP
          refine lv_aload_n hx hb dX5_look_54 rfl (lv_at hl 0 rfl) ?_
          refine va_get (D := (dC, dI)) (ci := 5) (v := .ref (q 12)) (C := RX5) (T := TX5) (N := 22) hx hb hts iwX5_look_X5 hown hK hP 0 rfl rfl 18 (by decide) (hts _ fwX5_look_52) (fun _ h9 => h9) rfl dX5_look_55 ?_
          refine lv_iload hx hb dX5_look_58 (lv_at hl 4 rfl) ?_
          refine lv_iload hx hb dX5_look_60 (lv_at hl 5 rfl) ?_
          obtain ⟨b10, h⟩ := h
          refine va_iast (D := (dC, dI)) hx hb hK hP (d_WM ha) hS 12 0 rfl rfl b10 dX5_look_62 (fun H locs hP _ hS => ?_)
          obtain ⟨f11, ef11⟩ : ∃ z : (Nat → Int32), z = upd co v4.toNatClampNeg v5 := ⟨_, rfl⟩
          have h := h f11 ef11
          have hP : va_P (dC, dI) vwCl (WM q cI cJ cZ kc kd kn kp ka i9 ku kr cn xs ys x2 y2 my tl po so st nr f11 rg re) H := by rw [ef11]; exact hP
          refine lv_aload_n hx hb dX5_look_63 rfl (lv_at hl 0 rfl) ?_
          refine lv_iload hx hb dX5_look_64 (lv_at hl 4 rfl) ?_
          refine lv_iload_n hx hb dX5_look_66 rfl (lv_at hl 2 rfl) ?_
          refine cl_i (va_runV (As := [.int v4, .int v2]) (rest := []) ⟨hx, hb, hml, hown, hts⟩ (ktX5_fits l dC dI q cI cJ cZ H.size kc kd kn kp ka i9 ku kr cn xs ys x2 y2 my tl po so st nr f11 rg re v4 v2 h) (cwV 2 hts gX5_look_X5_fits rfl rfl rfl (by decide +kernel) ⟨Nat.le_of_ble_eq_true rfl, Nat.le_of_ble_eq_true rfl⟩) ⟨wd.blind, va_recv hK hP (ci := 5) (q0 := 0) rfl rfl, fun U hU hW => ⟨rfl, wd.at hP hK ha hN hU hW⟩⟩ rfl rfl hl.1 rfl (lv_room (Nat.le_of_ble_eq_true rfl)) dX5_look_67 ⟨Nat.le_of_ble_eq_true rfl, Nat.le_of_ble_eq_true rfl⟩) hS (fun r12 _ H locs h hP hS => ?_)
          have hP : va_P (dC, dI) vwCl (WM q cI cJ cZ kc kd kn kp ka i9 ku kr cn xs ys x2 y2 my tl po so st nr f11 rg re) H := hP
          refine lv_istore (lv' := [(6, .int r12), (0, .ref (q 0)), (1, .int v1), (2, .int v2), (3, .int v3), (4, .int v4), (5, .int v5)]) hx hb dX5_look_70 hl (by decide) rfl (fun ls hl => ?_)
          obtain ⟨i14, ei14⟩ : ∃ y : Int32, y = v5 + 1 := ⟨_, rfl⟩
          refine lv_iinc (v := i14) (lv' := [(5, .int i14), (6, .int r12), (0, .ref (q 0)), (1, .int v1), (2, .int v2), (3, .int v3), (4, .int v4)]) hx hb dX5_look_72 hl (k := 6) rfl (by rw [ei14]; rfl) (by decide) rfl (fun ls hl => ?_)
          have h := h i14 ei14
          refine lv_goto (tgt := 23) hx hb dX5_look_75 (by decide) ?_
          exact ih i9 f11 v1 v2 v3 v4 i14 r12 ls H locs h (lv_sub hl [2, 3, 4, 5, 6, 0, 1] rfl) hP hS
        · have h := h.2 c8
          exact hk42 kt co ls H locs h (lv_sub hl [] rfl) hP hS
def bkX5_look_118 (kn : Int32) (kp : Int32) (cn : (Nat → Int32)) (tl : (Nat → Int32)) (po : (Nat → Int32)) (st : (Nat → Int32)) (nr : (Nat → Int64)) (K : Int32 → (Int32 × (Nat → Int32)) → Prop) (kt : Int32) (co : (Nat → Int32)) (v4 : Int32) : Prop := ((0 ≤ v4 → K 0 (kt, co)) ∧ (¬ (0 ≤ v4) → K 1 (kt, co)))
set_option maxHeartbeats 4000000 in
set_option maxRecDepth 100000 in
theorem mX5_look_118 {p : Program} {l : Launch} {e : Env} {s : State} {m : MethodId} {av : Array Value} {below : List Frame} {meth : Method} {c : Code} {dC : Nat → ClassId} {dI : Nat → Nat → Nat} {cI cJ cZ : ClassId} {q : Nat → Nat} {K : Int32 → (Int32 × (Nat → Int32)) → Prop} (kc : Int32) (kd : Int32) (kn : Int32) (kp : Int32) (ka : Int32) (ku : Int32) (kr : Int32) (cn : (Nat → Int32)) (xs : (Nat → Int32)) (ys : (Nat → Int32)) (x2 : (Nat → Int32)) (y2 : (Nat → Int32)) (my : (Nat → Int32)) (tl : (Nat → Int32)) (po : (Nat → Int32)) (so : (Nat → Int32)) (st : (Nat → Int32)) (nr : (Nat → Int64)) (rg : (Nat → Int32)) (re : (Nat → Int64)) (C : CX p s m av meth c cX5_look 7 (some .int) RX5 wsX5_look) (hK : va_K (dC, dI) vwCl (TY cI cJ cZ) s) (ha : apart q 15) (hN : NX s)  : ∀ (kt : Int32) (co : (Nat → Int32)) (v4 : Int32) (ls : Array Slot) (H : Heap) (locs : List Loc), bkX5_look_118 kn kp cn tl po st nr K kt co v4 → lv_has ls 7 [(4, .int v4)] → va_P (dC, dI) vwCl (WM q cI cJ cZ kc kd kn kp ka kt ku kr cn xs ys x2 y2 my tl po so st nr co rg re) H → va_S (AF q 15 s.heap.size) s.heap H locs → W p l e { frames := 2, cells := 0, slots := 0, locals := 49 } s m av below meth c H locs 0 0 (MQ below (QX5_look dC dI cI cJ cZ q s.heap.size kc kd kn kp ka ku kr cn xs ys x2 y2 my tl po so st nr rg re K) av s 0 0 (AF q 15 s.heap.size)) (F0 m 118 ls []) := by
  obtain ⟨hx, hb, hr, hml, hown, hts, hlk⟩ := id C
  intro kt co v4 ls H locs h hl hP hS
  unfold bkX5_look_118 at h
  refine lv_iload hx hb dX5_look_118 (lv_at hl 0 rfl) ?_
  refine lv_if_ge (tgt := 127) hx hb dX5_look_120 (by decide) (fun c15 => ?_) (fun c15 => ?_)
  · have h := h.1 c15
    refine lv_iconst (v := 0) hx hb dX5_look_127 (by decide) ?_
    exact rt_i (kt, co) hx hb hr hlk h (fun t ht => by rw [ht]; exact hP) hS dX5_look_128
  · have h := h.2 c15
    refine lv_iconst (v := 1) hx hb dX5_look_123 (by decide) ?_
    refine lv_goto (tgt := 128) hx hb dX5_look_124 (by decide) ?_
    exact rt_i (kt, co) hx hb hr hlk h (fun t ht => by rw [ht]; exact hP) hS dX5_look_128
def lpX5_look_6 (kn : Int32) (kp : Int32) (cn : (Nat → Int32)) (tl : (Nat → Int32)) (po : (Nat → Int32)) (st : (Nat → Int32)) (nr : (Nat → Int64)) (K : Int32 → (Int32 × (Nat → Int32)) → Prop) (k42 : Int32 → (Nat → Int32) → Prop) (k118 : Int32 → (Nat → Int32) → Int32 → Prop) : Nat → Int32 → (Nat → Int32) → Int32 → Int32 → Int32 → Int32 → Int32 → Prop
  | 0, _, _, _, _, _, _, _ => False
  | n + 1, kt, co, v1, v2, v3, v4, v5 => ((v4 < 0 → k118 kt co v4) ∧ (¬ (v4 < 0) → ((kp ≤ v4 → k118 kt co v4) ∧ (¬ (kp ≤ v4) → (∃ z23, lpX5_look_23 kn kp cn tl po st nr K k42 (fun (kt : Int32) (co : (Nat → Int32)) (v1 : Int32) (v2 : Int32) (v3 : Int32) (v4 : Int32) (v6 : Int32) => ((v6 = 0 → (∀ i19 : Int32, i19 = v4 + (-1) → ((0 ≤ i19 → (vp_in i19 40 ∧ bkX5_look_113 kn kp cn tl po st nr K (fun kt co v1 v2 v3 v4 v5 => lpX5_look_6 kn kp cn tl po st nr K k42 k118 n kt co v1 v2 v3 v4 v5) kt co v1 v2 v3 i19 (((co i19.toNatClampNeg) + 1)))) ∧ (¬ (0 ≤ i19) → bkX5_look_113 kn kp cn tl po st nr K (fun kt co v1 v2 v3 v4 v5 => lpX5_look_6 kn kp cn tl po st nr K k42 k118 n kt co v1 v2 v3 v4 v5) kt co v1 v2 v3 i19 0)))) ∧ (¬ (v6 = 0) → (∀ i22 : Int32, i22 = v4 + 1 → bkX5_look_115 kn kp cn tl po st nr K (fun kt co v1 v2 v3 v4 v5 => lpX5_look_6 kn kp cn tl po st nr K k42 k118 n kt co v1 v2 v3 v4 v5) kt co v1 v2 v3 i22 0)))) z23 kt co v1 v2 v3 v4 v5 0)))))
set_option maxHeartbeats 4000000 in
set_option maxRecDepth 100000 in
theorem mX5_look_6 {p : Program} {l : Launch} {e : Env} {s : State} {m : MethodId} {av : Array Value} {below : List Frame} {meth : Method} {c : Code} {dC : Nat → ClassId} {dI : Nat → Nat → Nat} {cI cJ cZ : ClassId} {q : Nat → Nat} {K : Int32 → (Int32 × (Nat → Int32)) → Prop} {k42 : Int32 → (Nat → Int32) → Prop} {k118 : Int32 → (Nat → Int32) → Int32 → Prop} (kc : Int32) (kd : Int32) (kn : Int32) (kp : Int32) (ka : Int32) (ku : Int32) (kr : Int32) (cn : (Nat → Int32)) (xs : (Nat → Int32)) (ys : (Nat → Int32)) (x2 : (Nat → Int32)) (y2 : (Nat → Int32)) (my : (Nat → Int32)) (tl : (Nat → Int32)) (po : (Nat → Int32)) (so : (Nat → Int32)) (st : (Nat → Int32)) (nr : (Nat → Int64)) (rg : (Nat → Int32)) (re : (Nat → Int64)) (C : CX p s m av meth c cX5_look 7 (some .int) RX5 wsX5_look) (hK : va_K (dC, dI) vwCl (TY cI cJ cZ) s) (ha : apart q 15) (hN : NX s) (hk42 : ∀ (kt : Int32) (co : (Nat → Int32)) (ls : Array Slot) (H : Heap) (locs : List Loc), k42 kt co → lv_has ls 7 [] → va_P (dC, dI) vwCl (WM q cI cJ cZ kc kd kn kp ka kt ku kr cn xs ys x2 y2 my tl po so st nr co rg re) H → va_S (AF q 15 s.heap.size) s.heap H locs → W p l e { frames := 2, cells := 0, slots := 0, locals := 49 } s m av below meth c H locs 0 0 (MQ below (QX5_look dC dI cI cJ cZ q s.heap.size kc kd kn kp ka ku kr cn xs ys x2 y2 my tl po so st nr rg re K) av s 0 0 (AF q 15 s.heap.size)) (F0 m 42 ls [])) (hk118 : ∀ (kt : Int32) (co : (Nat → Int32)) (v4 : Int32) (ls : Array Slot) (H : Heap) (locs : List Loc), k118 kt co v4 → lv_has ls 7 [(4, .int v4)] → va_P (dC, dI) vwCl (WM q cI cJ cZ kc kd kn kp ka kt ku kr cn xs ys x2 y2 my tl po so st nr co rg re) H → va_S (AF q 15 s.heap.size) s.heap H locs → W p l e { frames := 2, cells := 0, slots := 0, locals := 49 } s m av below meth c H locs 0 0 (MQ below (QX5_look dC dI cI cJ cZ q s.heap.size kc kd kn kp ka ku kr cn xs ys x2 y2 my tl po so st nr rg re K) av s 0 0 (AF q 15 s.heap.size)) (F0 m 118 ls [])) : ∀ (n : Nat) (kt : Int32) (co : (Nat → Int32)) (v1 : Int32) (v2 : Int32) (v3 : Int32) (v4 : Int32) (v5 : Int32) (ls : Array Slot) (H : Heap) (locs : List Loc), lpX5_look_6 kn kp cn tl po st nr K k42 k118 n kt co v1 v2 v3 v4 v5 → lv_has ls 7 [(0, .ref (q 0)), (1, .int v1), (2, .int v2), (3, .int v3), (4, .int v4), (5, .int v5)] → va_P (dC, dI) vwCl (WM q cI cJ cZ kc kd kn kp ka kt ku kr cn xs ys x2 y2 my tl po so st nr co rg re) H → va_S (AF q 15 s.heap.size) s.heap H locs → W p l e { frames := 2, cells := 0, slots := 0, locals := 49 } s m av below meth c H locs 0 0 (MQ below (QX5_look dC dI cI cJ cZ q s.heap.size kc kd kn kp ka ku kr cn xs ys x2 y2 my tl po so st nr rg re K) av s 0 0 (AF q 15 s.heap.size)) (F0 m 6 ls []) := by
  obtain ⟨hx, hb, hr, hml, hown, hts, hlk⟩ := id C
  intro n
  induction n with
  | zero =>
    intro kt co v1 v2 v3 v4 v5 ls H locs h
    exact h.elim
  | succ n ih =>
    intro kt co v1 v2 v3 v4 v5 ls H locs h hl hP hS
    rw [lpX5_look_6.eq_2] at h
    refine lv_iload hx hb dX5_look_6 (lv_at hl 4 rfl) ?_
    refine lv_if_lt (tgt := 118) hx hb dX5_look_8 (by decide) (fun c16 => ?_) (fun c16 => ?_)
    · have h := h.1 c16
      exact hk118 kt co v4 ls H locs h (lv_sub hl [4] rfl) hP hS
    · have h := h.2 c16
      refine lv_iload hx hb dX5_look_11 (lv_at hl 4 rfl) ?_
      refine lv_aload_n hx hb dX5_look_13 rfl (lv_at hl 0 rfl) ?_
      refine va_get (D := (dC, dI)) (ci := 5) (v := .int kp) (C := RX5) (T := TX5) (N := 22) hx hb hts iwX5_look_X5 hown hK hP 0 rfl rfl 10 (by decide) (hts _ fwX5_look_102) (fun _ h9 => h9) rfl dX5_look_14 ?_
      refine lv_icmp_ge (tgt := 118) hx hb dX5_look_17 (by decide) (fun c17 => ?_) (fun c17 => ?_)
      · have h := h.1 c17
        exact hk118 kt co v4 ls H locs h (lv_sub hl [4] rfl) hP hS
      · have h := h.2 c17
        refine lv_iconst (v := 0) hx hb dX5_look_20 (by decide) ?_
        refine lv_istore (lv' := [(6, .int 0), (0, .ref (q 0)), (1, .int v1), (2, .int v2), (3, .int v3), (4, .int v4), (5, .int v5)]) hx hb dX5_look_21 hl (by decide) rfl (fun ls hl => ?_)
        obtain ⟨n9, h⟩ := h
        exact mX5_look_23 kc kd kn kp ka ku kr cn xs ys x2 y2 my tl po so st nr rg re C hK ha hN hk42 (fun kt co v1 v2 v3 v4 v6 ls H locs h hl hP hS => by
            refine lv_iload hx hb dX5_look_78 (lv_at hl 5 rfl) ?_
            refine lv_if_eq (tgt := 92) hx hb dX5_look_80 (by decide) (fun c18 => ?_) (fun c18 => ?_)
            · have h := h.1 c18
              obtain ⟨i19, ei19⟩ : ∃ y : Int32, y = v4 + (-1) := ⟨_, rfl⟩
              refine lv_iinc (v := i19) (lv' := [(4, .int i19), (0, .ref (q 0)), (1, .int v1), (2, .int v2), (3, .int v3), (6, .int v6)]) hx hb dX5_look_92 hl (k := 4) rfl (by rw [ei19]; rfl) (by decide) rfl (fun ls hl => ?_)
              have h := h i19 ei19
              refine lv_iload hx hb dX5_look_95 (lv_at hl 0 rfl) ?_
              refine lv_if_ge (tgt := 104) hx hb dX5_look_97 (by decide) (fun c20 => ?_) (fun c20 => ?_)
              · have h := h.1 c20
                refine lv_aload_n hx hb dX5_look_104 rfl (lv_at hl 1 rfl) ?_
                refine va_get (D := (dC, dI)) (ci := 5) (v := .ref (q 12)) (C := RX5) (T := TX5) (N := 22) hx hb hts iwX5_look_X5 hown hK hP 0 rfl rfl 18 (by decide) (hts _ fwX5_look_52) (fun _ h9 => h9) rfl dX5_look_105 ?_
                refine lv_iload hx hb dX5_look_108 (lv_at hl 0 rfl) ?_
                obtain ⟨b21, h⟩ := h
                refine va_iald (D := (dC, dI)) hx hb hK hP 12 0 rfl rfl b21 dX5_look_110 ?_
                refine lv_iconst (v := 1) hx hb dX5_look_111 (by decide) ?_
                refine lv_iadd hx hb dX5_look_112 ?_
                exact mX5_look_113 kc kd kn kp ka ku kr cn xs ys x2 y2 my tl po so st nr rg re C hK ha hN (fun kt co v1 v2 v3 v4 v5 ls H locs h hl hP hS => ih kt co v1 v2 v3 v4 v5 ls H locs h hl hP hS) kt co v1 v2 v3 i19 (((co i19.toNatClampNeg) + 1)) ls H locs h (lv_sub hl [1, 2, 3, 4, 0] rfl) hP hS
              · have h := h.2 c20
                refine lv_iconst (v := 0) hx hb dX5_look_100 (by decide) ?_
                refine lv_goto (tgt := 113) hx hb dX5_look_101 (by decide) ?_
                exact mX5_look_113 kc kd kn kp ka ku kr cn xs ys x2 y2 my tl po so st nr rg re C hK ha hN (fun kt co v1 v2 v3 v4 v5 ls H locs h hl hP hS => ih kt co v1 v2 v3 v4 v5 ls H locs h hl hP hS) kt co v1 v2 v3 i19 0 ls H locs h (lv_sub hl [1, 2, 3, 4, 0] rfl) hP hS
            · have h := h.2 c18
              obtain ⟨i22, ei22⟩ : ∃ y : Int32, y = v4 + 1 := ⟨_, rfl⟩
              refine lv_iinc (v := i22) (lv' := [(4, .int i22), (0, .ref (q 0)), (1, .int v1), (2, .int v2), (3, .int v3), (6, .int v6)]) hx hb dX5_look_83 hl (k := 4) rfl (by rw [ei22]; rfl) (by decide) rfl (fun ls hl => ?_)
              have h := h i22 ei22
              refine lv_iconst (v := 0) hx hb dX5_look_86 (by decide) ?_
              refine lv_istore (lv' := [(5, .int 0), (4, .int i22), (0, .ref (q 0)), (1, .int v1), (2, .int v2), (3, .int v3), (6, .int v6)]) hx hb dX5_look_87 hl (by decide) rfl (fun ls hl => ?_)
              refine lv_goto (tgt := 115) hx hb dX5_look_89 (by decide) ?_
              exact mX5_look_115 kc kd kn kp ka ku kr cn xs ys x2 y2 my tl po so st nr rg re C hK ha hN (fun kt co v1 v2 v3 v4 v5 ls H locs h hl hP hS => ih kt co v1 v2 v3 v4 v5 ls H locs h hl hP hS) kt co v1 v2 v3 i22 0 ls H locs h (lv_sub hl [2, 3, 4, 5, 1, 0] rfl) hP hS) n9 kt co v1 v2 v3 v4 v5 0 ls H locs h (lv_sub hl [1, 2, 3, 4, 5, 6, 0] rfl) hP hS
def wX5_look (kn : Int32) (kp : Int32) (cn : (Nat → Int32)) (tl : (Nat → Int32)) (po : (Nat → Int32)) (st : (Nat → Int32)) (nr : (Nat → Int64)) (kt : Int32) (co : (Nat → Int32)) (v1 : Int32) (v2 : Int32) (v3 : Int32) (K : Int32 → (Int32 × (Nat → Int32)) → Prop) : Prop := (∃ z6, lpX5_look_6 kn kp cn tl po st nr K (fun (kt : Int32) (co : (Nat → Int32)) => K 2 (kt, co)) (fun (kt : Int32) (co : (Nat → Int32)) (v4 : Int32) => ((0 ≤ v4 → K 0 (kt, co)) ∧ (¬ (0 ≤ v4) → K 1 (kt, co)))) z6 kt co v1 v2 v3 0 0)
set_option maxHeartbeats 4000000 in
set_option maxRecDepth 100000 in
theorem ktX5_look (l : Launch) (dC : Nat → ClassId) (dI : Nat → Nat → Nat) (q : Nat → Nat) (cI cJ cZ : ClassId) (sz : Nat) (kc : Int32) (kd : Int32) (kn : Int32) (kp : Int32) (ka : Int32) (kt : Int32) (ku : Int32) (kr : Int32) (cn : (Nat → Int32)) (xs : (Nat → Int32)) (ys : (Nat → Int32)) (x2 : (Nat → Int32)) (y2 : (Nat → Int32)) (my : (Nat → Int32)) (tl : (Nat → Int32)) (po : (Nat → Int32)) (so : (Nat → Int32)) (st : (Nat → Int32)) (nr : (Nat → Int64)) (co : (Nat → Int32)) (rg : (Nat → Int32)) (re : (Nat → Int64)) (v1 : Int32) (v2 : Int32) (v3 : Int32) {K : Int32 → (Int32 × (Nat → Int32)) → Prop} (h : wX5_look kn kp cn tl po st nr kt co v1 v2 v3 K) : Met l yX5_look wsX5_look { frames := 2, cells := 0, slots := 0, locals := 49 } (va_Pc [.ref (q 0), .int v1, .int v2, .int v3] (wd dC dI cI cJ cZ q 15 sz (WM q cI cJ cZ kc kd kn kp ka kt ku kr cn xs ys x2 y2 my tl po so st nr co rg re))) (QX5_look dC dI cI cJ cZ q sz kc kd kn kp ka ku kr cn xs ys x2 y2 my tl po so st nr rg re K) 0 0 (AF q 15 sz) := by
  refine met_of [.ref (q 0), .int v1, .int v2, .int v3] (by decide +kernel) rfl (Nat.le_of_ble_eq_true rfl) ?_
  intro p e s m below meth c ls hsz C hK ha hN hl hP
  subst hsz
  obtain ⟨hx, hb, hr, hml, hown, hts, hlk⟩ := id C
  have hl : lv_has ls 7 [(0, .ref (q 0)), (1, .int v1), (2, .int v2), (3, .int v3)] := hl
  refine w_go (Pw := fun H => va_P (dC, dI) vwCl (WM q cI cJ cZ kc kd kn kp ka kt ku kr cn xs ys x2 y2 my tl po so st nr co rg re) H) (A := AF q 15 s.heap.size) (fun H locs hP hS => ?_) hP
  unfold wX5_look at h
  refine lv_iconst (v := 0) hx hb dX5_look_0 (by decide) ?_
  refine lv_istore (lv' := [(4, .int 0), (0, .ref (q 0)), (1, .int v1), (2, .int v2), (3, .int v3)]) hx hb dX5_look_1 hl (by decide) rfl (fun ls hl => ?_)
  refine lv_iconst (v := 0) hx hb dX5_look_3 (by decide) ?_
  refine lv_istore (lv' := [(5, .int 0), (4, .int 0), (0, .ref (q 0)), (1, .int v1), (2, .int v2), (3, .int v3)]) hx hb dX5_look_4 hl (by decide) rfl (fun ls hl => ?_)
  obtain ⟨n9, h⟩ := h
  exact mX5_look_6 kc kd kn kp ka ku kr cn xs ys x2 y2 my tl po so st nr rg re C hK ha hN (fun kt co ls H locs h hl hP hS => by
      refine lv_iconst (v := 2) hx hb dX5_look_42 (by decide) ?_
      exact rt_i (kt, co) hx hb hr hlk h (fun t ht => by rw [ht]; exact hP) hS dX5_look_43) (fun kt co v4 ls H locs h hl hP hS => by
      refine lv_iload hx hb dX5_look_118 (lv_at hl 0 rfl) ?_
      refine lv_if_ge (tgt := 127) hx hb dX5_look_120 (by decide) (fun c23 => ?_) (fun c23 => ?_)
      · have h := h.1 c23
        refine lv_iconst (v := 0) hx hb dX5_look_127 (by decide) ?_
        exact rt_i (kt, co) hx hb hr hlk h (fun t ht => by rw [ht]; exact hP) hS dX5_look_128
      · have h := h.2 c23
        refine lv_iconst (v := 1) hx hb dX5_look_123 (by decide) ?_
        refine lv_goto (tgt := 128) hx hb dX5_look_124 (by decide) ?_
        exact rt_i (kt, co) hx hb hr hlk h (fun t ht => by rw [ht]; exact hP) hS dX5_look_128) n9 kt co v1 v2 v3 0 0 ls H locs h (lv_sub hl [2, 3, 4, 5, 1, 0] rfl) hP hS

theorem fwX5_run_142 : Cond.fieldLink RX5 142 "MaskPartsModel" "usedStitches" "I" ∈ wsX5_run := by decide +kernel
set_option maxRecDepth 20000 in
theorem iwX5_run_X5 : ∀ w ∈ wsX50, w ∈ wsX5_run := by decide +kernel
theorem fwX5_run_49 : Cond.fieldLink RX5 49 "MaskPartsModel" "answer" "I" ∈ wsX5_run := by decide +kernel
theorem fwX5_run_102 : Cond.fieldLink RX5 102 "MaskPartsModel" "parts" "I" ∈ wsX5_run := by decide +kernel
theorem fwX5_run_61 : Cond.fieldLink RX5 61 "MaskPartsModel" "code" "I" ∈ wsX5_run := by decide +kernel
theorem fwX5_run_75 : Cond.fieldLink RX5 75 "MaskPartsModel" "steps" "I" ∈ wsX5_run := by decide +kernel
theorem cwX5_run_129 : Cond.constantLong RX5 129 (2) ∈ wsX5_run := by decide +kernel
theorem cwX5_run_131 : Cond.constantLong RX5 131 (4) ∈ wsX5_run := by decide +kernel
theorem cwX5_run_133 : Cond.constantLong RX5 133 (20000) ∈ wsX5_run := by decide +kernel
abbrev QX5_run (dC : Nat → ClassId) (dI : Nat → Nat → Nat) (cI cJ cZ : ClassId) (q : Nat → Nat) (sz : Nat) (kd : Int32) (kn : Int32) (kr : Int32) (cn : (Nat → Int32)) (xs : (Nat → Int32)) (ys : (Nat → Int32)) (x2 : (Nat → Int32)) (y2 : (Nat → Int32)) (my : (Nat → Int32)) (tl : (Nat → Int32)) (rg : (Nat → Int32)) (re : (Nat → Int64)) (K : Int32 → (Int32 × Int32 × Int32 × Int32 × Int32 × (Nat → Int32) × (Nat → Int32) × (Nat → Int32) × (Nat → Int64) × (Nat → Int32)) → Prop) : Array Value → State → Outcome → State → Prop := va_Qi (fun (r : Int32) (u : Int32 × Int32 × Int32 × Int32 × Int32 × (Nat → Int32) × (Nat → Int32) × (Nat → Int32) × (Nat → Int64) × (Nat → Int32)) => K r u) (fun (u : Int32 × Int32 × Int32 × Int32 × Int32 × (Nat → Int32) × (Nat → Int32) × (Nat → Int32) × (Nat → Int64) × (Nat → Int32)) t => va_P (dC, dI) vwCl (WM q cI cJ cZ u.1 kd kn u.2.1 u.2.2.1 u.2.2.2.1 u.2.2.2.2.1 kr cn xs ys x2 y2 my tl u.2.2.2.2.2.1 u.2.2.2.2.2.2.1 u.2.2.2.2.2.2.2.1 u.2.2.2.2.2.2.2.2.1 u.2.2.2.2.2.2.2.2.2 rg re) t.heap) (AF q 15 sz)
def bkX5_run_120 (kd : Int32) (kn : Int32) (cn : (Nat → Int32)) (xs : (Nat → Int32)) (ys : (Nat → Int32)) (x2 : (Nat → Int32)) (y2 : (Nat → Int32)) (my : (Nat → Int32)) (tl : (Nat → Int32)) (K : Int32 → (Int32 × Int32 × Int32 × Int32 × Int32 × (Nat → Int32) × (Nat → Int32) × (Nat → Int32) × (Nat → Int64) × (Nat → Int32)) → Prop) (kc : Int32) (kp : Int32) (ka : Int32) (kt : Int32) (ku : Int32) (po : (Nat → Int32)) (so : (Nat → Int32)) (st : (Nat → Int32)) (nr : (Nat → Int64)) (co : (Nat → Int32)) (s1 : Int32) : Prop := K ka (kc, kp, ka, kt, s1, po, so, st, nr, co)
set_option maxHeartbeats 4000000 in
set_option maxRecDepth 100000 in
theorem mX5_run_120 {p : Program} {l : Launch} {e : Env} {s : State} {m : MethodId} {av : Array Value} {below : List Frame} {meth : Method} {c : Code} {dC : Nat → ClassId} {dI : Nat → Nat → Nat} {cI cJ cZ : ClassId} {q : Nat → Nat} {K : Int32 → (Int32 × Int32 × Int32 × Int32 × Int32 × (Nat → Int32) × (Nat → Int32) × (Nat → Int32) × (Nat → Int64) × (Nat → Int32)) → Prop} (kd : Int32) (kn : Int32) (kr : Int32) (cn : (Nat → Int32)) (xs : (Nat → Int32)) (ys : (Nat → Int32)) (x2 : (Nat → Int32)) (y2 : (Nat → Int32)) (my : (Nat → Int32)) (tl : (Nat → Int32)) (rg : (Nat → Int32)) (re : (Nat → Int64)) (C : CX p s m av meth c cX5_run 5 (some .int) RX5 wsX5_run) (hK : va_K (dC, dI) vwCl (TY cI cJ cZ) s) (ha : apart q 15) (hN : NX s)  : ∀ (kc : Int32) (kp : Int32) (ka : Int32) (kt : Int32) (ku : Int32) (po : (Nat → Int32)) (so : (Nat → Int32)) (st : (Nat → Int32)) (nr : (Nat → Int64)) (co : (Nat → Int32)) (s1 : Int32) (ls : Array Slot) (H : Heap) (locs : List Loc), bkX5_run_120 kd kn cn xs ys x2 y2 my tl K kc kp ka kt ku po so st nr co s1 → lv_has ls 5 [(0, .ref (q 0))] → va_P (dC, dI) vwCl (WM q cI cJ cZ kc kd kn kp ka kt ku kr cn xs ys x2 y2 my tl po so st nr co rg re) H → va_S (AF q 15 s.heap.size) s.heap H locs → W p l e { frames := 4, cells := 0, slots := 0, locals := 97 } s m av below meth c H locs 0 0 (MQ below (QX5_run dC dI cI cJ cZ q s.heap.size kd kn kr cn xs ys x2 y2 my tl rg re K) av s 0 0 (AF q 15 s.heap.size)) (F0 m 120 ls [.int s1, .ref (q 0)]) := by
  obtain ⟨hx, hb, hr, hml, hown, hts, hlk⟩ := id C
  intro kc kp ka kt ku po so st nr co s1 ls H locs h hl hP hS
  unfold bkX5_run_120 at h
  refine va_put (D := (dC, dI)) (ci := 5) (v := .int s1) (ty := .int) (C := RX5) (T := TX5) (N := 22) hx hb hts iwX5_run_X5 tyX5 tyX5_ok nmX5 hown hK hP (d_WM ha) hS 0 rfl rfl 17 (by decide) (hts _ fwX5_run_142) (fun _ h9 => h9) rfl (by decide +kernel) rfl rfl (Nat.le_of_ble_eq_true rfl) dX5_run_120 (fun H locs hP _ hS => ?_)
  have hP : va_P (dC, dI) vwCl (WM q cI cJ cZ kc kd kn kp ka kt s1 kr cn xs ys x2 y2 my tl po so st nr co rg re) H := hP
  refine lv_aload_n hx hb dX5_run_123 rfl (lv_at hl 0 rfl) ?_
  refine va_get (D := (dC, dI)) (ci := 5) (v := .int ka) (C := RX5) (T := TX5) (N := 22) hx hb hts iwX5_run_X5 hown hK hP 0 rfl rfl 15 (by decide) (hts _ fwX5_run_49) (fun _ h9 => h9) rfl dX5_run_124 ?_
  exact rt_i (kc, kp, ka, kt, s1, po, so, st, nr, co) hx hb hr hlk h (fun t ht => by rw [ht]; exact hP) hS dX5_run_127
def bkX5_run_98 (kd : Int32) (kn : Int32) (cn : (Nat → Int32)) (xs : (Nat → Int32)) (ys : (Nat → Int32)) (x2 : (Nat → Int32)) (y2 : (Nat → Int32)) (my : (Nat → Int32)) (tl : (Nat → Int32)) (K : Int32 → (Int32 × Int32 × Int32 × Int32 × Int32 × (Nat → Int32) × (Nat → Int32) × (Nat → Int32) × (Nat → Int64) × (Nat → Int32)) → Prop) (kc : Int32) (kp : Int32) (ka : Int32) (kt : Int32) (ku : Int32) (po : (Nat → Int32)) (so : (Nat → Int32)) (st : (Nat → Int32)) (nr : (Nat → Int64)) (co : (Nat → Int32)) : Prop := ((¬ ka = 0 → bkX5_run_120 kd kn cn xs ys x2 y2 my tl K kc kp ka kt ku po so st nr co (-1)) ∧ (ka = 0 → (wX5_usedUpTo st co ((kp - 1)) (fun (r2 : Int32) => bkX5_run_120 kd kn cn xs ys x2 y2 my tl K kc kp ka kt ku po so st nr co r2))))
set_option maxHeartbeats 4000000 in
set_option maxRecDepth 100000 in
theorem mX5_run_98 {p : Program} {l : Launch} {e : Env} {s : State} {m : MethodId} {av : Array Value} {below : List Frame} {meth : Method} {c : Code} {dC : Nat → ClassId} {dI : Nat → Nat → Nat} {cI cJ cZ : ClassId} {q : Nat → Nat} {K : Int32 → (Int32 × Int32 × Int32 × Int32 × Int32 × (Nat → Int32) × (Nat → Int32) × (Nat → Int32) × (Nat → Int64) × (Nat → Int32)) → Prop} (kd : Int32) (kn : Int32) (kr : Int32) (cn : (Nat → Int32)) (xs : (Nat → Int32)) (ys : (Nat → Int32)) (x2 : (Nat → Int32)) (y2 : (Nat → Int32)) (my : (Nat → Int32)) (tl : (Nat → Int32)) (rg : (Nat → Int32)) (re : (Nat → Int64)) (C : CX p s m av meth c cX5_run 5 (some .int) RX5 wsX5_run) (hK : va_K (dC, dI) vwCl (TY cI cJ cZ) s) (ha : apart q 15) (hN : NX s)  : ∀ (kc : Int32) (kp : Int32) (ka : Int32) (kt : Int32) (ku : Int32) (po : (Nat → Int32)) (so : (Nat → Int32)) (st : (Nat → Int32)) (nr : (Nat → Int64)) (co : (Nat → Int32)) (ls : Array Slot) (H : Heap) (locs : List Loc), bkX5_run_98 kd kn cn xs ys x2 y2 my tl K kc kp ka kt ku po so st nr co → lv_has ls 5 [(0, .ref (q 0))] → va_P (dC, dI) vwCl (WM q cI cJ cZ kc kd kn kp ka kt ku kr cn xs ys x2 y2 my tl po so st nr co rg re) H → va_S (AF q 15 s.heap.size) s.heap H locs → W p l e { frames := 4, cells := 0, slots := 0, locals := 97 } s m av below meth c H locs 0 0 (MQ below (QX5_run dC dI cI cJ cZ q s.heap.size kd kn kr cn xs ys x2 y2 my tl rg re K) av s 0 0 (AF q 15 s.heap.size)) (F0 m 98 ls []) := by
  obtain ⟨hx, hb, hr, hml, hown, hts, hlk⟩ := id C
  intro kc kp ka kt ku po so st nr co ls H locs h hl hP hS
  unfold bkX5_run_98 at h
  refine lv_aload_n hx hb dX5_run_98 rfl (lv_at hl 0 rfl) ?_
  refine lv_aload_n hx hb dX5_run_99 rfl (lv_at hl 0 rfl) ?_
  refine va_get (D := (dC, dI)) (ci := 5) (v := .int ka) (C := RX5) (T := TX5) (N := 22) hx hb hts iwX5_run_X5 hown hK hP 0 rfl rfl 15 (by decide) (hts _ fwX5_run_49) (fun _ h9 => h9) rfl dX5_run_100 ?_
  refine lv_if_ne (tgt := 119) hx hb dX5_run_103 (by decide) (fun c1 => ?_) (fun c1 => ?_)
  · have h := h.1 c1
    refine lv_iconst (v := (-1)) hx hb dX5_run_119 (by decide) ?_
    exact mX5_run_120 kd kn kr cn xs ys x2 y2 my tl rg re C hK ha hN  kc kp ka kt ku po so st nr co (-1) ls H locs h (lv_sub hl [0] rfl) hP hS
  · have h := h.2 c1
    refine lv_aload_n hx hb dX5_run_106 rfl (lv_at hl 0 rfl) ?_
    refine lv_aload_n hx hb dX5_run_107 rfl (lv_at hl 0 rfl) ?_
    refine va_get (D := (dC, dI)) (ci := 5) (v := .int kp) (C := RX5) (T := TX5) (N := 22) hx hb hts iwX5_run_X5 hown hK hP 0 rfl rfl 10 (by decide) (hts _ fwX5_run_102) (fun _ h9 => h9) rfl dX5_run_108 ?_
    refine lv_iconst (v := 1) hx hb dX5_run_111 (by decide) ?_
    refine lv_isub hx hb dX5_run_112 ?_
    refine cl_i (va_runV (As := [.int ((kp - 1))]) (rest := [.ref (q 0)]) ⟨hx, hb, hml, hown, hts⟩ (ktX5_usedUpTo l dC dI q cI cJ cZ H.size kc kd kn kp ka kt ku kr cn xs ys x2 y2 my tl po so st nr co rg re ((kp - 1)) h) (cwV 1 hts gX5_run_X5_usedUpTo rfl rfl rfl (by decide +kernel) ⟨Nat.le_of_ble_eq_true rfl, Nat.le_of_ble_eq_true rfl⟩) ⟨wd.blind, va_recv hK hP (ci := 5) (q0 := 0) rfl rfl, fun U hU hW => ⟨rfl, wd.at hP hK ha hN hU hW⟩⟩ rfl rfl hl.1 rfl (lv_room (Nat.le_of_ble_eq_true rfl)) dX5_run_113 ⟨Nat.le_of_ble_eq_true rfl, Nat.le_of_ble_eq_true rfl⟩) hS (fun r2 _ H locs h hP hS => ?_)
    have hP : va_P (dC, dI) vwCl (WM q cI cJ cZ kc kd kn kp ka kt ku kr cn xs ys x2 y2 my tl po so st nr co rg re) H := hP
    refine lv_goto (tgt := 120) hx hb dX5_run_116 (by decide) ?_
    exact mX5_run_120 kd kn kr cn xs ys x2 y2 my tl rg re C hK ha hN  kc kp ka kt ku po so st nr co r2 ls H locs h (lv_sub hl [0] rfl) hP hS
def lpX5_run_66 (kd : Int32) (kn : Int32) (cn : (Nat → Int32)) (xs : (Nat → Int32)) (ys : (Nat → Int32)) (x2 : (Nat → Int32)) (y2 : (Nat → Int32)) (my : (Nat → Int32)) (tl : (Nat → Int32)) (K : Int32 → (Int32 × Int32 × Int32 × Int32 × Int32 × (Nat → Int32) × (Nat → Int32) × (Nat → Int32) × (Nat → Int64) × (Nat → Int32)) → Prop) (k98 : Int32 → Int32 → Int32 → Int32 → Int32 → (Nat → Int32) → (Nat → Int32) → (Nat → Int32) → (Nat → Int64) → (Nat → Int32) → Prop) : Nat → Int32 → Int32 → Int32 → Int32 → Int32 → (Nat → Int32) → (Nat → Int32) → (Nat → Int32) → (Nat → Int64) → (Nat → Int32) → Int32 → Int32 → Int32 → Int32 → Prop
  | 0, _, _, _, _, _, _, _, _, _, _, _, _, _, _ => False
  | n + 1, kc, kp, ka, kt, ku, po, so, st, nr, co, v1, v2, v3, v4 => ((v3 < v4 → k98 kc kp ka kt ku po so st nr co) ∧ (¬ (v3 < v4) → ((¬ ka = 1 → k98 kc kp ka kt ku po so st nr co) ∧ (ka = 1 → (wX5_look kn kp cn tl po st nr kt co v1 v4 v2 (fun (r6 : Int32) (u7 : Int32 × (Nat → Int32)) => (∀ i8 : Int32, i8 = v4 + 1 → lpX5_run_66 kd kn cn xs ys x2 y2 my tl K k98 n kc kp r6 u7.1 ku po so st nr u7.2 v1 v2 v3 i8)))))))
set_option maxHeartbeats 4000000 in
set_option maxRecDepth 100000 in
theorem mX5_run_66 {p : Program} {l : Launch} {e : Env} {s : State} {m : MethodId} {av : Array Value} {below : List Frame} {meth : Method} {c : Code} {dC : Nat → ClassId} {dI : Nat → Nat → Nat} {cI cJ cZ : ClassId} {q : Nat → Nat} {K : Int32 → (Int32 × Int32 × Int32 × Int32 × Int32 × (Nat → Int32) × (Nat → Int32) × (Nat → Int32) × (Nat → Int64) × (Nat → Int32)) → Prop} {k98 : Int32 → Int32 → Int32 → Int32 → Int32 → (Nat → Int32) → (Nat → Int32) → (Nat → Int32) → (Nat → Int64) → (Nat → Int32) → Prop} (kd : Int32) (kn : Int32) (kr : Int32) (cn : (Nat → Int32)) (xs : (Nat → Int32)) (ys : (Nat → Int32)) (x2 : (Nat → Int32)) (y2 : (Nat → Int32)) (my : (Nat → Int32)) (tl : (Nat → Int32)) (rg : (Nat → Int32)) (re : (Nat → Int64)) (C : CX p s m av meth c cX5_run 5 (some .int) RX5 wsX5_run) (hK : va_K (dC, dI) vwCl (TY cI cJ cZ) s) (ha : apart q 15) (hN : NX s) (hk98 : ∀ (kc : Int32) (kp : Int32) (ka : Int32) (kt : Int32) (ku : Int32) (po : (Nat → Int32)) (so : (Nat → Int32)) (st : (Nat → Int32)) (nr : (Nat → Int64)) (co : (Nat → Int32)) (ls : Array Slot) (H : Heap) (locs : List Loc), k98 kc kp ka kt ku po so st nr co → lv_has ls 5 [(0, .ref (q 0))] → va_P (dC, dI) vwCl (WM q cI cJ cZ kc kd kn kp ka kt ku kr cn xs ys x2 y2 my tl po so st nr co rg re) H → va_S (AF q 15 s.heap.size) s.heap H locs → W p l e { frames := 4, cells := 0, slots := 0, locals := 97 } s m av below meth c H locs 0 0 (MQ below (QX5_run dC dI cI cJ cZ q s.heap.size kd kn kr cn xs ys x2 y2 my tl rg re K) av s 0 0 (AF q 15 s.heap.size)) (F0 m 98 ls [])) : ∀ (n : Nat) (kc : Int32) (kp : Int32) (ka : Int32) (kt : Int32) (ku : Int32) (po : (Nat → Int32)) (so : (Nat → Int32)) (st : (Nat → Int32)) (nr : (Nat → Int64)) (co : (Nat → Int32)) (v1 : Int32) (v2 : Int32) (v3 : Int32) (v4 : Int32) (ls : Array Slot) (H : Heap) (locs : List Loc), lpX5_run_66 kd kn cn xs ys x2 y2 my tl K k98 n kc kp ka kt ku po so st nr co v1 v2 v3 v4 → lv_has ls 5 [(0, .ref (q 0)), (1, .int v1), (2, .int v2), (3, .int v3), (4, .int v4)] → va_P (dC, dI) vwCl (WM q cI cJ cZ kc kd kn kp ka kt ku kr cn xs ys x2 y2 my tl po so st nr co rg re) H → va_S (AF q 15 s.heap.size) s.heap H locs → W p l e { frames := 4, cells := 0, slots := 0, locals := 97 } s m av below meth c H locs 0 0 (MQ below (QX5_run dC dI cI cJ cZ q s.heap.size kd kn kr cn xs ys x2 y2 my tl rg re K) av s 0 0 (AF q 15 s.heap.size)) (F0 m 66 ls []) := by
  obtain ⟨hx, hb, hr, hml, hown, hts, hlk⟩ := id C
  intro n
  induction n with
  | zero =>
    intro kc kp ka kt ku po so st nr co v1 v2 v3 v4 ls H locs h
    exact h.elim
  | succ n ih =>
    intro kc kp ka kt ku po so st nr co v1 v2 v3 v4 ls H locs h hl hP hS
    rw [lpX5_run_66.eq_2] at h
    refine lv_iload hx hb dX5_run_66 (lv_at hl 4 rfl) ?_
    refine lv_iload_n hx hb dX5_run_68 rfl (lv_at hl 3 rfl) ?_
    refine lv_icmp_gt (tgt := 98) hx hb dX5_run_69 (by decide) (fun c4 => ?_) (fun c4 => ?_)
    · have h := h.1 c4
      exact hk98 kc kp ka kt ku po so st nr co ls H locs h (lv_sub hl [0] rfl) hP hS
    · have h := h.2 c4
      refine lv_aload_n hx hb dX5_run_72 rfl (lv_at hl 0 rfl) ?_
      refine va_get (D := (dC, dI)) (ci := 5) (v := .int ka) (C := RX5) (T := TX5) (N := 22) hx hb hts iwX5_run_X5 hown hK hP 0 rfl rfl 15 (by decide) (hts _ fwX5_run_49) (fun _ h9 => h9) rfl dX5_run_73 ?_
      refine lv_iconst (v := 1) hx hb dX5_run_76 (by decide) ?_
      refine lv_icmp_ne (tgt := 98) hx hb dX5_run_77 (by decide) (fun c5 => ?_) (fun c5 => ?_)
      · have h := h.1 c5
        exact hk98 kc kp ka kt ku po so st nr co ls H locs h (lv_sub hl [0] rfl) hP hS
      · have h := h.2 c5
        refine lv_aload_n hx hb dX5_run_80 rfl (lv_at hl 0 rfl) ?_
        refine lv_aload_n hx hb dX5_run_81 rfl (lv_at hl 0 rfl) ?_
        refine lv_iload_n hx hb dX5_run_82 rfl (lv_at hl 1 rfl) ?_
        refine lv_iload hx hb dX5_run_83 (lv_at hl 4 rfl) ?_
        refine lv_iload_n hx hb dX5_run_85 rfl (lv_at hl 2 rfl) ?_
        refine cl_i (va_runV (As := [.int v1, .int v4, .int v2]) (rest := [.ref (q 0)]) ⟨hx, hb, hml, hown, hts⟩ (ktX5_look l dC dI q cI cJ cZ H.size kc kd kn kp ka kt ku kr cn xs ys x2 y2 my tl po so st nr co rg re v1 v4 v2 h) (cwV 3 hts gX5_run_X5_look rfl rfl rfl (by decide +kernel) ⟨Nat.le_of_ble_eq_true rfl, Nat.le_of_ble_eq_true rfl⟩) ⟨wd.blind, va_recv hK hP (ci := 5) (q0 := 0) rfl rfl, fun U hU hW => ⟨rfl, wd.at hP hK ha hN hU hW⟩⟩ rfl rfl hl.1 rfl (lv_room (Nat.le_of_ble_eq_true rfl)) dX5_run_86 ⟨Nat.le_of_ble_eq_true rfl, Nat.le_of_ble_eq_true rfl⟩) hS (fun r6 u7 H locs h hP hS => ?_)
        have hP : va_P (dC, dI) vwCl (WM q cI cJ cZ kc kd kn kp ka u7.1 ku kr cn xs ys x2 y2 my tl po so st nr u7.2 rg re) H := hP
        refine va_put (D := (dC, dI)) (ci := 5) (v := .int r6) (ty := .int) (C := RX5) (T := TX5) (N := 22) hx hb hts iwX5_run_X5 tyX5 tyX5_ok nmX5 hown hK hP (d_WM ha) hS 0 rfl rfl 15 (by decide) (hts _ fwX5_run_49) (fun _ h9 => h9) rfl (by decide +kernel) rfl rfl (Nat.le_of_ble_eq_true rfl) dX5_run_89 (fun H locs hP _ hS => ?_)
        have hP : va_P (dC, dI) vwCl (WM q cI cJ cZ kc kd kn kp r6 u7.1 ku kr cn xs ys x2 y2 my tl po so st nr u7.2 rg re) H := hP
        obtain ⟨i8, ei8⟩ : ∃ y : Int32, y = v4 + 1 := ⟨_, rfl⟩
        refine lv_iinc (v := i8) (lv' := [(4, .int i8), (0, .ref (q 0)), (1, .int v1), (2, .int v2), (3, .int v3)]) hx hb dX5_run_92 hl (k := 4) rfl (by rw [ei8]; rfl) (by decide) rfl (fun ls hl => ?_)
        have h := h i8 ei8
        refine lv_goto (tgt := 66) hx hb dX5_run_95 (by decide) ?_
        exact ih kc kp r6 u7.1 ku po so st nr u7.2 v1 v2 v3 i8 ls H locs h (lv_sub hl [1, 2, 3, 4, 0] rfl) hP hS
def bkX5_run_32 (kd : Int32) (kn : Int32) (cn : (Nat → Int32)) (xs : (Nat → Int32)) (ys : (Nat → Int32)) (x2 : (Nat → Int32)) (y2 : (Nat → Int32)) (my : (Nat → Int32)) (tl : (Nat → Int32)) (K : Int32 → (Int32 × Int32 × Int32 × Int32 × Int32 × (Nat → Int32) × (Nat → Int32) × (Nat → Int32) × (Nat → Int64) × (Nat → Int32)) → Prop) (kc : Int32) (kp : Int32) (ka : Int32) (kt : Int32) (ku : Int32) (po : (Nat → Int32)) (so : (Nat → Int32)) (st : (Nat → Int32)) (nr : (Nat → Int64)) (co : (Nat → Int32)) (v1 : Int32) (v2 : Int32) (s1 : Int32) : Prop := ((s1 ≤ 0 → (wX5_findParts kd kn cn xs ys x2 y2 my kp po so st nr  (fun (u11 : Int32 × (Nat → Int32) × (Nat → Int32) × (Nat → Int32) × (Nat → Int64)) => (wX5_stitches u11.1 u11.2.2.2.1  (fun (r12 : Int32) => (∃ z66, lpX5_run_66 kd kn cn xs ys x2 y2 my tl K (fun (kc : Int32) (kp : Int32) (ka : Int32) (kt : Int32) (ku : Int32) (po : (Nat → Int32)) (so : (Nat → Int32)) (st : (Nat → Int32)) (nr : (Nat → Int64)) (co : (Nat → Int32)) => ((¬ ka = 0 → bkX5_run_120 kd kn cn xs ys x2 y2 my tl K kc kp ka kt ku po so st nr co (-1)) ∧ (ka = 0 → (wX5_usedUpTo st co ((kp - 1)) (fun (r15 : Int32) => bkX5_run_120 kd kn cn xs ys x2 y2 my tl K kc kp ka kt ku po so st nr co r15))))) z66 s1 u11.1 1 0 ku u11.2.1 u11.2.2.1 u11.2.2.2.1 u11.2.2.2.2 co v1 v2 r12 0)))))) ∧ (¬ (s1 ≤ 0) → K 0 (s1, kp, ka, kt, ku, po, so, st, nr, co)))
set_option maxHeartbeats 4000000 in
set_option maxRecDepth 100000 in
theorem mX5_run_32 {p : Program} {l : Launch} {e : Env} {s : State} {m : MethodId} {av : Array Value} {below : List Frame} {meth : Method} {c : Code} {dC : Nat → ClassId} {dI : Nat → Nat → Nat} {cI cJ cZ : ClassId} {q : Nat → Nat} {K : Int32 → (Int32 × Int32 × Int32 × Int32 × Int32 × (Nat → Int32) × (Nat → Int32) × (Nat → Int32) × (Nat → Int64) × (Nat → Int32)) → Prop} (kd : Int32) (kn : Int32) (kr : Int32) (cn : (Nat → Int32)) (xs : (Nat → Int32)) (ys : (Nat → Int32)) (x2 : (Nat → Int32)) (y2 : (Nat → Int32)) (my : (Nat → Int32)) (tl : (Nat → Int32)) (rg : (Nat → Int32)) (re : (Nat → Int64)) (C : CX p s m av meth c cX5_run 5 (some .int) RX5 wsX5_run) (hK : va_K (dC, dI) vwCl (TY cI cJ cZ) s) (ha : apart q 15) (hN : NX s)  : ∀ (kc : Int32) (kp : Int32) (ka : Int32) (kt : Int32) (ku : Int32) (po : (Nat → Int32)) (so : (Nat → Int32)) (st : (Nat → Int32)) (nr : (Nat → Int64)) (co : (Nat → Int32)) (v1 : Int32) (v2 : Int32) (s1 : Int32) (ls : Array Slot) (H : Heap) (locs : List Loc), bkX5_run_32 kd kn cn xs ys x2 y2 my tl K kc kp ka kt ku po so st nr co v1 v2 s1 → lv_has ls 5 [(0, .ref (q 0)), (1, .int v1), (2, .int v2)] → va_P (dC, dI) vwCl (WM q cI cJ cZ kc kd kn kp ka kt ku kr cn xs ys x2 y2 my tl po so st nr co rg re) H → va_S (AF q 15 s.heap.size) s.heap H locs → W p l e { frames := 4, cells := 0, slots := 0, locals := 97 } s m av below meth c H locs 0 0 (MQ below (QX5_run dC dI cI cJ cZ q s.heap.size kd kn kr cn xs ys x2 y2 my tl rg re K) av s 0 0 (AF q 15 s.heap.size)) (F0 m 32 ls [.int s1, .ref (q 0)]) := by
  obtain ⟨hx, hb, hr, hml, hown, hts, hlk⟩ := id C
  intro kc kp ka kt ku po so st nr co v1 v2 s1 ls H locs h hl hP hS
  unfold bkX5_run_32 at h
  refine va_put (D := (dC, dI)) (ci := 5) (v := .int s1) (ty := .int) (C := RX5) (T := TX5) (N := 22) hx hb hts iwX5_run_X5 tyX5 tyX5_ok nmX5 hown hK hP (d_WM ha) hS 0 rfl rfl 0 (by decide) (hts _ fwX5_run_61) (fun _ h9 => h9) rfl (by decide +kernel) rfl rfl (Nat.le_of_ble_eq_true rfl) dX5_run_32 (fun H locs hP _ hS => ?_)
  have hP : va_P (dC, dI) vwCl (WM q cI cJ cZ s1 kd kn kp ka kt ku kr cn xs ys x2 y2 my tl po so st nr co rg re) H := hP
  refine lv_aload_n hx hb dX5_run_35 rfl (lv_at hl 0 rfl) ?_
  refine va_get (D := (dC, dI)) (ci := 5) (v := .int s1) (C := RX5) (T := TX5) (N := 22) hx hb hts iwX5_run_X5 hown hK hP 0 rfl rfl 0 (by decide) (hts _ fwX5_run_61) (fun _ h9 => h9) rfl dX5_run_36 ?_
  refine lv_if_le (tgt := 44) hx hb dX5_run_39 (by decide) (fun c9 => ?_) (fun c9 => ?_)
  · have h := h.1 c9
    refine lv_aload_n hx hb dX5_run_44 rfl (lv_at hl 0 rfl) ?_
    refine cl_v (va_runV (As := []) (rest := []) ⟨hx, hb, hml, hown, hts⟩ (ktX5_findParts l dC dI q cI cJ cZ H.size s1 kd kn kp ka kt ku kr cn xs ys x2 y2 my tl po so st nr co rg re  h) (cwV 0 hts gX5_run_X5_findParts rfl rfl rfl (by decide +kernel) ⟨Nat.le_of_ble_eq_true rfl, Nat.le_of_ble_eq_true rfl⟩) ⟨wd.blind, va_recv hK hP (ci := 5) (q0 := 0) rfl rfl, fun U hU hW => ⟨rfl, wd.at hP hK ha hN hU hW⟩⟩ rfl rfl hl.1 rfl (lv_room (Nat.le_of_ble_eq_true rfl)) dX5_run_45 ⟨Nat.le_of_ble_eq_true rfl, Nat.le_of_ble_eq_true rfl⟩) hS (fun u11 H locs h hP hS => ?_)
    have hP : va_P (dC, dI) vwCl (WM q cI cJ cZ s1 kd kn u11.1 ka kt ku kr cn xs ys x2 y2 my tl u11.2.1 u11.2.2.1 u11.2.2.2.1 u11.2.2.2.2 co rg re) H := hP
    refine lv_aload_n hx hb dX5_run_48 rfl (lv_at hl 0 rfl) ?_
    refine lv_iconst (v := 0) hx hb dX5_run_49 (by decide) ?_
    refine va_put (D := (dC, dI)) (ci := 5) (v := .int 0) (ty := .int) (C := RX5) (T := TX5) (N := 22) hx hb hts iwX5_run_X5 tyX5 tyX5_ok nmX5 hown hK hP (d_WM ha) hS 0 rfl rfl 16 (by decide) (hts _ fwX5_run_75) (fun _ h9 => h9) rfl (by decide +kernel) rfl rfl (Nat.le_of_ble_eq_true rfl) dX5_run_50 (fun H locs hP _ hS => ?_)
    have hP : va_P (dC, dI) vwCl (WM q cI cJ cZ s1 kd kn u11.1 ka 0 ku kr cn xs ys x2 y2 my tl u11.2.1 u11.2.2.1 u11.2.2.2.1 u11.2.2.2.2 co rg re) H := hP
    refine lv_aload_n hx hb dX5_run_53 rfl (lv_at hl 0 rfl) ?_
    refine lv_iconst (v := 1) hx hb dX5_run_54 (by decide) ?_
    refine va_put (D := (dC, dI)) (ci := 5) (v := .int 1) (ty := .int) (C := RX5) (T := TX5) (N := 22) hx hb hts iwX5_run_X5 tyX5 tyX5_ok nmX5 hown hK hP (d_WM ha) hS 0 rfl rfl 15 (by decide) (hts _ fwX5_run_49) (fun _ h9 => h9) rfl (by decide +kernel) rfl rfl (Nat.le_of_ble_eq_true rfl) dX5_run_55 (fun H locs hP _ hS => ?_)
    have hP : va_P (dC, dI) vwCl (WM q cI cJ cZ s1 kd kn u11.1 1 0 ku kr cn xs ys x2 y2 my tl u11.2.1 u11.2.2.1 u11.2.2.2.1 u11.2.2.2.2 co rg re) H := hP
    refine lv_aload_n hx hb dX5_run_58 rfl (lv_at hl 0 rfl) ?_
    refine cl_i (va_runV (As := []) (rest := []) ⟨hx, hb, hml, hown, hts⟩ (ktX5_stitches l dC dI q cI cJ cZ H.size s1 kd kn u11.1 1 0 ku kr cn xs ys x2 y2 my tl u11.2.1 u11.2.2.1 u11.2.2.2.1 u11.2.2.2.2 co rg re  h) (cwV 0 hts gX5_run_X5_stitches rfl rfl rfl (by decide +kernel) ⟨Nat.le_of_ble_eq_true rfl, Nat.le_of_ble_eq_true rfl⟩) ⟨wd.blind, va_recv hK hP (ci := 5) (q0 := 0) rfl rfl, fun U hU hW => ⟨rfl, wd.at hP hK ha hN hU hW⟩⟩ rfl rfl hl.1 rfl (lv_room (Nat.le_of_ble_eq_true rfl)) dX5_run_59 ⟨Nat.le_of_ble_eq_true rfl, Nat.le_of_ble_eq_true rfl⟩) hS (fun r12 _ H locs h hP hS => ?_)
    have hP : va_P (dC, dI) vwCl (WM q cI cJ cZ s1 kd kn u11.1 1 0 ku kr cn xs ys x2 y2 my tl u11.2.1 u11.2.2.1 u11.2.2.2.1 u11.2.2.2.2 co rg re) H := hP
    refine lv_istore_n (lv' := [(3, .int r12), (0, .ref (q 0)), (1, .int v1), (2, .int v2)]) hx hb dX5_run_62 rfl hl (by decide) rfl (fun ls hl => ?_)
    refine lv_iconst (v := 0) hx hb dX5_run_63 (by decide) ?_
    refine lv_istore (lv' := [(4, .int 0), (3, .int r12), (0, .ref (q 0)), (1, .int v1), (2, .int v2)]) hx hb dX5_run_64 hl (by decide) rfl (fun ls hl => ?_)
    obtain ⟨n9, h⟩ := h
    exact mX5_run_66 kd kn kr cn xs ys x2 y2 my tl rg re C hK ha hN (fun kc kp ka kt ku po so st nr co ls H locs h hl hP hS => by
        refine lv_aload_n hx hb dX5_run_98 rfl (lv_at hl 0 rfl) ?_
        refine lv_aload_n hx hb dX5_run_99 rfl (lv_at hl 0 rfl) ?_
        refine va_get (D := (dC, dI)) (ci := 5) (v := .int ka) (C := RX5) (T := TX5) (N := 22) hx hb hts iwX5_run_X5 hown hK hP 0 rfl rfl 15 (by decide) (hts _ fwX5_run_49) (fun _ h9 => h9) rfl dX5_run_100 ?_
        refine lv_if_ne (tgt := 119) hx hb dX5_run_103 (by decide) (fun c14 => ?_) (fun c14 => ?_)
        · have h := h.1 c14
          refine lv_iconst (v := (-1)) hx hb dX5_run_119 (by decide) ?_
          exact mX5_run_120 kd kn kr cn xs ys x2 y2 my tl rg re C hK ha hN  kc kp ka kt ku po so st nr co (-1) ls H locs h (lv_sub hl [0] rfl) hP hS
        · have h := h.2 c14
          refine lv_aload_n hx hb dX5_run_106 rfl (lv_at hl 0 rfl) ?_
          refine lv_aload_n hx hb dX5_run_107 rfl (lv_at hl 0 rfl) ?_
          refine va_get (D := (dC, dI)) (ci := 5) (v := .int kp) (C := RX5) (T := TX5) (N := 22) hx hb hts iwX5_run_X5 hown hK hP 0 rfl rfl 10 (by decide) (hts _ fwX5_run_102) (fun _ h9 => h9) rfl dX5_run_108 ?_
          refine lv_iconst (v := 1) hx hb dX5_run_111 (by decide) ?_
          refine lv_isub hx hb dX5_run_112 ?_
          refine cl_i (va_runV (As := [.int ((kp - 1))]) (rest := [.ref (q 0)]) ⟨hx, hb, hml, hown, hts⟩ (ktX5_usedUpTo l dC dI q cI cJ cZ H.size kc kd kn kp ka kt ku kr cn xs ys x2 y2 my tl po so st nr co rg re ((kp - 1)) h) (cwV 1 hts gX5_run_X5_usedUpTo rfl rfl rfl (by decide +kernel) ⟨Nat.le_of_ble_eq_true rfl, Nat.le_of_ble_eq_true rfl⟩) ⟨wd.blind, va_recv hK hP (ci := 5) (q0 := 0) rfl rfl, fun U hU hW => ⟨rfl, wd.at hP hK ha hN hU hW⟩⟩ rfl rfl hl.1 rfl (lv_room (Nat.le_of_ble_eq_true rfl)) dX5_run_113 ⟨Nat.le_of_ble_eq_true rfl, Nat.le_of_ble_eq_true rfl⟩) hS (fun r15 _ H locs h hP hS => ?_)
          have hP : va_P (dC, dI) vwCl (WM q cI cJ cZ kc kd kn kp ka kt ku kr cn xs ys x2 y2 my tl po so st nr co rg re) H := hP
          refine lv_goto (tgt := 120) hx hb dX5_run_116 (by decide) ?_
          exact mX5_run_120 kd kn kr cn xs ys x2 y2 my tl rg re C hK ha hN  kc kp ka kt ku po so st nr co r15 ls H locs h (lv_sub hl [0] rfl) hP hS) n9 s1 u11.1 1 0 ku u11.2.1 u11.2.2.1 u11.2.2.2.1 u11.2.2.2.2 co v1 v2 r12 0 ls H locs h (lv_sub hl [2, 3, 4, 1, 0] rfl) hP hS
  · have h := h.2 c9
    refine lv_iconst (v := 0) hx hb dX5_run_42 (by decide) ?_
    exact rt_i (s1, kp, ka, kt, ku, po, so, st, nr, co) hx hb hr hlk h (fun t ht => by rw [ht]; exact hP) hS dX5_run_43
def bkX5_run_31 (kd : Int32) (kn : Int32) (cn : (Nat → Int32)) (xs : (Nat → Int32)) (ys : (Nat → Int32)) (x2 : (Nat → Int32)) (y2 : (Nat → Int32)) (my : (Nat → Int32)) (tl : (Nat → Int32)) (K : Int32 → (Int32 × Int32 × Int32 × Int32 × Int32 × (Nat → Int32) × (Nat → Int32) × (Nat → Int32) × (Nat → Int64) × (Nat → Int32)) → Prop) (kc : Int32) (kp : Int32) (ka : Int32) (kt : Int32) (ku : Int32) (po : (Nat → Int32)) (so : (Nat → Int32)) (st : (Nat → Int32)) (nr : (Nat → Int64)) (co : (Nat → Int32)) (v1 : Int32) (v2 : Int32) : Prop := bkX5_run_32 kd kn cn xs ys x2 y2 my tl K kc kp ka kt ku po so st nr co v1 v2 1
set_option maxHeartbeats 4000000 in
set_option maxRecDepth 100000 in
theorem mX5_run_31 {p : Program} {l : Launch} {e : Env} {s : State} {m : MethodId} {av : Array Value} {below : List Frame} {meth : Method} {c : Code} {dC : Nat → ClassId} {dI : Nat → Nat → Nat} {cI cJ cZ : ClassId} {q : Nat → Nat} {K : Int32 → (Int32 × Int32 × Int32 × Int32 × Int32 × (Nat → Int32) × (Nat → Int32) × (Nat → Int32) × (Nat → Int64) × (Nat → Int32)) → Prop} (kd : Int32) (kn : Int32) (kr : Int32) (cn : (Nat → Int32)) (xs : (Nat → Int32)) (ys : (Nat → Int32)) (x2 : (Nat → Int32)) (y2 : (Nat → Int32)) (my : (Nat → Int32)) (tl : (Nat → Int32)) (rg : (Nat → Int32)) (re : (Nat → Int64)) (C : CX p s m av meth c cX5_run 5 (some .int) RX5 wsX5_run) (hK : va_K (dC, dI) vwCl (TY cI cJ cZ) s) (ha : apart q 15) (hN : NX s)  : ∀ (kc : Int32) (kp : Int32) (ka : Int32) (kt : Int32) (ku : Int32) (po : (Nat → Int32)) (so : (Nat → Int32)) (st : (Nat → Int32)) (nr : (Nat → Int64)) (co : (Nat → Int32)) (v1 : Int32) (v2 : Int32) (ls : Array Slot) (H : Heap) (locs : List Loc), bkX5_run_31 kd kn cn xs ys x2 y2 my tl K kc kp ka kt ku po so st nr co v1 v2 → lv_has ls 5 [(0, .ref (q 0)), (1, .int v1), (2, .int v2)] → va_P (dC, dI) vwCl (WM q cI cJ cZ kc kd kn kp ka kt ku kr cn xs ys x2 y2 my tl po so st nr co rg re) H → va_S (AF q 15 s.heap.size) s.heap H locs → W p l e { frames := 4, cells := 0, slots := 0, locals := 97 } s m av below meth c H locs 0 0 (MQ below (QX5_run dC dI cI cJ cZ q s.heap.size kd kn kr cn xs ys x2 y2 my tl rg re K) av s 0 0 (AF q 15 s.heap.size)) (F0 m 31 ls [.ref (q 0)]) := by
  obtain ⟨hx, hb, hr, hml, hown, hts, hlk⟩ := id C
  intro kc kp ka kt ku po so st nr co v1 v2 ls H locs h hl hP hS
  unfold bkX5_run_31 at h
  refine lv_iconst (v := 1) hx hb dX5_run_31 (by decide) ?_
  exact mX5_run_32 kd kn kr cn xs ys x2 y2 my tl rg re C hK ha hN  kc kp ka kt ku po so st nr co v1 v2 1 ls H locs h (lv_sub hl [0, 1, 2] rfl) hP hS
def wX5_run (kd : Int32) (kn : Int32) (cn : (Nat → Int32)) (xs : (Nat → Int32)) (ys : (Nat → Int32)) (x2 : (Nat → Int32)) (y2 : (Nat → Int32)) (my : (Nat → Int32)) (tl : (Nat → Int32)) (kc : Int32) (kp : Int32) (ka : Int32) (kt : Int32) (ku : Int32) (po : (Nat → Int32)) (so : (Nat → Int32)) (st : (Nat → Int32)) (nr : (Nat → Int64)) (co : (Nat → Int32)) (v1 : Int32) (v2 : Int32) (K : Int32 → (Int32 × Int32 × Int32 × Int32 × Int32 × (Nat → Int32) × (Nat → Int32) × (Nat → Int32) × (Nat → Int64) × (Nat → Int32)) → Prop) : Prop := (wX5_isIn v1.toInt64 2 4 (fun r17 : Int32 => ((r17 = 0 → bkX5_run_31 kd kn cn xs ys x2 y2 my tl K kc kp ka kt ku po so st nr co v1 v2) ∧ (¬ (r17 = 0) → (wX5_isIn v2.toInt64 0 20000 (fun r20 : Int32 => ((r20 = 0 → bkX5_run_31 kd kn cn xs ys x2 y2 my tl K kc kp ka kt ku po so st nr co v1 v2) ∧ (¬ (r20 = 0) → bkX5_run_32 kd kn cn xs ys x2 y2 my tl K kc kp ka kt ku po so st nr co v1 v2 0))))))))
set_option maxHeartbeats 4000000 in
set_option maxRecDepth 100000 in
theorem ktX5_run (l : Launch) (dC : Nat → ClassId) (dI : Nat → Nat → Nat) (q : Nat → Nat) (cI cJ cZ : ClassId) (sz : Nat) (kc : Int32) (kd : Int32) (kn : Int32) (kp : Int32) (ka : Int32) (kt : Int32) (ku : Int32) (kr : Int32) (cn : (Nat → Int32)) (xs : (Nat → Int32)) (ys : (Nat → Int32)) (x2 : (Nat → Int32)) (y2 : (Nat → Int32)) (my : (Nat → Int32)) (tl : (Nat → Int32)) (po : (Nat → Int32)) (so : (Nat → Int32)) (st : (Nat → Int32)) (nr : (Nat → Int64)) (co : (Nat → Int32)) (rg : (Nat → Int32)) (re : (Nat → Int64)) (v1 : Int32) (v2 : Int32) {K : Int32 → (Int32 × Int32 × Int32 × Int32 × Int32 × (Nat → Int32) × (Nat → Int32) × (Nat → Int32) × (Nat → Int64) × (Nat → Int32)) → Prop} (h : wX5_run kd kn cn xs ys x2 y2 my tl kc kp ka kt ku po so st nr co v1 v2 K) : Met l yX5_run wsX5_run { frames := 4, cells := 0, slots := 0, locals := 97 } (va_Pc [.ref (q 0), .int v1, .int v2] (wd dC dI cI cJ cZ q 15 sz (WM q cI cJ cZ kc kd kn kp ka kt ku kr cn xs ys x2 y2 my tl po so st nr co rg re))) (QX5_run dC dI cI cJ cZ q sz kd kn kr cn xs ys x2 y2 my tl rg re K) 0 0 (AF q 15 sz) := by
  refine met_of [.ref (q 0), .int v1, .int v2] (by decide +kernel) rfl (Nat.le_of_ble_eq_true rfl) ?_
  intro p e s m below meth c ls hsz C hK ha hN hl hP
  subst hsz
  obtain ⟨hx, hb, hr, hml, hown, hts, hlk⟩ := id C
  have hl : lv_has ls 5 [(0, .ref (q 0)), (1, .int v1), (2, .int v2)] := hl
  refine w_go (Pw := fun H => va_P (dC, dI) vwCl (WM q cI cJ cZ kc kd kn kp ka kt ku kr cn xs ys x2 y2 my tl po so st nr co rg re) H) (A := AF q 15 s.heap.size) (fun H locs hP hS => ?_) hP
  unfold wX5_run at h
  refine lv_aload_n hx hb dX5_run_0 rfl (lv_at hl 0 rfl) ?_
  refine lv_iload_n hx hb dX5_run_1 rfl (lv_at hl 1 rfl) ?_
  refine lv_i2l hx hb dX5_run_2 rfl ?_
  refine lv_ldc2 (v := 2) hx hb hown (hts _ cwX5_run_129) dX5_run_3 ?_
  refine lv_ldc2 (v := 4) hx hb hown (hts _ cwX5_run_131) dX5_run_6 ?_
  refine cl_pi (va_runS (As := [.long v1.toInt64, .long 2, .long 4]) (rest := [.ref (q 0)]) ⟨hx, hb, hml, hown, hts⟩ (ktX5_isIn l H.size v1.toInt64 2 4 h) (va_cwS 3 hts gX5_run_X5_isIn rfl rfl rfl (by decide +kernel) ⟨Nat.le_of_ble_eq_true rfl, Nat.le_of_ble_eq_true rfl⟩) ⟨pz.blind, fun U hU _ => ⟨rfl, pz.at hU⟩⟩ rfl rfl hl.1 rfl (lv_room (Nat.le_of_ble_eq_true rfl)) dX5_run_9 ⟨Nat.le_of_ble_eq_true rfl, Nat.le_of_ble_eq_true rfl⟩) hP hS (fun r17 _ H locs h hP hS => ?_)
  refine lv_if_eq (tgt := 31) hx hb dX5_run_12 (by decide) (fun c19 => ?_) (fun c19 => ?_)
  · have h := h.1 c19
    exact mX5_run_31 kd kn kr cn xs ys x2 y2 my tl rg re C hK ha hN  kc kp ka kt ku po so st nr co v1 v2 ls H locs h (lv_sub hl [0, 1, 2] rfl) hP hS
  · have h := h.2 c19
    refine lv_iload_n hx hb dX5_run_15 rfl (lv_at hl 2 rfl) ?_
    refine lv_i2l hx hb dX5_run_16 rfl ?_
    refine lv_lconst (v := 0) hx hb dX5_run_17 (by decide) ?_
    refine lv_ldc2 (v := 20000) hx hb hown (hts _ cwX5_run_133) dX5_run_18 ?_
    refine cl_pi (va_runS (As := [.long v2.toInt64, .long 0, .long 20000]) (rest := [.ref (q 0)]) ⟨hx, hb, hml, hown, hts⟩ (ktX5_isIn l H.size v2.toInt64 0 20000 h) (va_cwS 3 hts gX5_run_X5_isIn rfl rfl rfl (by decide +kernel) ⟨Nat.le_of_ble_eq_true rfl, Nat.le_of_ble_eq_true rfl⟩) ⟨pz.blind, fun U hU _ => ⟨rfl, pz.at hU⟩⟩ rfl rfl hl.1 rfl (lv_room (Nat.le_of_ble_eq_true rfl)) dX5_run_21 ⟨Nat.le_of_ble_eq_true rfl, Nat.le_of_ble_eq_true rfl⟩) hP hS (fun r20 _ H locs h hP hS => ?_)
    refine lv_if_eq (tgt := 31) hx hb dX5_run_24 (by decide) (fun c22 => ?_) (fun c22 => ?_)
    · have h := h.1 c22
      exact mX5_run_31 kd kn kr cn xs ys x2 y2 my tl rg re C hK ha hN  kc kp ka kt ku po so st nr co v1 v2 ls H locs h (lv_sub hl [0, 1, 2] rfl) hP hS
    · have h := h.2 c22
      refine lv_iconst (v := 0) hx hb dX5_run_27 (by decide) ?_
      refine lv_goto (tgt := 32) hx hb dX5_run_28 (by decide) ?_
      exact mX5_run_32 kd kn kr cn xs ys x2 y2 my tl rg re C hK ha hN  kc kp ka kt ku po so st nr co v1 v2 0 ls H locs h (lv_sub hl [0, 1, 2] rfl) hP hS

theorem fwX5_colour_61 : Cond.fieldLink RX5 61 "MaskPartsModel" "code" "I" ∈ wsX5_colour := by decide +kernel
set_option maxRecDepth 20000 in
theorem iwX5_colour_X5 : ∀ w ∈ wsX50, w ∈ wsX5_colour := by decide +kernel
theorem fwX5_colour_49 : Cond.fieldLink RX5 49 "MaskPartsModel" "answer" "I" ∈ wsX5_colour := by decide +kernel
theorem fwX5_colour_52 : Cond.fieldLink RX5 52 "MaskPartsModel" "colours" "[I" ∈ wsX5_colour := by decide +kernel
theorem fwX5_colour_36 : Cond.fieldLink RX5 36 "MaskPartsModel" "partOf" "[I" ∈ wsX5_colour := by decide +kernel
abbrev QX5_colour (dC : Nat → ClassId) (dI : Nat → Nat → Nat) (cI cJ cZ : ClassId) (q : Nat → Nat) (sz : Nat) (kd : Int32) (kn : Int32) (ka : Int32) (kt : Int32) (ku : Int32) (kr : Int32) (cn : (Nat → Int32)) (xs : (Nat → Int32)) (ys : (Nat → Int32)) (x2 : (Nat → Int32)) (y2 : (Nat → Int32)) (my : (Nat → Int32)) (tl : (Nat → Int32)) (co : (Nat → Int32)) (rg : (Nat → Int32)) (re : (Nat → Int64)) (K : Int32 → (Int32 × Int32 × (Nat → Int32) × (Nat → Int32) × (Nat → Int32) × (Nat → Int64)) → Prop) : Array Value → State → Outcome → State → Prop := va_Qi (fun (r : Int32) (u : Int32 × Int32 × (Nat → Int32) × (Nat → Int32) × (Nat → Int32) × (Nat → Int64)) => K r u) (fun (u : Int32 × Int32 × (Nat → Int32) × (Nat → Int32) × (Nat → Int32) × (Nat → Int64)) t => va_P (dC, dI) vwCl (WM q cI cJ cZ u.1 kd kn u.2.1 ka kt ku kr cn xs ys x2 y2 my tl u.2.2.1 u.2.2.2.1 u.2.2.2.2.1 u.2.2.2.2.2 co rg re) t.heap) (AF q 15 sz)
def bkX5_colour_15 (kd : Int32) (kn : Int32) (ka : Int32) (cn : (Nat → Int32)) (xs : (Nat → Int32)) (ys : (Nat → Int32)) (x2 : (Nat → Int32)) (y2 : (Nat → Int32)) (my : (Nat → Int32)) (co : (Nat → Int32)) (K : Int32 → (Int32 × Int32 × (Nat → Int32) × (Nat → Int32) × (Nat → Int32) × (Nat → Int64)) → Prop) (kc : Int32) (kp : Int32) (po : (Nat → Int32)) (so : (Nat → Int32)) (st : (Nat → Int32)) (nr : (Nat → Int64)) (v1 : Int32) (v2 : Int32) (s1 : Int32) : Prop := ((s1 ≤ 0 → (wX5_findParts kd kn cn xs ys x2 y2 my kp po so st nr  (fun (u3 : Int32 × (Nat → Int32) × (Nat → Int32) × (Nat → Int32) × (Nat → Int64)) => ((¬ ka = 0 → K (-1) (s1, u3.1, u3.2.1, u3.2.2.1, u3.2.2.2.1, u3.2.2.2.2)) ∧ (ka = 0 → (vp_in (((4 * v1) + v2)) 40 ∧ (vp_in ((u3.2.1 (((4 * v1) + v2) : Int32).toNatClampNeg)) 40 ∧ K ((co ((u3.2.1 (((4 * v1) + v2) : Int32).toNatClampNeg) : Int32).toNatClampNeg)) (s1, u3.1, u3.2.1, u3.2.2.1, u3.2.2.2.1, u3.2.2.2.2)))))))) ∧ (¬ (s1 ≤ 0) → K 0 (s1, kp, po, so, st, nr)))
set_option maxHeartbeats 4000000 in
set_option maxRecDepth 100000 in
theorem mX5_colour_15 {p : Program} {l : Launch} {e : Env} {s : State} {m : MethodId} {av : Array Value} {below : List Frame} {meth : Method} {c : Code} {dC : Nat → ClassId} {dI : Nat → Nat → Nat} {cI cJ cZ : ClassId} {q : Nat → Nat} {K : Int32 → (Int32 × Int32 × (Nat → Int32) × (Nat → Int32) × (Nat → Int32) × (Nat → Int64)) → Prop} (kd : Int32) (kn : Int32) (ka : Int32) (kt : Int32) (ku : Int32) (kr : Int32) (cn : (Nat → Int32)) (xs : (Nat → Int32)) (ys : (Nat → Int32)) (x2 : (Nat → Int32)) (y2 : (Nat → Int32)) (my : (Nat → Int32)) (tl : (Nat → Int32)) (co : (Nat → Int32)) (rg : (Nat → Int32)) (re : (Nat → Int64)) (C : CX p s m av meth c cX5_colour 3 (some .int) RX5 wsX5_colour) (hK : va_K (dC, dI) vwCl (TY cI cJ cZ) s) (ha : apart q 15) (hN : NX s)  : ∀ (kc : Int32) (kp : Int32) (po : (Nat → Int32)) (so : (Nat → Int32)) (st : (Nat → Int32)) (nr : (Nat → Int64)) (v1 : Int32) (v2 : Int32) (s1 : Int32) (ls : Array Slot) (H : Heap) (locs : List Loc), bkX5_colour_15 kd kn ka cn xs ys x2 y2 my co K kc kp po so st nr v1 v2 s1 → lv_has ls 3 [(0, .ref (q 0)), (1, .int v1), (2, .int v2)] → va_P (dC, dI) vwCl (WM q cI cJ cZ kc kd kn kp ka kt ku kr cn xs ys x2 y2 my tl po so st nr co rg re) H → va_S (AF q 15 s.heap.size) s.heap H locs → W p l e { frames := 4, cells := 0, slots := 0, locals := 97 } s m av below meth c H locs 0 0 (MQ below (QX5_colour dC dI cI cJ cZ q s.heap.size kd kn ka kt ku kr cn xs ys x2 y2 my tl co rg re K) av s 0 0 (AF q 15 s.heap.size)) (F0 m 15 ls [.int s1, .ref (q 0)]) := by
  obtain ⟨hx, hb, hr, hml, hown, hts, hlk⟩ := id C
  intro kc kp po so st nr v1 v2 s1 ls H locs h hl hP hS
  unfold bkX5_colour_15 at h
  refine va_put (D := (dC, dI)) (ci := 5) (v := .int s1) (ty := .int) (C := RX5) (T := TX5) (N := 22) hx hb hts iwX5_colour_X5 tyX5 tyX5_ok nmX5 hown hK hP (d_WM ha) hS 0 rfl rfl 0 (by decide) (hts _ fwX5_colour_61) (fun _ h9 => h9) rfl (by decide +kernel) rfl rfl (Nat.le_of_ble_eq_true rfl) dX5_colour_15 (fun H locs hP _ hS => ?_)
  have hP : va_P (dC, dI) vwCl (WM q cI cJ cZ s1 kd kn kp ka kt ku kr cn xs ys x2 y2 my tl po so st nr co rg re) H := hP
  refine lv_aload_n hx hb dX5_colour_18 rfl (lv_at hl 0 rfl) ?_
  refine va_get (D := (dC, dI)) (ci := 5) (v := .int s1) (C := RX5) (T := TX5) (N := 22) hx hb hts iwX5_colour_X5 hown hK hP 0 rfl rfl 0 (by decide) (hts _ fwX5_colour_61) (fun _ h9 => h9) rfl dX5_colour_19 ?_
  refine lv_if_le (tgt := 27) hx hb dX5_colour_22 (by decide) (fun c1 => ?_) (fun c1 => ?_)
  · have h := h.1 c1
    refine lv_aload_n hx hb dX5_colour_27 rfl (lv_at hl 0 rfl) ?_
    refine cl_v (va_runV (As := []) (rest := []) ⟨hx, hb, hml, hown, hts⟩ (ktX5_findParts l dC dI q cI cJ cZ H.size s1 kd kn kp ka kt ku kr cn xs ys x2 y2 my tl po so st nr co rg re  h) (cwV 0 hts gX5_colour_X5_findParts rfl rfl rfl (by decide +kernel) ⟨Nat.le_of_ble_eq_true rfl, Nat.le_of_ble_eq_true rfl⟩) ⟨wd.blind, va_recv hK hP (ci := 5) (q0 := 0) rfl rfl, fun U hU hW => ⟨rfl, wd.at hP hK ha hN hU hW⟩⟩ rfl rfl hl.1 rfl (lv_room (Nat.le_of_ble_eq_true rfl)) dX5_colour_28 ⟨Nat.le_of_ble_eq_true rfl, Nat.le_of_ble_eq_true rfl⟩) hS (fun u3 H locs h hP hS => ?_)
    have hP : va_P (dC, dI) vwCl (WM q cI cJ cZ s1 kd kn u3.1 ka kt ku kr cn xs ys x2 y2 my tl u3.2.1 u3.2.2.1 u3.2.2.2.1 u3.2.2.2.2 co rg re) H := hP
    refine lv_aload_n hx hb dX5_colour_31 rfl (lv_at hl 0 rfl) ?_
    refine va_get (D := (dC, dI)) (ci := 5) (v := .int ka) (C := RX5) (T := TX5) (N := 22) hx hb hts iwX5_colour_X5 hown hK hP 0 rfl rfl 15 (by decide) (hts _ fwX5_colour_49) (fun _ h9 => h9) rfl dX5_colour_32 ?_
    refine lv_if_ne (tgt := 56) hx hb dX5_colour_35 (by decide) (fun c4 => ?_) (fun c4 => ?_)
    · have h := h.1 c4
      refine lv_iconst (v := (-1)) hx hb dX5_colour_56 (by decide) ?_
      exact rt_i (s1, u3.1, u3.2.1, u3.2.2.1, u3.2.2.2.1, u3.2.2.2.2) hx hb hr hlk h (fun t ht => by rw [ht]; exact hP) hS dX5_colour_57
    · have h := h.2 c4
      refine lv_aload_n hx hb dX5_colour_38 rfl (lv_at hl 0 rfl) ?_
      refine va_get (D := (dC, dI)) (ci := 5) (v := .ref (q 12)) (C := RX5) (T := TX5) (N := 22) hx hb hts iwX5_colour_X5 hown hK hP 0 rfl rfl 18 (by decide) (hts _ fwX5_colour_52) (fun _ h9 => h9) rfl dX5_colour_39 ?_
      refine lv_aload_n hx hb dX5_colour_42 rfl (lv_at hl 0 rfl) ?_
      refine va_get (D := (dC, dI)) (ci := 5) (v := .ref (q 8)) (C := RX5) (T := TX5) (N := 22) hx hb hts iwX5_colour_X5 hown hK hP 0 rfl rfl 11 (by decide) (hts _ fwX5_colour_36) (fun _ h9 => h9) rfl dX5_colour_43 ?_
      refine lv_iconst (v := 4) hx hb dX5_colour_46 (by decide) ?_
      refine lv_iload_n hx hb dX5_colour_47 rfl (lv_at hl 1 rfl) ?_
      refine lv_imul hx hb dX5_colour_48 ?_
      refine lv_iload_n hx hb dX5_colour_49 rfl (lv_at hl 2 rfl) ?_
      refine lv_iadd hx hb dX5_colour_50 ?_
      obtain ⟨b5, h⟩ := h
      refine va_iald (D := (dC, dI)) hx hb hK hP 8 0 rfl rfl b5 dX5_colour_51 ?_
      obtain ⟨b6, h⟩ := h
      refine va_iald (D := (dC, dI)) hx hb hK hP 12 0 rfl rfl b6 dX5_colour_52 ?_
      refine lv_goto (tgt := 57) hx hb dX5_colour_53 (by decide) ?_
      exact rt_i (s1, u3.1, u3.2.1, u3.2.2.1, u3.2.2.2.1, u3.2.2.2.2) hx hb hr hlk h (fun t ht => by rw [ht]; exact hP) hS dX5_colour_57
  · have h := h.2 c1
    refine lv_iconst (v := 0) hx hb dX5_colour_25 (by decide) ?_
    exact rt_i (s1, kp, po, so, st, nr) hx hb hr hlk h (fun t ht => by rw [ht]; exact hP) hS dX5_colour_26
def wX5_colour (kd : Int32) (kn : Int32) (ka : Int32) (cn : (Nat → Int32)) (xs : (Nat → Int32)) (ys : (Nat → Int32)) (x2 : (Nat → Int32)) (y2 : (Nat → Int32)) (my : (Nat → Int32)) (co : (Nat → Int32)) (kc : Int32) (kp : Int32) (po : (Nat → Int32)) (so : (Nat → Int32)) (st : (Nat → Int32)) (nr : (Nat → Int64)) (v1 : Int32) (v2 : Int32) (K : Int32 → (Int32 × Int32 × (Nat → Int32) × (Nat → Int32) × (Nat → Int32) × (Nat → Int64)) → Prop) : Prop := (wX5_isBox kn cn v1 v2 (fun (r7 : Int32) => ((r7 = 0 → bkX5_colour_15 kd kn ka cn xs ys x2 y2 my co K kc kp po so st nr v1 v2 1) ∧ (¬ (r7 = 0) → bkX5_colour_15 kd kn ka cn xs ys x2 y2 my co K kc kp po so st nr v1 v2 0))))
set_option maxHeartbeats 4000000 in
set_option maxRecDepth 100000 in
theorem ktX5_colour (l : Launch) (dC : Nat → ClassId) (dI : Nat → Nat → Nat) (q : Nat → Nat) (cI cJ cZ : ClassId) (sz : Nat) (kc : Int32) (kd : Int32) (kn : Int32) (kp : Int32) (ka : Int32) (kt : Int32) (ku : Int32) (kr : Int32) (cn : (Nat → Int32)) (xs : (Nat → Int32)) (ys : (Nat → Int32)) (x2 : (Nat → Int32)) (y2 : (Nat → Int32)) (my : (Nat → Int32)) (tl : (Nat → Int32)) (po : (Nat → Int32)) (so : (Nat → Int32)) (st : (Nat → Int32)) (nr : (Nat → Int64)) (co : (Nat → Int32)) (rg : (Nat → Int32)) (re : (Nat → Int64)) (v1 : Int32) (v2 : Int32) {K : Int32 → (Int32 × Int32 × (Nat → Int32) × (Nat → Int32) × (Nat → Int32) × (Nat → Int64)) → Prop} (h : wX5_colour kd kn ka cn xs ys x2 y2 my co kc kp po so st nr v1 v2 K) : Met l yX5_colour wsX5_colour { frames := 4, cells := 0, slots := 0, locals := 97 } (va_Pc [.ref (q 0), .int v1, .int v2] (wd dC dI cI cJ cZ q 15 sz (WM q cI cJ cZ kc kd kn kp ka kt ku kr cn xs ys x2 y2 my tl po so st nr co rg re))) (QX5_colour dC dI cI cJ cZ q sz kd kn ka kt ku kr cn xs ys x2 y2 my tl co rg re K) 0 0 (AF q 15 sz) := by
  refine met_of [.ref (q 0), .int v1, .int v2] (by decide +kernel) rfl (Nat.le_of_ble_eq_true rfl) ?_
  intro p e s m below meth c ls hsz C hK ha hN hl hP
  subst hsz
  obtain ⟨hx, hb, hr, hml, hown, hts, hlk⟩ := id C
  have hl : lv_has ls 3 [(0, .ref (q 0)), (1, .int v1), (2, .int v2)] := hl
  refine w_go (Pw := fun H => va_P (dC, dI) vwCl (WM q cI cJ cZ kc kd kn kp ka kt ku kr cn xs ys x2 y2 my tl po so st nr co rg re) H) (A := AF q 15 s.heap.size) (fun H locs hP hS => ?_) hP
  unfold wX5_colour at h
  refine lv_aload_n hx hb dX5_colour_0 rfl (lv_at hl 0 rfl) ?_
  refine lv_aload_n hx hb dX5_colour_1 rfl (lv_at hl 0 rfl) ?_
  refine lv_iload_n hx hb dX5_colour_2 rfl (lv_at hl 1 rfl) ?_
  refine lv_iload_n hx hb dX5_colour_3 rfl (lv_at hl 2 rfl) ?_
  refine cl_i (va_runV (As := [.int v1, .int v2]) (rest := [.ref (q 0)]) ⟨hx, hb, hml, hown, hts⟩ (ktX5_isBox l dC dI q cI cJ cZ H.size kc kd kn kp ka kt ku kr cn xs ys x2 y2 my tl po so st nr co rg re v1 v2 h) (cwV 2 hts gX5_colour_X5_isBox rfl rfl rfl (by decide +kernel) ⟨Nat.le_of_ble_eq_true rfl, Nat.le_of_ble_eq_true rfl⟩) ⟨wd.blind, va_recv hK hP (ci := 5) (q0 := 0) rfl rfl, fun U hU hW => ⟨rfl, wd.at hP hK ha hN hU hW⟩⟩ rfl rfl hl.1 rfl (lv_room (Nat.le_of_ble_eq_true rfl)) dX5_colour_4 ⟨Nat.le_of_ble_eq_true rfl, Nat.le_of_ble_eq_true rfl⟩) hS (fun r7 _ H locs h hP hS => ?_)
  have hP : va_P (dC, dI) vwCl (WM q cI cJ cZ kc kd kn kp ka kt ku kr cn xs ys x2 y2 my tl po so st nr co rg re) H := hP
  refine lv_if_eq (tgt := 14) hx hb dX5_colour_7 (by decide) (fun c9 => ?_) (fun c9 => ?_)
  · have h := h.1 c9
    refine lv_iconst (v := 1) hx hb dX5_colour_14 (by decide) ?_
    exact mX5_colour_15 kd kn ka kt ku kr cn xs ys x2 y2 my tl co rg re C hK ha hN  kc kp po so st nr v1 v2 1 ls H locs h (lv_sub hl [0, 1, 2] rfl) hP hS
  · have h := h.2 c9
    refine lv_iconst (v := 0) hx hb dX5_colour_10 (by decide) ?_
    refine lv_goto (tgt := 15) hx hb dX5_colour_11 (by decide) ?_
    exact mX5_colour_15 kd kn ka kt ku kr cn xs ys x2 y2 my tl co rg re C hK ha hN  kc kp po so st nr v1 v2 0 ls H locs h (lv_sub hl [0, 1, 2] rfl) hP hS

theorem fwX5_used_61 : Cond.fieldLink RX5 61 "MaskPartsModel" "code" "I" ∈ wsX5_used := by decide +kernel
set_option maxRecDepth 20000 in
theorem iwX5_used_X5 : ∀ w ∈ wsX50, w ∈ wsX5_used := by decide +kernel
theorem fwX5_used_49 : Cond.fieldLink RX5 49 "MaskPartsModel" "answer" "I" ∈ wsX5_used := by decide +kernel
theorem fwX5_used_142 : Cond.fieldLink RX5 142 "MaskPartsModel" "usedStitches" "I" ∈ wsX5_used := by decide +kernel
abbrev QX5_used (dC : Nat → ClassId) (dI : Nat → Nat → Nat) (cI cJ cZ : ClassId) (q : Nat → Nat) (sz : Nat) (kd : Int32) (kn : Int32) (kp : Int32) (ka : Int32) (kt : Int32) (ku : Int32) (kr : Int32) (cn : (Nat → Int32)) (xs : (Nat → Int32)) (ys : (Nat → Int32)) (x2 : (Nat → Int32)) (y2 : (Nat → Int32)) (my : (Nat → Int32)) (tl : (Nat → Int32)) (po : (Nat → Int32)) (so : (Nat → Int32)) (st : (Nat → Int32)) (nr : (Nat → Int64)) (co : (Nat → Int32)) (rg : (Nat → Int32)) (re : (Nat → Int64)) (K : Int32 → Int32 → Prop) : Array Value → State → Outcome → State → Prop := va_Qi (fun (r : Int32) (u : Int32) => K r u) (fun (u : Int32) t => va_P (dC, dI) vwCl (WM q cI cJ cZ u kd kn kp ka kt ku kr cn xs ys x2 y2 my tl po so st nr co rg re) t.heap) (AF q 15 sz)
def wX5_used (ka : Int32) (ku : Int32) (kc : Int32)  (K : Int32 → Int32 → Prop) : Prop := ((¬ ka = 0 → K (-1) 0) ∧ (ka = 0 → K ku 0))
set_option maxHeartbeats 4000000 in
set_option maxRecDepth 100000 in
theorem ktX5_used (l : Launch) (dC : Nat → ClassId) (dI : Nat → Nat → Nat) (q : Nat → Nat) (cI cJ cZ : ClassId) (sz : Nat) (kc : Int32) (kd : Int32) (kn : Int32) (kp : Int32) (ka : Int32) (kt : Int32) (ku : Int32) (kr : Int32) (cn : (Nat → Int32)) (xs : (Nat → Int32)) (ys : (Nat → Int32)) (x2 : (Nat → Int32)) (y2 : (Nat → Int32)) (my : (Nat → Int32)) (tl : (Nat → Int32)) (po : (Nat → Int32)) (so : (Nat → Int32)) (st : (Nat → Int32)) (nr : (Nat → Int64)) (co : (Nat → Int32)) (rg : (Nat → Int32)) (re : (Nat → Int64))  {K : Int32 → Int32 → Prop} (h : wX5_used ka ku kc K) : Met l yX5_used wsX5_used { frames := 0, cells := 0, slots := 0, locals := 0 } (va_Pc [.ref (q 0)] (wd dC dI cI cJ cZ q 15 sz (WM q cI cJ cZ kc kd kn kp ka kt ku kr cn xs ys x2 y2 my tl po so st nr co rg re))) (QX5_used dC dI cI cJ cZ q sz kd kn kp ka kt ku kr cn xs ys x2 y2 my tl po so st nr co rg re K) 0 0 (AF q 15 sz) := by
  refine met_of [.ref (q 0)] (by decide +kernel) rfl (Nat.le_of_ble_eq_true rfl) ?_
  intro p e s m below meth c ls hsz C hK ha hN hl hP
  subst hsz
  obtain ⟨hx, hb, hr, hml, hown, hts, hlk⟩ := id C
  have hl : lv_has ls 1 [(0, .ref (q 0))] := hl
  refine w_go (Pw := fun H => va_P (dC, dI) vwCl (WM q cI cJ cZ kc kd kn kp ka kt ku kr cn xs ys x2 y2 my tl po so st nr co rg re) H) (A := AF q 15 s.heap.size) (fun H locs hP hS => ?_) hP
  unfold wX5_used at h
  refine lv_aload_n hx hb dX5_used_0 rfl (lv_at hl 0 rfl) ?_
  refine lv_iconst (v := 0) hx hb dX5_used_1 (by decide) ?_
  refine va_put (D := (dC, dI)) (ci := 5) (v := .int 0) (ty := .int) (C := RX5) (T := TX5) (N := 22) hx hb hts iwX5_used_X5 tyX5 tyX5_ok nmX5 hown hK hP (d_WM ha) hS 0 rfl rfl 0 (by decide) (hts _ fwX5_used_61) (fun _ h9 => h9) rfl (by decide +kernel) rfl rfl (Nat.le_of_ble_eq_true rfl) dX5_used_2 (fun H locs hP _ hS => ?_)
  have hP : va_P (dC, dI) vwCl (WM q cI cJ cZ 0 kd kn kp ka kt ku kr cn xs ys x2 y2 my tl po so st nr co rg re) H := hP
  refine lv_aload_n hx hb dX5_used_5 rfl (lv_at hl 0 rfl) ?_
  refine va_get (D := (dC, dI)) (ci := 5) (v := .int ka) (C := RX5) (T := TX5) (N := 22) hx hb hts iwX5_used_X5 hown hK hP 0 rfl rfl 15 (by decide) (hts _ fwX5_used_49) (fun _ h9 => h9) rfl dX5_used_6 ?_
  refine lv_if_ne (tgt := 19) hx hb dX5_used_9 (by decide) (fun c1 => ?_) (fun c1 => ?_)
  · have h := h.1 c1
    refine lv_iconst (v := (-1)) hx hb dX5_used_19 (by decide) ?_
    exact rt_i 0 hx hb hr hlk h (fun t ht => by rw [ht]; exact hP) hS dX5_used_20
  · have h := h.2 c1
    refine lv_aload_n hx hb dX5_used_12 rfl (lv_at hl 0 rfl) ?_
    refine va_get (D := (dC, dI)) (ci := 5) (v := .int ku) (C := RX5) (T := TX5) (N := 22) hx hb hts iwX5_used_X5 hown hK hP 0 rfl rfl 17 (by decide) (hts _ fwX5_used_142) (fun _ h9 => h9) rfl dX5_used_13 ?_
    refine lv_goto (tgt := 20) hx hb dX5_used_16 (by decide) ?_
    exact rt_i 0 hx hb hr hlk h (fun t ht => by rw [ht]; exact hP) hS dX5_used_20

theorem fwX5_steps_61 : Cond.fieldLink RX5 61 "MaskPartsModel" "code" "I" ∈ wsX5_steps := by decide +kernel
set_option maxRecDepth 20000 in
theorem iwX5_steps_X5 : ∀ w ∈ wsX50, w ∈ wsX5_steps := by decide +kernel
theorem fwX5_steps_75 : Cond.fieldLink RX5 75 "MaskPartsModel" "steps" "I" ∈ wsX5_steps := by decide +kernel
abbrev QX5_steps (dC : Nat → ClassId) (dI : Nat → Nat → Nat) (cI cJ cZ : ClassId) (q : Nat → Nat) (sz : Nat) (kd : Int32) (kn : Int32) (kp : Int32) (ka : Int32) (kt : Int32) (ku : Int32) (kr : Int32) (cn : (Nat → Int32)) (xs : (Nat → Int32)) (ys : (Nat → Int32)) (x2 : (Nat → Int32)) (y2 : (Nat → Int32)) (my : (Nat → Int32)) (tl : (Nat → Int32)) (po : (Nat → Int32)) (so : (Nat → Int32)) (st : (Nat → Int32)) (nr : (Nat → Int64)) (co : (Nat → Int32)) (rg : (Nat → Int32)) (re : (Nat → Int64)) (K : Int32 → Int32 → Prop) : Array Value → State → Outcome → State → Prop := va_Qi (fun (r : Int32) (u : Int32) => K r u) (fun (u : Int32) t => va_P (dC, dI) vwCl (WM q cI cJ cZ u kd kn kp ka kt ku kr cn xs ys x2 y2 my tl po so st nr co rg re) t.heap) (AF q 15 sz)
def wX5_steps (kt : Int32) (kc : Int32)  (K : Int32 → Int32 → Prop) : Prop := K kt 0
set_option maxHeartbeats 4000000 in
set_option maxRecDepth 100000 in
theorem ktX5_steps (l : Launch) (dC : Nat → ClassId) (dI : Nat → Nat → Nat) (q : Nat → Nat) (cI cJ cZ : ClassId) (sz : Nat) (kc : Int32) (kd : Int32) (kn : Int32) (kp : Int32) (ka : Int32) (kt : Int32) (ku : Int32) (kr : Int32) (cn : (Nat → Int32)) (xs : (Nat → Int32)) (ys : (Nat → Int32)) (x2 : (Nat → Int32)) (y2 : (Nat → Int32)) (my : (Nat → Int32)) (tl : (Nat → Int32)) (po : (Nat → Int32)) (so : (Nat → Int32)) (st : (Nat → Int32)) (nr : (Nat → Int64)) (co : (Nat → Int32)) (rg : (Nat → Int32)) (re : (Nat → Int64))  {K : Int32 → Int32 → Prop} (h : wX5_steps kt kc K) : Met l yX5_steps wsX5_steps { frames := 0, cells := 0, slots := 0, locals := 0 } (va_Pc [.ref (q 0)] (wd dC dI cI cJ cZ q 15 sz (WM q cI cJ cZ kc kd kn kp ka kt ku kr cn xs ys x2 y2 my tl po so st nr co rg re))) (QX5_steps dC dI cI cJ cZ q sz kd kn kp ka kt ku kr cn xs ys x2 y2 my tl po so st nr co rg re K) 0 0 (AF q 15 sz) := by
  refine met_of [.ref (q 0)] (by decide +kernel) rfl (Nat.le_of_ble_eq_true rfl) ?_
  intro p e s m below meth c ls hsz C hK ha hN hl hP
  subst hsz
  obtain ⟨hx, hb, hr, hml, hown, hts, hlk⟩ := id C
  have hl : lv_has ls 1 [(0, .ref (q 0))] := hl
  refine w_go (Pw := fun H => va_P (dC, dI) vwCl (WM q cI cJ cZ kc kd kn kp ka kt ku kr cn xs ys x2 y2 my tl po so st nr co rg re) H) (A := AF q 15 s.heap.size) (fun H locs hP hS => ?_) hP
  unfold wX5_steps at h
  refine lv_aload_n hx hb dX5_steps_0 rfl (lv_at hl 0 rfl) ?_
  refine lv_iconst (v := 0) hx hb dX5_steps_1 (by decide) ?_
  refine va_put (D := (dC, dI)) (ci := 5) (v := .int 0) (ty := .int) (C := RX5) (T := TX5) (N := 22) hx hb hts iwX5_steps_X5 tyX5 tyX5_ok nmX5 hown hK hP (d_WM ha) hS 0 rfl rfl 0 (by decide) (hts _ fwX5_steps_61) (fun _ h9 => h9) rfl (by decide +kernel) rfl rfl (Nat.le_of_ble_eq_true rfl) dX5_steps_2 (fun H locs hP _ hS => ?_)
  have hP : va_P (dC, dI) vwCl (WM q cI cJ cZ 0 kd kn kp ka kt ku kr cn xs ys x2 y2 my tl po so st nr co rg re) H := hP
  refine lv_aload_n hx hb dX5_steps_5 rfl (lv_at hl 0 rfl) ?_
  refine va_get (D := (dC, dI)) (ci := 5) (v := .int kt) (C := RX5) (T := TX5) (N := 22) hx hb hts iwX5_steps_X5 hown hK hP 0 rfl rfl 16 (by decide) (hts _ fwX5_steps_75) (fun _ h9 => h9) rfl dX5_steps_6 ?_
  exact rt_i 0 hx hb hr hlk h (fun t ht => by rw [ht]; exact hP) hS dX5_steps_9

theorem fwX5_area_13 : Cond.fieldLink RX5 13 "MaskPartsModel" "counts" "[I" ∈ wsX5_area := by decide +kernel
set_option maxRecDepth 20000 in
theorem iwX5_area_X5 : ∀ w ∈ wsX50, w ∈ wsX5_area := by decide +kernel
theorem fwX5_area_52 : Cond.fieldLink RX5 52 "MaskPartsModel" "colours" "[I" ∈ wsX5_area := by decide +kernel
theorem fwX5_area_36 : Cond.fieldLink RX5 36 "MaskPartsModel" "partOf" "[I" ∈ wsX5_area := by decide +kernel
theorem fwX5_area_23 : Cond.fieldLink RX5 23 "MaskPartsModel" "x2s" "[I" ∈ wsX5_area := by decide +kernel
theorem fwX5_area_17 : Cond.fieldLink RX5 17 "MaskPartsModel" "xs" "[I" ∈ wsX5_area := by decide +kernel
theorem fwX5_area_26 : Cond.fieldLink RX5 26 "MaskPartsModel" "y2s" "[I" ∈ wsX5_area := by decide +kernel
theorem fwX5_area_20 : Cond.fieldLink RX5 20 "MaskPartsModel" "ys" "[I" ∈ wsX5_area := by decide +kernel
theorem fwX5_area_64 : Cond.fieldLink RX5 64 "MaskPartsModel" "shapes" "I" ∈ wsX5_area := by decide +kernel
theorem fwX5_area_61 : Cond.fieldLink RX5 61 "MaskPartsModel" "code" "I" ∈ wsX5_area := by decide +kernel
theorem fwX5_area_49 : Cond.fieldLink RX5 49 "MaskPartsModel" "answer" "I" ∈ wsX5_area := by decide +kernel
theorem cwX5_area_96 : Cond.constantLong RX5 96 (3) ∈ wsX5_area := by decide +kernel
abbrev QX5_area (dC : Nat → ClassId) (dI : Nat → Nat → Nat) (cI cJ cZ : ClassId) (q : Nat → Nat) (sz : Nat) (kd : Int32) (kn : Int32) (ka : Int32) (kt : Int32) (ku : Int32) (kr : Int32) (cn : (Nat → Int32)) (xs : (Nat → Int32)) (ys : (Nat → Int32)) (x2 : (Nat → Int32)) (y2 : (Nat → Int32)) (my : (Nat → Int32)) (tl : (Nat → Int32)) (co : (Nat → Int32)) (rg : (Nat → Int32)) (re : (Nat → Int64)) (K : Int64 → (Int32 × Int32 × (Nat → Int32) × (Nat → Int32) × (Nat → Int32) × (Nat → Int64)) → Prop) : Array Value → State → Outcome → State → Prop := va_Ql (fun (r : Int64) (u : Int32 × Int32 × (Nat → Int32) × (Nat → Int32) × (Nat → Int32) × (Nat → Int64)) => K r u) (fun (u : Int32 × Int32 × (Nat → Int32) × (Nat → Int32) × (Nat → Int32) × (Nat → Int64)) t => va_P (dC, dI) vwCl (WM q cI cJ cZ u.1 kd kn u.2.1 ka kt ku kr cn xs ys x2 y2 my tl u.2.2.1 u.2.2.2.1 u.2.2.2.2.1 u.2.2.2.2.2 co rg re) t.heap) (AF q 15 sz)
def bkX5_area_131 (kd : Int32) (kn : Int32) (ka : Int32) (cn : (Nat → Int32)) (xs : (Nat → Int32)) (ys : (Nat → Int32)) (x2 : (Nat → Int32)) (y2 : (Nat → Int32)) (my : (Nat → Int32)) (co : (Nat → Int32)) (K : Int64 → (Int32 × Int32 × (Nat → Int32) × (Nat → Int32) × (Nat → Int32) × (Nat → Int64)) → Prop) (k56 : Int32 → Int32 → (Nat → Int32) → (Nat → Int32) → (Nat → Int32) → (Nat → Int64) → Int32 → Int64 → Int32 → Int32 → Prop) (kc : Int32) (kp : Int32) (po : (Nat → Int32)) (so : (Nat → Int32)) (st : (Nat → Int32)) (nr : (Nat → Int64)) (v1 : Int32) (v4 : Int32) (v5 : Int32) (s0 : Int64) (s1 : Int64) : Prop := (∀ j1 : Int64, j1 = (s0 + s1) → (∀ i2 : Int32, i2 = v5 + 1 → k56 kc kp po so st nr v1 j1 v4 i2))
set_option maxHeartbeats 4000000 in
set_option maxRecDepth 100000 in
theorem mX5_area_131 {p : Program} {l : Launch} {e : Env} {s : State} {m : MethodId} {av : Array Value} {below : List Frame} {meth : Method} {c : Code} {dC : Nat → ClassId} {dI : Nat → Nat → Nat} {cI cJ cZ : ClassId} {q : Nat → Nat} {K : Int64 → (Int32 × Int32 × (Nat → Int32) × (Nat → Int32) × (Nat → Int32) × (Nat → Int64)) → Prop} {k56 : Int32 → Int32 → (Nat → Int32) → (Nat → Int32) → (Nat → Int32) → (Nat → Int64) → Int32 → Int64 → Int32 → Int32 → Prop} (kd : Int32) (kn : Int32) (ka : Int32) (kt : Int32) (ku : Int32) (kr : Int32) (cn : (Nat → Int32)) (xs : (Nat → Int32)) (ys : (Nat → Int32)) (x2 : (Nat → Int32)) (y2 : (Nat → Int32)) (my : (Nat → Int32)) (tl : (Nat → Int32)) (co : (Nat → Int32)) (rg : (Nat → Int32)) (re : (Nat → Int64)) (C : CX p s m av meth c cX5_area 7 (some .long) RX5 wsX5_area) (hK : va_K (dC, dI) vwCl (TY cI cJ cZ) s) (ha : apart q 15) (hN : NX s) (hk56 : ∀ (kc : Int32) (kp : Int32) (po : (Nat → Int32)) (so : (Nat → Int32)) (st : (Nat → Int32)) (nr : (Nat → Int64)) (v1 : Int32) (v2 : Int64) (v4 : Int32) (v5 : Int32) (ls : Array Slot) (H : Heap) (locs : List Loc), k56 kc kp po so st nr v1 v2 v4 v5 → lv_has ls 7 [(0, .ref (q 0)), (1, .int v1), (2, .long v2), (4, .int v4), (5, .int v5)] → va_P (dC, dI) vwCl (WM q cI cJ cZ kc kd kn kp ka kt ku kr cn xs ys x2 y2 my tl po so st nr co rg re) H → va_S (AF q 15 s.heap.size) s.heap H locs → W p l e { frames := 4, cells := 0, slots := 0, locals := 97 } s m av below meth c H locs 0 0 (MQ below (QX5_area dC dI cI cJ cZ q s.heap.size kd kn ka kt ku kr cn xs ys x2 y2 my tl co rg re K) av s 0 0 (AF q 15 s.heap.size)) (F0 m 56 ls [])) : ∀ (kc : Int32) (kp : Int32) (po : (Nat → Int32)) (so : (Nat → Int32)) (st : (Nat → Int32)) (nr : (Nat → Int64)) (v1 : Int32) (v4 : Int32) (v5 : Int32) (s0 : Int64) (s1 : Int64) (ls : Array Slot) (H : Heap) (locs : List Loc), bkX5_area_131 kd kn ka cn xs ys x2 y2 my co K k56 kc kp po so st nr v1 v4 v5 s0 s1 → lv_has ls 7 [(0, .ref (q 0)), (1, .int v1), (4, .int v4), (5, .int v5)] → va_P (dC, dI) vwCl (WM q cI cJ cZ kc kd kn kp ka kt ku kr cn xs ys x2 y2 my tl po so st nr co rg re) H → va_S (AF q 15 s.heap.size) s.heap H locs → W p l e { frames := 4, cells := 0, slots := 0, locals := 97 } s m av below meth c H locs 0 0 (MQ below (QX5_area dC dI cI cJ cZ q s.heap.size kd kn ka kt ku kr cn xs ys x2 y2 my tl co rg re K) av s 0 0 (AF q 15 s.heap.size)) (F0 m 131 ls [.long s1, .long s0]) := by
  obtain ⟨hx, hb, hr, hml, hown, hts, hlk⟩ := id C
  intro kc kp po so st nr v1 v4 v5 s0 s1 ls H locs h hl hP hS
  unfold bkX5_area_131 at h
  refine lv_ladd hx hb dX5_area_131 ?_
  refine lv_topl (fun j1 ej1 => ?_)
  have h := h j1 ej1
  refine lv_lstore_n (lv' := [(2, .long j1), (0, .ref (q 0)), (1, .int v1), (4, .int v4), (5, .int v5)]) hx hb dX5_area_132 rfl hl (by decide) rfl (fun ls hl => ?_)
  obtain ⟨i2, ei2⟩ : ∃ y : Int32, y = v5 + 1 := ⟨_, rfl⟩
  refine lv_iinc (v := i2) (lv' := [(5, .int i2), (2, .long j1), (0, .ref (q 0)), (1, .int v1), (4, .int v4)]) hx hb dX5_area_133 hl (k := 4) rfl (by rw [ei2]; rfl) (by decide) rfl (fun ls hl => ?_)
  have h := h i2 ei2
  refine lv_goto (tgt := 56) hx hb dX5_area_136 (by decide) ?_
  exact hk56 kc kp po so st nr v1 j1 v4 i2 ls H locs h (lv_sub hl [2, 3, 1, 4, 0] rfl) hP hS
def lpX5_area_56 (kd : Int32) (kn : Int32) (ka : Int32) (cn : (Nat → Int32)) (xs : (Nat → Int32)) (ys : (Nat → Int32)) (x2 : (Nat → Int32)) (y2 : (Nat → Int32)) (my : (Nat → Int32)) (co : (Nat → Int32)) (K : Int64 → (Int32 × Int32 × (Nat → Int32) × (Nat → Int32) × (Nat → Int32) × (Nat → Int64)) → Prop) (k139 : Int32 → Int32 → (Nat → Int32) → (Nat → Int32) → (Nat → Int32) → (Nat → Int64) → Int32 → Int64 → Int32 → Prop) : Nat → Int32 → Int32 → (Nat → Int32) → (Nat → Int32) → (Nat → Int32) → (Nat → Int64) → Int32 → Int64 → Int32 → Int32 → Prop
  | 0, _, _, _, _, _, _, _, _, _, _ => False
  | n + 1, kc, kp, po, so, st, nr, v1, v2, v4, v5 => (vp_in v4 10 ∧ (((cn v4.toNatClampNeg) ≤ v5 → k139 kc kp po so st nr v1 v2 v4) ∧ (¬ ((cn v4.toNatClampNeg) ≤ v5) → (∀ i5 : Int32, i5 = ((4 * v4) + v5) → (vp_in i5 40 ∧ (vp_in ((po i5.toNatClampNeg)) 40 ∧ ((¬ (co ((po i5.toNatClampNeg) : Int32).toNatClampNeg) = v1 → bkX5_area_131 kd kn ka cn xs ys x2 y2 my co K (fun kc kp po so st nr v1 v2 v4 v5 => lpX5_area_56 kd kn ka cn xs ys x2 y2 my co K k139 n kc kp po so st nr v1 v2 v4 v5) kc kp po so st nr v1 v4 v5 v2 0) ∧ ((co ((po i5.toNatClampNeg) : Int32).toNatClampNeg) = v1 → (vp_in i5 40 ∧ (vp_in i5 40 ∧ (vp_in i5 40 ∧ (vp_in i5 40 ∧ bkX5_area_131 kd kn ka cn xs ys x2 y2 my co K (fun kc kp po so st nr v1 v2 v4 v5 => lpX5_area_56 kd kn ka cn xs ys x2 y2 my co K k139 n kc kp po so st nr v1 v2 v4 v5) kc kp po so st nr v1 v4 v5 v2 (((((x2 i5.toNatClampNeg) - (xs i5.toNatClampNeg)) : Int32).toInt64 * (((y2 i5.toNatClampNeg) - (ys i5.toNatClampNeg)) : Int32).toInt64))))))))))))))
set_option maxHeartbeats 4000000 in
set_option maxRecDepth 100000 in
theorem mX5_area_56 {p : Program} {l : Launch} {e : Env} {s : State} {m : MethodId} {av : Array Value} {below : List Frame} {meth : Method} {c : Code} {dC : Nat → ClassId} {dI : Nat → Nat → Nat} {cI cJ cZ : ClassId} {q : Nat → Nat} {K : Int64 → (Int32 × Int32 × (Nat → Int32) × (Nat → Int32) × (Nat → Int32) × (Nat → Int64)) → Prop} {k139 : Int32 → Int32 → (Nat → Int32) → (Nat → Int32) → (Nat → Int32) → (Nat → Int64) → Int32 → Int64 → Int32 → Prop} (kd : Int32) (kn : Int32) (ka : Int32) (kt : Int32) (ku : Int32) (kr : Int32) (cn : (Nat → Int32)) (xs : (Nat → Int32)) (ys : (Nat → Int32)) (x2 : (Nat → Int32)) (y2 : (Nat → Int32)) (my : (Nat → Int32)) (tl : (Nat → Int32)) (co : (Nat → Int32)) (rg : (Nat → Int32)) (re : (Nat → Int64)) (C : CX p s m av meth c cX5_area 7 (some .long) RX5 wsX5_area) (hK : va_K (dC, dI) vwCl (TY cI cJ cZ) s) (ha : apart q 15) (hN : NX s) (hk139 : ∀ (kc : Int32) (kp : Int32) (po : (Nat → Int32)) (so : (Nat → Int32)) (st : (Nat → Int32)) (nr : (Nat → Int64)) (v1 : Int32) (v2 : Int64) (v4 : Int32) (ls : Array Slot) (H : Heap) (locs : List Loc), k139 kc kp po so st nr v1 v2 v4 → lv_has ls 7 [(0, .ref (q 0)), (1, .int v1), (2, .long v2), (4, .int v4)] → va_P (dC, dI) vwCl (WM q cI cJ cZ kc kd kn kp ka kt ku kr cn xs ys x2 y2 my tl po so st nr co rg re) H → va_S (AF q 15 s.heap.size) s.heap H locs → W p l e { frames := 4, cells := 0, slots := 0, locals := 97 } s m av below meth c H locs 0 0 (MQ below (QX5_area dC dI cI cJ cZ q s.heap.size kd kn ka kt ku kr cn xs ys x2 y2 my tl co rg re K) av s 0 0 (AF q 15 s.heap.size)) (F0 m 139 ls [])) : ∀ (n : Nat) (kc : Int32) (kp : Int32) (po : (Nat → Int32)) (so : (Nat → Int32)) (st : (Nat → Int32)) (nr : (Nat → Int64)) (v1 : Int32) (v2 : Int64) (v4 : Int32) (v5 : Int32) (ls : Array Slot) (H : Heap) (locs : List Loc), lpX5_area_56 kd kn ka cn xs ys x2 y2 my co K k139 n kc kp po so st nr v1 v2 v4 v5 → lv_has ls 7 [(0, .ref (q 0)), (1, .int v1), (2, .long v2), (4, .int v4), (5, .int v5)] → va_P (dC, dI) vwCl (WM q cI cJ cZ kc kd kn kp ka kt ku kr cn xs ys x2 y2 my tl po so st nr co rg re) H → va_S (AF q 15 s.heap.size) s.heap H locs → W p l e { frames := 4, cells := 0, slots := 0, locals := 97 } s m av below meth c H locs 0 0 (MQ below (QX5_area dC dI cI cJ cZ q s.heap.size kd kn ka kt ku kr cn xs ys x2 y2 my tl co rg re K) av s 0 0 (AF q 15 s.heap.size)) (F0 m 56 ls []) := by
  obtain ⟨hx, hb, hr, hml, hown, hts, hlk⟩ := id C
  intro n
  induction n with
  | zero =>
    intro kc kp po so st nr v1 v2 v4 v5 ls H locs h
    exact h.elim
  | succ n ih =>
    intro kc kp po so st nr v1 v2 v4 v5 ls H locs h hl hP hS
    rw [lpX5_area_56.eq_2] at h
    refine lv_iload hx hb dX5_area_56 (lv_at hl 4 rfl) ?_
    refine lv_aload_n hx hb dX5_area_58 rfl (lv_at hl 0 rfl) ?_
    refine va_get (D := (dC, dI)) (ci := 5) (v := .ref (q 1)) (C := RX5) (T := TX5) (N := 22) hx hb hts iwX5_area_X5 hown hK hP 0 rfl rfl 3 (by decide) (hts _ fwX5_area_13) (fun _ h9 => h9) rfl dX5_area_59 ?_
    refine lv_iload hx hb dX5_area_62 (lv_at hl 3 rfl) ?_
    obtain ⟨b3, h⟩ := h
    refine va_iald (D := (dC, dI)) hx hb hK hP 1 0 rfl rfl b3 dX5_area_64 ?_
    refine lv_icmp_ge (tgt := 139) hx hb dX5_area_65 (by decide) (fun c4 => ?_) (fun c4 => ?_)
    · have h := h.1 c4
      exact hk139 kc kp po so st nr v1 v2 v4 ls H locs h (lv_sub hl [0, 1, 2, 3] rfl) hP hS
    · have h := h.2 c4
      refine lv_iconst (v := 4) hx hb dX5_area_68 (by decide) ?_
      refine lv_iload hx hb dX5_area_69 (lv_at hl 3 rfl) ?_
      refine lv_imul hx hb dX5_area_71 ?_
      refine lv_iload hx hb dX5_area_72 (lv_at hl 4 rfl) ?_
      refine lv_iadd hx hb dX5_area_74 ?_
      refine lv_topi (fun i5 ei5 => ?_)
      have h := h i5 ei5
      refine lv_istore (lv' := [(6, .int i5), (0, .ref (q 0)), (1, .int v1), (2, .long v2), (4, .int v4), (5, .int v5)]) hx hb dX5_area_75 hl (by decide) rfl (fun ls hl => ?_)
      refine lv_lload_n hx hb dX5_area_77 rfl (lv_at hl 3 rfl) ?_
      refine lv_aload_n hx hb dX5_area_78 rfl (lv_at hl 1 rfl) ?_
      refine va_get (D := (dC, dI)) (ci := 5) (v := .ref (q 12)) (C := RX5) (T := TX5) (N := 22) hx hb hts iwX5_area_X5 hown hK hP 0 rfl rfl 18 (by decide) (hts _ fwX5_area_52) (fun _ h9 => h9) rfl dX5_area_79 ?_
      refine lv_aload_n hx hb dX5_area_82 rfl (lv_at hl 1 rfl) ?_
      refine va_get (D := (dC, dI)) (ci := 5) (v := .ref (q 8)) (C := RX5) (T := TX5) (N := 22) hx hb hts iwX5_area_X5 hown hK hP 0 rfl rfl 11 (by decide) (hts _ fwX5_area_36) (fun _ h9 => h9) rfl dX5_area_83 ?_
      refine lv_iload hx hb dX5_area_86 (lv_at hl 0 rfl) ?_
      obtain ⟨b6, h⟩ := h
      refine va_iald (D := (dC, dI)) hx hb hK hP 8 0 rfl rfl b6 dX5_area_88 ?_
      obtain ⟨b7, h⟩ := h
      refine va_iald (D := (dC, dI)) hx hb hK hP 12 0 rfl rfl b7 dX5_area_89 ?_
      refine lv_iload_n hx hb dX5_area_90 rfl (lv_at hl 2 rfl) ?_
      refine lv_icmp_ne (tgt := 130) hx hb dX5_area_91 (by decide) (fun c8 => ?_) (fun c8 => ?_)
      · have h := h.1 c8
        refine lv_lconst (v := 0) hx hb dX5_area_130 (by decide) ?_
        exact mX5_area_131 kd kn ka kt ku kr cn xs ys x2 y2 my tl co rg re C hK ha hN (fun kc kp po so st nr v1 v2 v4 v5 ls H locs h hl hP hS => ih kc kp po so st nr v1 v2 v4 v5 ls H locs h hl hP hS) kc kp po so st nr v1 v4 v5 v2 0 ls H locs h (lv_sub hl [1, 2, 4, 5] rfl) hP hS
      · have h := h.2 c8
        refine lv_aload_n hx hb dX5_area_94 rfl (lv_at hl 1 rfl) ?_
        refine va_get (D := (dC, dI)) (ci := 5) (v := .ref (q 4)) (C := RX5) (T := TX5) (N := 22) hx hb hts iwX5_area_X5 hown hK hP 0 rfl rfl 6 (by decide) (hts _ fwX5_area_23) (fun _ h9 => h9) rfl dX5_area_95 ?_
        refine lv_iload hx hb dX5_area_98 (lv_at hl 0 rfl) ?_
        obtain ⟨b9, h⟩ := h
        refine va_iald (D := (dC, dI)) hx hb hK hP 4 0 rfl rfl b9 dX5_area_100 ?_
        refine lv_aload_n hx hb dX5_area_101 rfl (lv_at hl 1 rfl) ?_
        refine va_get (D := (dC, dI)) (ci := 5) (v := .ref (q 2)) (C := RX5) (T := TX5) (N := 22) hx hb hts iwX5_area_X5 hown hK hP 0 rfl rfl 4 (by decide) (hts _ fwX5_area_17) (fun _ h9 => h9) rfl dX5_area_102 ?_
        refine lv_iload hx hb dX5_area_105 (lv_at hl 0 rfl) ?_
        obtain ⟨b10, h⟩ := h
        refine va_iald (D := (dC, dI)) hx hb hK hP 2 0 rfl rfl b10 dX5_area_107 ?_
        refine lv_isub hx hb dX5_area_108 ?_
        refine lv_i2l hx hb dX5_area_109 rfl ?_
        refine lv_aload_n hx hb dX5_area_110 rfl (lv_at hl 1 rfl) ?_
        refine va_get (D := (dC, dI)) (ci := 5) (v := .ref (q 5)) (C := RX5) (T := TX5) (N := 22) hx hb hts iwX5_area_X5 hown hK hP 0 rfl rfl 7 (by decide) (hts _ fwX5_area_26) (fun _ h9 => h9) rfl dX5_area_111 ?_
        refine lv_iload hx hb dX5_area_114 (lv_at hl 0 rfl) ?_
        obtain ⟨b11, h⟩ := h
        refine va_iald (D := (dC, dI)) hx hb hK hP 5 0 rfl rfl b11 dX5_area_116 ?_
        refine lv_aload_n hx hb dX5_area_117 rfl (lv_at hl 1 rfl) ?_
        refine va_get (D := (dC, dI)) (ci := 5) (v := .ref (q 3)) (C := RX5) (T := TX5) (N := 22) hx hb hts iwX5_area_X5 hown hK hP 0 rfl rfl 5 (by decide) (hts _ fwX5_area_20) (fun _ h9 => h9) rfl dX5_area_118 ?_
        refine lv_iload hx hb dX5_area_121 (lv_at hl 0 rfl) ?_
        obtain ⟨b12, h⟩ := h
        refine va_iald (D := (dC, dI)) hx hb hK hP 3 0 rfl rfl b12 dX5_area_123 ?_
        refine lv_isub hx hb dX5_area_124 ?_
        refine lv_i2l hx hb dX5_area_125 rfl ?_
        refine lv_lmul hx hb dX5_area_126 ?_
        refine lv_goto (tgt := 131) hx hb dX5_area_127 (by decide) ?_
        exact mX5_area_131 kd kn ka kt ku kr cn xs ys x2 y2 my tl co rg re C hK ha hN (fun kc kp po so st nr v1 v2 v4 v5 ls H locs h hl hP hS => ih kc kp po so st nr v1 v2 v4 v5 ls H locs h hl hP hS) kc kp po so st nr v1 v4 v5 v2 (((((x2 i5.toNatClampNeg) - (xs i5.toNatClampNeg)) : Int32).toInt64 * (((y2 i5.toNatClampNeg) - (ys i5.toNatClampNeg)) : Int32).toInt64)) ls H locs h (lv_sub hl [1, 2, 4, 5] rfl) hP hS
def lpX5_area_30 (kd : Int32) (kn : Int32) (ka : Int32) (cn : (Nat → Int32)) (xs : (Nat → Int32)) (ys : (Nat → Int32)) (x2 : (Nat → Int32)) (y2 : (Nat → Int32)) (my : (Nat → Int32)) (co : (Nat → Int32)) (K : Int64 → (Int32 × Int32 × (Nat → Int32) × (Nat → Int32) × (Nat → Int32) × (Nat → Int64)) → Prop) (k145 : Int32 → Int32 → (Nat → Int32) → (Nat → Int32) → (Nat → Int32) → (Nat → Int64) → Int64 → Prop) : Nat → Int32 → Int32 → (Nat → Int32) → (Nat → Int32) → (Nat → Int32) → (Nat → Int64) → Int32 → Int64 → Int32 → Prop
  | 0, _, _, _, _, _, _, _, _, _ => False
  | n + 1, kc, kp, po, so, st, nr, v1, v2, v4 => ((kn ≤ v4 → k145 kc kp po so st nr v2) ∧ (¬ (kn ≤ v4) → ((¬ kc = 0 → k145 kc kp po so st nr v2) ∧ (kc = 0 → ((¬ ka = 0 → k145 kc kp po so st nr v2) ∧ (ka = 0 → (∃ z56, lpX5_area_56 kd kn ka cn xs ys x2 y2 my co K (fun (kc : Int32) (kp : Int32) (po : (Nat → Int32)) (so : (Nat → Int32)) (st : (Nat → Int32)) (nr : (Nat → Int64)) (v1 : Int32) (v2 : Int64) (v4 : Int32) => (∀ i16 : Int32, i16 = v4 + 1 → lpX5_area_30 kd kn ka cn xs ys x2 y2 my co K k145 n kc kp po so st nr v1 v2 i16)) z56 kc kp po so st nr v1 v2 v4 0)))))))
set_option maxHeartbeats 4000000 in
set_option maxRecDepth 100000 in
theorem mX5_area_30 {p : Program} {l : Launch} {e : Env} {s : State} {m : MethodId} {av : Array Value} {below : List Frame} {meth : Method} {c : Code} {dC : Nat → ClassId} {dI : Nat → Nat → Nat} {cI cJ cZ : ClassId} {q : Nat → Nat} {K : Int64 → (Int32 × Int32 × (Nat → Int32) × (Nat → Int32) × (Nat → Int32) × (Nat → Int64)) → Prop} {k145 : Int32 → Int32 → (Nat → Int32) → (Nat → Int32) → (Nat → Int32) → (Nat → Int64) → Int64 → Prop} (kd : Int32) (kn : Int32) (ka : Int32) (kt : Int32) (ku : Int32) (kr : Int32) (cn : (Nat → Int32)) (xs : (Nat → Int32)) (ys : (Nat → Int32)) (x2 : (Nat → Int32)) (y2 : (Nat → Int32)) (my : (Nat → Int32)) (tl : (Nat → Int32)) (co : (Nat → Int32)) (rg : (Nat → Int32)) (re : (Nat → Int64)) (C : CX p s m av meth c cX5_area 7 (some .long) RX5 wsX5_area) (hK : va_K (dC, dI) vwCl (TY cI cJ cZ) s) (ha : apart q 15) (hN : NX s) (hk145 : ∀ (kc : Int32) (kp : Int32) (po : (Nat → Int32)) (so : (Nat → Int32)) (st : (Nat → Int32)) (nr : (Nat → Int64)) (v2 : Int64) (ls : Array Slot) (H : Heap) (locs : List Loc), k145 kc kp po so st nr v2 → lv_has ls 7 [(2, .long v2)] → va_P (dC, dI) vwCl (WM q cI cJ cZ kc kd kn kp ka kt ku kr cn xs ys x2 y2 my tl po so st nr co rg re) H → va_S (AF q 15 s.heap.size) s.heap H locs → W p l e { frames := 4, cells := 0, slots := 0, locals := 97 } s m av below meth c H locs 0 0 (MQ below (QX5_area dC dI cI cJ cZ q s.heap.size kd kn ka kt ku kr cn xs ys x2 y2 my tl co rg re K) av s 0 0 (AF q 15 s.heap.size)) (F0 m 145 ls [])) : ∀ (n : Nat) (kc : Int32) (kp : Int32) (po : (Nat → Int32)) (so : (Nat → Int32)) (st : (Nat → Int32)) (nr : (Nat → Int64)) (v1 : Int32) (v2 : Int64) (v4 : Int32) (ls : Array Slot) (H : Heap) (locs : List Loc), lpX5_area_30 kd kn ka cn xs ys x2 y2 my co K k145 n kc kp po so st nr v1 v2 v4 → lv_has ls 7 [(0, .ref (q 0)), (1, .int v1), (2, .long v2), (4, .int v4)] → va_P (dC, dI) vwCl (WM q cI cJ cZ kc kd kn kp ka kt ku kr cn xs ys x2 y2 my tl po so st nr co rg re) H → va_S (AF q 15 s.heap.size) s.heap H locs → W p l e { frames := 4, cells := 0, slots := 0, locals := 97 } s m av below meth c H locs 0 0 (MQ below (QX5_area dC dI cI cJ cZ q s.heap.size kd kn ka kt ku kr cn xs ys x2 y2 my tl co rg re K) av s 0 0 (AF q 15 s.heap.size)) (F0 m 30 ls []) := by
  obtain ⟨hx, hb, hr, hml, hown, hts, hlk⟩ := id C
  intro n
  induction n with
  | zero =>
    intro kc kp po so st nr v1 v2 v4 ls H locs h
    exact h.elim
  | succ n ih =>
    intro kc kp po so st nr v1 v2 v4 ls H locs h hl hP hS
    rw [lpX5_area_30.eq_2] at h
    refine lv_iload hx hb dX5_area_30 (lv_at hl 3 rfl) ?_
    refine lv_aload_n hx hb dX5_area_32 rfl (lv_at hl 0 rfl) ?_
    refine va_get (D := (dC, dI)) (ci := 5) (v := .int kn) (C := RX5) (T := TX5) (N := 22) hx hb hts iwX5_area_X5 hown hK hP 0 rfl rfl 2 (by decide) (hts _ fwX5_area_64) (fun _ h9 => h9) rfl dX5_area_33 ?_
    refine lv_icmp_ge (tgt := 145) hx hb dX5_area_36 (by decide) (fun c13 => ?_) (fun c13 => ?_)
    · have h := h.1 c13
      exact hk145 kc kp po so st nr v2 ls H locs h (lv_sub hl [2] rfl) hP hS
    · have h := h.2 c13
      refine lv_aload_n hx hb dX5_area_39 rfl (lv_at hl 0 rfl) ?_
      refine va_get (D := (dC, dI)) (ci := 5) (v := .int kc) (C := RX5) (T := TX5) (N := 22) hx hb hts iwX5_area_X5 hown hK hP 0 rfl rfl 0 (by decide) (hts _ fwX5_area_61) (fun _ h9 => h9) rfl dX5_area_40 ?_
      refine lv_if_ne (tgt := 145) hx hb dX5_area_43 (by decide) (fun c14 => ?_) (fun c14 => ?_)
      · have h := h.1 c14
        exact hk145 kc kp po so st nr v2 ls H locs h (lv_sub hl [2] rfl) hP hS
      · have h := h.2 c14
        refine lv_aload_n hx hb dX5_area_46 rfl (lv_at hl 0 rfl) ?_
        refine va_get (D := (dC, dI)) (ci := 5) (v := .int ka) (C := RX5) (T := TX5) (N := 22) hx hb hts iwX5_area_X5 hown hK hP 0 rfl rfl 15 (by decide) (hts _ fwX5_area_49) (fun _ h9 => h9) rfl dX5_area_47 ?_
        refine lv_if_ne (tgt := 145) hx hb dX5_area_50 (by decide) (fun c15 => ?_) (fun c15 => ?_)
        · have h := h.1 c15
          exact hk145 kc kp po so st nr v2 ls H locs h (lv_sub hl [2] rfl) hP hS
        · have h := h.2 c15
          refine lv_iconst (v := 0) hx hb dX5_area_53 (by decide) ?_
          refine lv_istore (lv' := [(5, .int 0), (0, .ref (q 0)), (1, .int v1), (2, .long v2), (4, .int v4)]) hx hb dX5_area_54 hl (by decide) rfl (fun ls hl => ?_)
          obtain ⟨n9, h⟩ := h
          exact mX5_area_56 kd kn ka kt ku kr cn xs ys x2 y2 my tl co rg re C hK ha hN (fun kc kp po so st nr v1 v2 v4 ls H locs h hl hP hS => by
              obtain ⟨i16, ei16⟩ : ∃ y : Int32, y = v4 + 1 := ⟨_, rfl⟩
              refine lv_iinc (v := i16) (lv' := [(4, .int i16), (0, .ref (q 0)), (1, .int v1), (2, .long v2)]) hx hb dX5_area_139 hl (k := 3) rfl (by rw [ei16]; rfl) (by decide) rfl (fun ls hl => ?_)
              have h := h i16 ei16
              refine lv_goto (tgt := 30) hx hb dX5_area_142 (by decide) ?_
              exact ih kc kp po so st nr v1 v2 i16 ls H locs h (lv_sub hl [1, 2, 3, 0] rfl) hP hS) n9 kc kp po so st nr v1 v2 v4 0 ls H locs h (lv_sub hl [1, 2, 3, 4, 0] rfl) hP hS
def bkX5_area_18 (kd : Int32) (kn : Int32) (ka : Int32) (cn : (Nat → Int32)) (xs : (Nat → Int32)) (ys : (Nat → Int32)) (x2 : (Nat → Int32)) (y2 : (Nat → Int32)) (my : (Nat → Int32)) (co : (Nat → Int32)) (K : Int64 → (Int32 × Int32 × (Nat → Int32) × (Nat → Int32) × (Nat → Int32) × (Nat → Int64)) → Prop) (kc : Int32) (kp : Int32) (po : (Nat → Int32)) (so : (Nat → Int32)) (st : (Nat → Int32)) (nr : (Nat → Int64)) (v1 : Int32) (s1 : Int32) : Prop := (wX5_findParts kd kn cn xs ys x2 y2 my kp po so st nr  (fun (u18 : Int32 × (Nat → Int32) × (Nat → Int32) × (Nat → Int32) × (Nat → Int64)) => (∃ z30, lpX5_area_30 kd kn ka cn xs ys x2 y2 my co K (fun (kc : Int32) (kp : Int32) (po : (Nat → Int32)) (so : (Nat → Int32)) (st : (Nat → Int32)) (nr : (Nat → Int64)) (v2 : Int64) => K v2 (kc, kp, po, so, st, nr)) z30 s1 u18.1 u18.2.1 u18.2.2.1 u18.2.2.2.1 u18.2.2.2.2 v1 0 0)))
set_option maxHeartbeats 4000000 in
set_option maxRecDepth 100000 in
theorem mX5_area_18 {p : Program} {l : Launch} {e : Env} {s : State} {m : MethodId} {av : Array Value} {below : List Frame} {meth : Method} {c : Code} {dC : Nat → ClassId} {dI : Nat → Nat → Nat} {cI cJ cZ : ClassId} {q : Nat → Nat} {K : Int64 → (Int32 × Int32 × (Nat → Int32) × (Nat → Int32) × (Nat → Int32) × (Nat → Int64)) → Prop} (kd : Int32) (kn : Int32) (ka : Int32) (kt : Int32) (ku : Int32) (kr : Int32) (cn : (Nat → Int32)) (xs : (Nat → Int32)) (ys : (Nat → Int32)) (x2 : (Nat → Int32)) (y2 : (Nat → Int32)) (my : (Nat → Int32)) (tl : (Nat → Int32)) (co : (Nat → Int32)) (rg : (Nat → Int32)) (re : (Nat → Int64)) (C : CX p s m av meth c cX5_area 7 (some .long) RX5 wsX5_area) (hK : va_K (dC, dI) vwCl (TY cI cJ cZ) s) (ha : apart q 15) (hN : NX s)  : ∀ (kc : Int32) (kp : Int32) (po : (Nat → Int32)) (so : (Nat → Int32)) (st : (Nat → Int32)) (nr : (Nat → Int64)) (v1 : Int32) (s1 : Int32) (ls : Array Slot) (H : Heap) (locs : List Loc), bkX5_area_18 kd kn ka cn xs ys x2 y2 my co K kc kp po so st nr v1 s1 → lv_has ls 7 [(0, .ref (q 0)), (1, .int v1)] → va_P (dC, dI) vwCl (WM q cI cJ cZ kc kd kn kp ka kt ku kr cn xs ys x2 y2 my tl po so st nr co rg re) H → va_S (AF q 15 s.heap.size) s.heap H locs → W p l e { frames := 4, cells := 0, slots := 0, locals := 97 } s m av below meth c H locs 0 0 (MQ below (QX5_area dC dI cI cJ cZ q s.heap.size kd kn ka kt ku kr cn xs ys x2 y2 my tl co rg re K) av s 0 0 (AF q 15 s.heap.size)) (F0 m 18 ls [.int s1, .ref (q 0)]) := by
  obtain ⟨hx, hb, hr, hml, hown, hts, hlk⟩ := id C
  intro kc kp po so st nr v1 s1 ls H locs h hl hP hS
  unfold bkX5_area_18 at h
  refine va_put (D := (dC, dI)) (ci := 5) (v := .int s1) (ty := .int) (C := RX5) (T := TX5) (N := 22) hx hb hts iwX5_area_X5 tyX5 tyX5_ok nmX5 hown hK hP (d_WM ha) hS 0 rfl rfl 0 (by decide) (hts _ fwX5_area_61) (fun _ h9 => h9) rfl (by decide +kernel) rfl rfl (Nat.le_of_ble_eq_true rfl) dX5_area_18 (fun H locs hP _ hS => ?_)
  have hP : va_P (dC, dI) vwCl (WM q cI cJ cZ s1 kd kn kp ka kt ku kr cn xs ys x2 y2 my tl po so st nr co rg re) H := hP
  refine lv_lconst (v := 0) hx hb dX5_area_21 (by decide) ?_
  refine lv_lstore_n (lv' := [(2, .long 0), (0, .ref (q 0)), (1, .int v1)]) hx hb dX5_area_22 rfl hl (by decide) rfl (fun ls hl => ?_)
  refine lv_aload_n hx hb dX5_area_23 rfl (lv_at hl 1 rfl) ?_
  refine cl_v (va_runV (As := []) (rest := []) ⟨hx, hb, hml, hown, hts⟩ (ktX5_findParts l dC dI q cI cJ cZ H.size s1 kd kn kp ka kt ku kr cn xs ys x2 y2 my tl po so st nr co rg re  h) (cwV 0 hts gX5_area_X5_findParts rfl rfl rfl (by decide +kernel) ⟨Nat.le_of_ble_eq_true rfl, Nat.le_of_ble_eq_true rfl⟩) ⟨wd.blind, va_recv hK hP (ci := 5) (q0 := 0) rfl rfl, fun U hU hW => ⟨rfl, wd.at hP hK ha hN hU hW⟩⟩ rfl rfl hl.1 rfl (lv_room (Nat.le_of_ble_eq_true rfl)) dX5_area_24 ⟨Nat.le_of_ble_eq_true rfl, Nat.le_of_ble_eq_true rfl⟩) hS (fun u18 H locs h hP hS => ?_)
  have hP : va_P (dC, dI) vwCl (WM q cI cJ cZ s1 kd kn u18.1 ka kt ku kr cn xs ys x2 y2 my tl u18.2.1 u18.2.2.1 u18.2.2.2.1 u18.2.2.2.2 co rg re) H := hP
  refine lv_iconst (v := 0) hx hb dX5_area_27 (by decide) ?_
  refine lv_istore (lv' := [(4, .int 0), (2, .long 0), (0, .ref (q 0)), (1, .int v1)]) hx hb dX5_area_28 hl (by decide) rfl (fun ls hl => ?_)
  obtain ⟨n9, h⟩ := h
  exact mX5_area_30 kd kn ka kt ku kr cn xs ys x2 y2 my tl co rg re C hK ha hN (fun kc kp po so st nr v2 ls H locs h hl hP hS => by
      refine lv_lload_n hx hb dX5_area_145 rfl (lv_at hl 0 rfl) ?_
      exact rt_l (kc, kp, po, so, st, nr) hx hb hr hlk h (fun t ht => by rw [ht]; exact hP) hS dX5_area_146) n9 s1 u18.1 u18.2.1 u18.2.2.1 u18.2.2.2.1 u18.2.2.2.2 v1 0 0 ls H locs h (lv_sub hl [2, 3, 1, 0] rfl) hP hS
def wX5_area (kd : Int32) (kn : Int32) (ka : Int32) (cn : (Nat → Int32)) (xs : (Nat → Int32)) (ys : (Nat → Int32)) (x2 : (Nat → Int32)) (y2 : (Nat → Int32)) (my : (Nat → Int32)) (co : (Nat → Int32)) (kc : Int32) (kp : Int32) (po : (Nat → Int32)) (so : (Nat → Int32)) (st : (Nat → Int32)) (nr : (Nat → Int64)) (v1 : Int32) (K : Int64 → (Int32 × Int32 × (Nat → Int32) × (Nat → Int32) × (Nat → Int32) × (Nat → Int64)) → Prop) : Prop := (wX5_isIn v1.toInt64 0 3 (fun r19 : Int32 => ((r19 = 0 → bkX5_area_18 kd kn ka cn xs ys x2 y2 my co K kc kp po so st nr v1 1) ∧ (¬ (r19 = 0) → bkX5_area_18 kd kn ka cn xs ys x2 y2 my co K kc kp po so st nr v1 0))))
set_option maxHeartbeats 4000000 in
set_option maxRecDepth 100000 in
theorem ktX5_area (l : Launch) (dC : Nat → ClassId) (dI : Nat → Nat → Nat) (q : Nat → Nat) (cI cJ cZ : ClassId) (sz : Nat) (kc : Int32) (kd : Int32) (kn : Int32) (kp : Int32) (ka : Int32) (kt : Int32) (ku : Int32) (kr : Int32) (cn : (Nat → Int32)) (xs : (Nat → Int32)) (ys : (Nat → Int32)) (x2 : (Nat → Int32)) (y2 : (Nat → Int32)) (my : (Nat → Int32)) (tl : (Nat → Int32)) (po : (Nat → Int32)) (so : (Nat → Int32)) (st : (Nat → Int32)) (nr : (Nat → Int64)) (co : (Nat → Int32)) (rg : (Nat → Int32)) (re : (Nat → Int64)) (v1 : Int32) {K : Int64 → (Int32 × Int32 × (Nat → Int32) × (Nat → Int32) × (Nat → Int32) × (Nat → Int64)) → Prop} (h : wX5_area kd kn ka cn xs ys x2 y2 my co kc kp po so st nr v1 K) : Met l yX5_area wsX5_area { frames := 4, cells := 0, slots := 0, locals := 97 } (va_Pc [.ref (q 0), .int v1] (wd dC dI cI cJ cZ q 15 sz (WM q cI cJ cZ kc kd kn kp ka kt ku kr cn xs ys x2 y2 my tl po so st nr co rg re))) (QX5_area dC dI cI cJ cZ q sz kd kn ka kt ku kr cn xs ys x2 y2 my tl co rg re K) 0 0 (AF q 15 sz) := by
  refine met_of [.ref (q 0), .int v1] (by decide +kernel) rfl (Nat.le_of_ble_eq_true rfl) ?_
  intro p e s m below meth c ls hsz C hK ha hN hl hP
  subst hsz
  obtain ⟨hx, hb, hr, hml, hown, hts, hlk⟩ := id C
  have hl : lv_has ls 7 [(0, .ref (q 0)), (1, .int v1)] := hl
  refine w_go (Pw := fun H => va_P (dC, dI) vwCl (WM q cI cJ cZ kc kd kn kp ka kt ku kr cn xs ys x2 y2 my tl po so st nr co rg re) H) (A := AF q 15 s.heap.size) (fun H locs hP hS => ?_) hP
  unfold wX5_area at h
  refine lv_aload_n hx hb dX5_area_0 rfl (lv_at hl 0 rfl) ?_
  refine lv_iload_n hx hb dX5_area_1 rfl (lv_at hl 1 rfl) ?_
  refine lv_i2l hx hb dX5_area_2 rfl ?_
  refine lv_lconst (v := 0) hx hb dX5_area_3 (by decide) ?_
  refine lv_ldc2 (v := 3) hx hb hown (hts _ cwX5_area_96) dX5_area_4 ?_
  refine cl_pi (va_runS (As := [.long v1.toInt64, .long 0, .long 3]) (rest := [.ref (q 0)]) ⟨hx, hb, hml, hown, hts⟩ (ktX5_isIn l H.size v1.toInt64 0 3 h) (va_cwS 3 hts gX5_area_X5_isIn rfl rfl rfl (by decide +kernel) ⟨Nat.le_of_ble_eq_true rfl, Nat.le_of_ble_eq_true rfl⟩) ⟨pz.blind, fun U hU _ => ⟨rfl, pz.at hU⟩⟩ rfl rfl hl.1 rfl (lv_room (Nat.le_of_ble_eq_true rfl)) dX5_area_7 ⟨Nat.le_of_ble_eq_true rfl, Nat.le_of_ble_eq_true rfl⟩) hP hS (fun r19 _ H locs h hP hS => ?_)
  refine lv_if_eq (tgt := 17) hx hb dX5_area_10 (by decide) (fun c21 => ?_) (fun c21 => ?_)
  · have h := h.1 c21
    refine lv_iconst (v := 1) hx hb dX5_area_17 (by decide) ?_
    exact mX5_area_18 kd kn ka kt ku kr cn xs ys x2 y2 my tl co rg re C hK ha hN  kc kp po so st nr v1 1 ls H locs h (lv_sub hl [0, 1] rfl) hP hS
  · have h := h.2 c21
    refine lv_iconst (v := 0) hx hb dX5_area_13 (by decide) ?_
    refine lv_goto (tgt := 18) hx hb dX5_area_14 (by decide) ?_
    exact mX5_area_18 kd kn ka kt ku kr cn xs ys x2 y2 my tl co rg re C hK ha hN  kc kp po so st nr v1 0 ls H locs h (lv_sub hl [0, 1] rfl) hP hS
