def wX5_isIn  (v0 : Int64) (v2 : Int64) (v4 : Int64) (K : Int32 → Prop) : Prop := (((lg_cmp v0 v2) < 0 → K 0 ) ∧ (¬ ((lg_cmp v0 v2) < 0) → ((0 < (lg_cmp v0 v4) → K 0 ) ∧ (¬ (0 < (lg_cmp v0 v4)) → K 1 ))))
set_option maxHeartbeats 4000000 in
set_option maxRecDepth 100000 in
theorem ktX5_isIn (l : Launch) (sz : Nat) (v0 : Int64) (v2 : Int64) (v4 : Int64) {K : Int32 → Prop} (h : wX5_isIn v0 v2 v4 K) : Met l yX5_isIn wsX5_isIn { frames := 0, cells := 0, slots := 0, locals := 0 } (va_Pc [.long v0, .long v2, .long v4] (pz sz)) (va_Qi (fun (r : Int32) (_ : Unit) => K r) (fun _ _ => True) (fun _ => False)) 0 0 (fun _ => False) := by
  refine met_pz [.long v0, .long v2, .long v4] (by decide +kernel) rfl (Nat.le_of_ble_eq_true rfl) ?_
  intro p e s m below meth c ls C hl
  obtain ⟨hx, hb, hr, hml, hown, hts, hlk⟩ := id C
  have hl : lv_has ls 6 [(0, .long v0), (2, .long v2), (4, .long v4)] := hl
  refine w_go (Pw := fun _ => True) (A := fun _ => False) (fun H locs _ hS => ?_) trivial
  unfold wX5_isIn at h
  refine lv_lload_n hx hb dX5_isIn_0 rfl (lv_at hl 0 rfl) ?_
  refine lv_lload_n hx hb dX5_isIn_1 rfl (lv_at hl 1 rfl) ?_
  refine W.lcmp hx hb dX5_isIn_2 ?_
  refine lv_if_lt (tgt := 17) hx hb dX5_isIn_3 (by decide) (fun c1 => ?_) (fun c1 => ?_)
  · have h := h.1 c1
    refine lv_iconst (v := 0) hx hb dX5_isIn_17 (by decide) ?_
    exact rt_z () hx hb hr hlk (by decide) h (fun _ _ => trivial) hS dX5_isIn_18
  · have h := h.2 c1
    refine lv_lload_n hx hb dX5_isIn_6 rfl (lv_at hl 0 rfl) ?_
    refine lv_lload hx hb dX5_isIn_7 (lv_at hl 2 rfl) ?_
    refine W.lcmp hx hb dX5_isIn_9 ?_
    refine lv_if_gt (tgt := 17) hx hb dX5_isIn_10 (by decide) (fun c2 => ?_) (fun c2 => ?_)
    · have h := h.1 c2
      refine lv_iconst (v := 0) hx hb dX5_isIn_17 (by decide) ?_
      exact rt_z () hx hb hr hlk (by decide) h (fun _ _ => trivial) hS dX5_isIn_18
    · have h := h.2 c2
      refine lv_iconst (v := 1) hx hb dX5_isIn_13 (by decide) ?_
      refine lv_goto (tgt := 18) hx hb dX5_isIn_14 (by decide) ?_
      exact rt_z () hx hb hr hlk (by decide) h (fun _ _ => trivial) hS dX5_isIn_18

theorem cwX5_isPlace_83 : Cond.constantLong RX5 83 (-10000) ∈ wsX5_isPlace := by decide +kernel
theorem cwX5_isPlace_85 : Cond.constantLong RX5 85 (10000) ∈ wsX5_isPlace := by decide +kernel
def wX5_isPlace  (v0 : Int32) (K : Int32 → Prop) : Prop := (wX5_isIn v0.toInt64 (-10000) 10000 (fun r1 : Int32 => (narrow .boolean (.int r1) = .int r1 ∧ K r1 )))
set_option maxHeartbeats 4000000 in
set_option maxRecDepth 100000 in
theorem ktX5_isPlace (l : Launch) (sz : Nat) (v0 : Int32) {K : Int32 → Prop} (h : wX5_isPlace v0 K) : Met l yX5_isPlace wsX5_isPlace { frames := 1, cells := 0, slots := 0, locals := 25 } (va_Pc [.int v0] (pz sz)) (va_Qi (fun (r : Int32) (_ : Unit) => K r) (fun _ _ => True) (fun _ => False)) 0 0 (fun _ => False) := by
  refine met_pz [.int v0] (by decide +kernel) rfl (Nat.le_of_ble_eq_true rfl) ?_
  intro p e s m below meth c ls C hl
  obtain ⟨hx, hb, hr, hml, hown, hts, hlk⟩ := id C
  have hl : lv_has ls 1 [(0, .int v0)] := hl
  refine w_go (Pw := fun _ => True) (A := fun _ => False) (fun H locs _ hS => ?_) trivial
  unfold wX5_isPlace at h
  refine lv_iload_n hx hb dX5_isPlace_0 rfl (lv_at hl 0 rfl) ?_
  refine lv_i2l hx hb dX5_isPlace_1 rfl ?_
  refine lv_ldc2 (v := (-10000)) hx hb hown (hts _ cwX5_isPlace_83) dX5_isPlace_2 ?_
  refine lv_ldc2 (v := 10000) hx hb hown (hts _ cwX5_isPlace_85) dX5_isPlace_5 ?_
  refine cl_qi (va_runS (As := [.long v0.toInt64, .long (-10000), .long 10000]) (rest := []) ⟨hx, hb, hml, hown, hts⟩ (ktX5_isIn l H.size v0.toInt64 (-10000) 10000 h) (va_cwS 3 hts gX5_isPlace_X5_isIn rfl rfl rfl (by decide +kernel) ⟨Nat.le_of_ble_eq_true rfl, Nat.le_of_ble_eq_true rfl⟩) ⟨pz.blind, fun U hU _ => ⟨rfl, pz.at hU⟩⟩ rfl rfl hl.1 rfl (lv_room (Nat.le_of_ble_eq_true rfl)) dX5_isPlace_8 ⟨Nat.le_of_ble_eq_true rfl, Nat.le_of_ble_eq_true rfl⟩) hS (fun r1 _ H locs h hS => ?_)
  obtain ⟨hn9, h⟩ := h
  exact rt_z () hx hb hr hlk hn9 h (fun _ _ => trivial) hS dX5_isPlace_11

def wX5_gap  (v0 : Int32) (v1 : Int32) (v2 : Int32) (v3 : Int32) (K : Int32 → Prop) : Prop := ((v0 ≤ v3 → ((v2 ≤ v1 → K 0 ) ∧ (¬ (v2 ≤ v1) → K ((v2 - v1)) ))) ∧ (¬ (v0 ≤ v3) → K ((v0 - v3)) ))
set_option maxHeartbeats 4000000 in
set_option maxRecDepth 100000 in
theorem ktX5_gap (l : Launch) (sz : Nat) (v0 : Int32) (v1 : Int32) (v2 : Int32) (v3 : Int32) {K : Int32 → Prop} (h : wX5_gap v0 v1 v2 v3 K) : Met l yX5_gap wsX5_gap { frames := 0, cells := 0, slots := 0, locals := 0 } (va_Pc [.int v0, .int v1, .int v2, .int v3] (pz sz)) (va_Qi (fun (r : Int32) (_ : Unit) => K r) (fun _ _ => True) (fun _ => False)) 0 0 (fun _ => False) := by
  refine met_pz [.int v0, .int v1, .int v2, .int v3] (by decide +kernel) rfl (Nat.le_of_ble_eq_true rfl) ?_
  intro p e s m below meth c ls C hl
  obtain ⟨hx, hb, hr, hml, hown, hts, hlk⟩ := id C
  have hl : lv_has ls 4 [(0, .int v0), (1, .int v1), (2, .int v2), (3, .int v3)] := hl
  refine w_go (Pw := fun _ => True) (A := fun _ => False) (fun H locs _ hS => ?_) trivial
  unfold wX5_gap at h
  refine lv_iload_n hx hb dX5_gap_0 rfl (lv_at hl 0 rfl) ?_
  refine lv_iload_n hx hb dX5_gap_1 rfl (lv_at hl 3 rfl) ?_
  refine lv_icmp_le (tgt := 11) hx hb dX5_gap_2 (by decide) (fun c1 => ?_) (fun c1 => ?_)
  · have h := h.1 c1
    refine lv_iload_n hx hb dX5_gap_11 rfl (lv_at hl 2 rfl) ?_
    refine lv_iload_n hx hb dX5_gap_12 rfl (lv_at hl 1 rfl) ?_
    refine lv_icmp_le (tgt := 22) hx hb dX5_gap_13 (by decide) (fun c2 => ?_) (fun c2 => ?_)
    · have h := h.1 c2
      refine lv_iconst (v := 0) hx hb dX5_gap_22 (by decide) ?_
      exact rt_i () hx hb hr hlk h (fun _ _ => trivial) hS dX5_gap_23
    · have h := h.2 c2
      refine lv_iload_n hx hb dX5_gap_16 rfl (lv_at hl 2 rfl) ?_
      refine lv_iload_n hx hb dX5_gap_17 rfl (lv_at hl 1 rfl) ?_
      refine lv_isub hx hb dX5_gap_18 ?_
      refine lv_goto (tgt := 23) hx hb dX5_gap_19 (by decide) ?_
      exact rt_i () hx hb hr hlk h (fun _ _ => trivial) hS dX5_gap_23
  · have h := h.2 c1
    refine lv_iload_n hx hb dX5_gap_5 rfl (lv_at hl 0 rfl) ?_
    refine lv_iload_n hx hb dX5_gap_6 rfl (lv_at hl 3 rfl) ?_
    refine lv_isub hx hb dX5_gap_7 ?_
    refine lv_goto (tgt := 23) hx hb dX5_gap_8 (by decide) ?_
    exact rt_i () hx hb hr hlk h (fun _ _ => trivial) hS dX5_gap_23

theorem fwX5_thrown_61 : Cond.fieldLink RX5 61 "MaskPartsModel" "code" "I" ∈ wsX5_thrown := by decide +kernel
set_option maxRecDepth 20000 in
theorem iwX5_thrown_X5 : ∀ w ∈ wsX50, w ∈ wsX5_thrown := by decide +kernel
abbrev QX5_thrown (dC : Nat → ClassId) (dI : Nat → Nat → Nat) (cI cJ cZ : ClassId) (q : Nat → Nat) (sz : Nat) (kc : Int32) (kd : Int32) (kn : Int32) (kp : Int32) (ka : Int32) (kt : Int32) (ku : Int32) (kr : Int32) (cn : (Nat → Int32)) (xs : (Nat → Int32)) (ys : (Nat → Int32)) (x2 : (Nat → Int32)) (y2 : (Nat → Int32)) (my : (Nat → Int32)) (tl : (Nat → Int32)) (po : (Nat → Int32)) (so : (Nat → Int32)) (st : (Nat → Int32)) (nr : (Nat → Int64)) (co : (Nat → Int32)) (rg : (Nat → Int32)) (re : (Nat → Int64)) (K : Int32 → Prop) : Array Value → State → Outcome → State → Prop := va_Qi (fun (r : Int32) (u : Unit) => K r) (fun (u : Unit) t => va_P (dC, dI) vwCl (WM q cI cJ cZ kc kd kn kp ka kt ku kr cn xs ys x2 y2 my tl po so st nr co rg re) t.heap) (AF q 15 sz)
def wX5_thrown (kc : Int32)  (K : Int32 → Prop) : Prop := K kc 
set_option maxHeartbeats 4000000 in
set_option maxRecDepth 100000 in
theorem ktX5_thrown (l : Launch) (dC : Nat → ClassId) (dI : Nat → Nat → Nat) (q : Nat → Nat) (cI cJ cZ : ClassId) (sz : Nat) (kc : Int32) (kd : Int32) (kn : Int32) (kp : Int32) (ka : Int32) (kt : Int32) (ku : Int32) (kr : Int32) (cn : (Nat → Int32)) (xs : (Nat → Int32)) (ys : (Nat → Int32)) (x2 : (Nat → Int32)) (y2 : (Nat → Int32)) (my : (Nat → Int32)) (tl : (Nat → Int32)) (po : (Nat → Int32)) (so : (Nat → Int32)) (st : (Nat → Int32)) (nr : (Nat → Int64)) (co : (Nat → Int32)) (rg : (Nat → Int32)) (re : (Nat → Int64))  {K : Int32 → Prop} (h : wX5_thrown kc K) : Met l yX5_thrown wsX5_thrown { frames := 0, cells := 0, slots := 0, locals := 0 } (va_Pc [.ref (q 0)] (wd dC dI cI cJ cZ q 15 sz (WM q cI cJ cZ kc kd kn kp ka kt ku kr cn xs ys x2 y2 my tl po so st nr co rg re))) (QX5_thrown dC dI cI cJ cZ q sz kc kd kn kp ka kt ku kr cn xs ys x2 y2 my tl po so st nr co rg re K) 0 0 (AF q 15 sz) := by
  refine met_of [.ref (q 0)] (by decide +kernel) rfl (Nat.le_of_ble_eq_true rfl) ?_
  intro p e s m below meth c ls hsz C hK ha hN hl hP
  subst hsz
  obtain ⟨hx, hb, hr, hml, hown, hts, hlk⟩ := id C
  have hl : lv_has ls 1 [(0, .ref (q 0))] := hl
  refine w_go (Pw := fun H => va_P (dC, dI) vwCl (WM q cI cJ cZ kc kd kn kp ka kt ku kr cn xs ys x2 y2 my tl po so st nr co rg re) H) (A := AF q 15 s.heap.size) (fun H locs hP hS => ?_) hP
  unfold wX5_thrown at h
  refine lv_aload_n hx hb dX5_thrown_0 rfl (lv_at hl 0 rfl) ?_
  refine va_get (D := (dC, dI)) (ci := 5) (v := .int kc) (C := RX5) (T := TX5) (N := 22) hx hb hts iwX5_thrown_X5 hown hK hP 0 rfl rfl 0 (by decide) (hts _ fwX5_thrown_61) (fun _ h9 => h9) rfl dX5_thrown_1 ?_
  exact rt_i () hx hb hr hlk h (fun t ht => by rw [ht]; exact hP) hS dX5_thrown_4

theorem fwX5_isShape_64 : Cond.fieldLink RX5 64 "MaskPartsModel" "shapes" "I" ∈ wsX5_isShape := by decide +kernel
set_option maxRecDepth 20000 in
theorem iwX5_isShape_X5 : ∀ w ∈ wsX50, w ∈ wsX5_isShape := by decide +kernel
abbrev QX5_isShape (dC : Nat → ClassId) (dI : Nat → Nat → Nat) (cI cJ cZ : ClassId) (q : Nat → Nat) (sz : Nat) (kc : Int32) (kd : Int32) (kn : Int32) (kp : Int32) (ka : Int32) (kt : Int32) (ku : Int32) (kr : Int32) (cn : (Nat → Int32)) (xs : (Nat → Int32)) (ys : (Nat → Int32)) (x2 : (Nat → Int32)) (y2 : (Nat → Int32)) (my : (Nat → Int32)) (tl : (Nat → Int32)) (po : (Nat → Int32)) (so : (Nat → Int32)) (st : (Nat → Int32)) (nr : (Nat → Int64)) (co : (Nat → Int32)) (rg : (Nat → Int32)) (re : (Nat → Int64)) (K : Int32 → Prop) : Array Value → State → Outcome → State → Prop := va_Qi (fun (r : Int32) (u : Unit) => K r) (fun (u : Unit) t => va_P (dC, dI) vwCl (WM q cI cJ cZ kc kd kn kp ka kt ku kr cn xs ys x2 y2 my tl po so st nr co rg re) t.heap) (AF q 15 sz)
def wX5_isShape (kn : Int32) (v1 : Int32) (K : Int32 → Prop) : Prop := (wX5_isIn v1.toInt64 0 (((kn - 1) : Int32).toInt64) (fun r1 : Int32 => (narrow .boolean (.int r1) = .int r1 ∧ K r1 )))
set_option maxHeartbeats 4000000 in
set_option maxRecDepth 100000 in
theorem ktX5_isShape (l : Launch) (dC : Nat → ClassId) (dI : Nat → Nat → Nat) (q : Nat → Nat) (cI cJ cZ : ClassId) (sz : Nat) (kc : Int32) (kd : Int32) (kn : Int32) (kp : Int32) (ka : Int32) (kt : Int32) (ku : Int32) (kr : Int32) (cn : (Nat → Int32)) (xs : (Nat → Int32)) (ys : (Nat → Int32)) (x2 : (Nat → Int32)) (y2 : (Nat → Int32)) (my : (Nat → Int32)) (tl : (Nat → Int32)) (po : (Nat → Int32)) (so : (Nat → Int32)) (st : (Nat → Int32)) (nr : (Nat → Int64)) (co : (Nat → Int32)) (rg : (Nat → Int32)) (re : (Nat → Int64)) (v1 : Int32) {K : Int32 → Prop} (h : wX5_isShape kn v1 K) : Met l yX5_isShape wsX5_isShape { frames := 1, cells := 0, slots := 0, locals := 25 } (va_Pc [.ref (q 0), .int v1] (wd dC dI cI cJ cZ q 15 sz (WM q cI cJ cZ kc kd kn kp ka kt ku kr cn xs ys x2 y2 my tl po so st nr co rg re))) (QX5_isShape dC dI cI cJ cZ q sz kc kd kn kp ka kt ku kr cn xs ys x2 y2 my tl po so st nr co rg re K) 0 0 (AF q 15 sz) := by
  refine met_of [.ref (q 0), .int v1] (by decide +kernel) rfl (Nat.le_of_ble_eq_true rfl) ?_
  intro p e s m below meth c ls hsz C hK ha hN hl hP
  subst hsz
  obtain ⟨hx, hb, hr, hml, hown, hts, hlk⟩ := id C
  have hl : lv_has ls 2 [(0, .ref (q 0)), (1, .int v1)] := hl
  refine w_go (Pw := fun H => va_P (dC, dI) vwCl (WM q cI cJ cZ kc kd kn kp ka kt ku kr cn xs ys x2 y2 my tl po so st nr co rg re) H) (A := AF q 15 s.heap.size) (fun H locs hP hS => ?_) hP
  unfold wX5_isShape at h
  refine lv_iload_n hx hb dX5_isShape_0 rfl (lv_at hl 1 rfl) ?_
  refine lv_i2l hx hb dX5_isShape_1 rfl ?_
  refine lv_lconst (v := 0) hx hb dX5_isShape_2 (by decide) ?_
  refine lv_aload_n hx hb dX5_isShape_3 rfl (lv_at hl 0 rfl) ?_
  refine va_get (D := (dC, dI)) (ci := 5) (v := .int kn) (C := RX5) (T := TX5) (N := 22) hx hb hts iwX5_isShape_X5 hown hK hP 0 rfl rfl 2 (by decide) (hts _ fwX5_isShape_64) (fun _ h9 => h9) rfl dX5_isShape_4 ?_
  refine lv_iconst (v := 1) hx hb dX5_isShape_7 (by decide) ?_
  refine lv_isub hx hb dX5_isShape_8 ?_
  refine lv_i2l hx hb dX5_isShape_9 rfl ?_
  refine cl_pi (va_runS (As := [.long v1.toInt64, .long 0, .long (((kn - 1) : Int32).toInt64)]) (rest := []) ⟨hx, hb, hml, hown, hts⟩ (ktX5_isIn l H.size v1.toInt64 0 (((kn - 1) : Int32).toInt64) h) (va_cwS 3 hts gX5_isShape_X5_isIn rfl rfl rfl (by decide +kernel) ⟨Nat.le_of_ble_eq_true rfl, Nat.le_of_ble_eq_true rfl⟩) ⟨pz.blind, fun U hU _ => ⟨rfl, pz.at hU⟩⟩ rfl rfl hl.1 rfl (lv_room (Nat.le_of_ble_eq_true rfl)) dX5_isShape_10 ⟨Nat.le_of_ble_eq_true rfl, Nat.le_of_ble_eq_true rfl⟩) hP hS (fun r1 _ H locs h hP hS => ?_)
  obtain ⟨hn9, h⟩ := h
  exact rt_z () hx hb hr hlk hn9 h (fun t ht => by rw [ht]; exact hP) hS dX5_isShape_13

theorem fwX5_isBox_13 : Cond.fieldLink RX5 13 "MaskPartsModel" "counts" "[I" ∈ wsX5_isBox := by decide +kernel
set_option maxRecDepth 20000 in
theorem iwX5_isBox_X5 : ∀ w ∈ wsX50, w ∈ wsX5_isBox := by decide +kernel
abbrev QX5_isBox (dC : Nat → ClassId) (dI : Nat → Nat → Nat) (cI cJ cZ : ClassId) (q : Nat → Nat) (sz : Nat) (kc : Int32) (kd : Int32) (kn : Int32) (kp : Int32) (ka : Int32) (kt : Int32) (ku : Int32) (kr : Int32) (cn : (Nat → Int32)) (xs : (Nat → Int32)) (ys : (Nat → Int32)) (x2 : (Nat → Int32)) (y2 : (Nat → Int32)) (my : (Nat → Int32)) (tl : (Nat → Int32)) (po : (Nat → Int32)) (so : (Nat → Int32)) (st : (Nat → Int32)) (nr : (Nat → Int64)) (co : (Nat → Int32)) (rg : (Nat → Int32)) (re : (Nat → Int64)) (K : Int32 → Prop) : Array Value → State → Outcome → State → Prop := va_Qi (fun (r : Int32) (u : Unit) => K r) (fun (u : Unit) t => va_P (dC, dI) vwCl (WM q cI cJ cZ kc kd kn kp ka kt ku kr cn xs ys x2 y2 my tl po so st nr co rg re) t.heap) (AF q 15 sz)
def wX5_isBox (kn : Int32) (cn : (Nat → Int32)) (v1 : Int32) (v2 : Int32) (K : Int32 → Prop) : Prop := (wX5_isShape kn v1 (fun (r1 : Int32) => ((r1 = 0 → K 0 ) ∧ (¬ (r1 = 0) → (vp_in v1 10 ∧ (wX5_isIn v2.toInt64 0 ((((cn v1.toNatClampNeg) - 1) : Int32).toInt64) (fun r5 : Int32 => ((r5 = 0 → K 0 ) ∧ (¬ (r5 = 0) → K 1 )))))))))
set_option maxHeartbeats 4000000 in
set_option maxRecDepth 100000 in
theorem ktX5_isBox (l : Launch) (dC : Nat → ClassId) (dI : Nat → Nat → Nat) (q : Nat → Nat) (cI cJ cZ : ClassId) (sz : Nat) (kc : Int32) (kd : Int32) (kn : Int32) (kp : Int32) (ka : Int32) (kt : Int32) (ku : Int32) (kr : Int32) (cn : (Nat → Int32)) (xs : (Nat → Int32)) (ys : (Nat → Int32)) (x2 : (Nat → Int32)) (y2 : (Nat → Int32)) (my : (Nat → Int32)) (tl : (Nat → Int32)) (po : (Nat → Int32)) (so : (Nat → Int32)) (st : (Nat → Int32)) (nr : (Nat → Int64)) (co : (Nat → Int32)) (rg : (Nat → Int32)) (re : (Nat → Int64)) (v1 : Int32) (v2 : Int32) {K : Int32 → Prop} (h : wX5_isBox kn cn v1 v2 K) : Met l yX5_isBox wsX5_isBox { frames := 2, cells := 0, slots := 0, locals := 46 } (va_Pc [.ref (q 0), .int v1, .int v2] (wd dC dI cI cJ cZ q 15 sz (WM q cI cJ cZ kc kd kn kp ka kt ku kr cn xs ys x2 y2 my tl po so st nr co rg re))) (QX5_isBox dC dI cI cJ cZ q sz kc kd kn kp ka kt ku kr cn xs ys x2 y2 my tl po so st nr co rg re K) 0 0 (AF q 15 sz) := by
  refine met_of [.ref (q 0), .int v1, .int v2] (by decide +kernel) rfl (Nat.le_of_ble_eq_true rfl) ?_
  intro p e s m below meth c ls hsz C hK ha hN hl hP
  subst hsz
  obtain ⟨hx, hb, hr, hml, hown, hts, hlk⟩ := id C
  have hl : lv_has ls 3 [(0, .ref (q 0)), (1, .int v1), (2, .int v2)] := hl
  refine w_go (Pw := fun H => va_P (dC, dI) vwCl (WM q cI cJ cZ kc kd kn kp ka kt ku kr cn xs ys x2 y2 my tl po so st nr co rg re) H) (A := AF q 15 s.heap.size) (fun H locs hP hS => ?_) hP
  unfold wX5_isBox at h
  refine lv_aload_n hx hb dX5_isBox_0 rfl (lv_at hl 0 rfl) ?_
  refine lv_iload_n hx hb dX5_isBox_1 rfl (lv_at hl 1 rfl) ?_
  refine cl_i (va_runV (As := [.int v1]) (rest := []) ⟨hx, hb, hml, hown, hts⟩ (ktX5_isShape l dC dI q cI cJ cZ H.size kc kd kn kp ka kt ku kr cn xs ys x2 y2 my tl po so st nr co rg re v1 h) (cwV 1 hts gX5_isBox_X5_isShape rfl rfl rfl (by decide +kernel) ⟨Nat.le_of_ble_eq_true rfl, Nat.le_of_ble_eq_true rfl⟩) ⟨wd.blind, va_recv hK hP (ci := 5) (q0 := 0) rfl rfl, fun U hU hW => ⟨rfl, wd.at hP hK ha hN hU hW⟩⟩ rfl rfl hl.1 rfl (lv_room (Nat.le_of_ble_eq_true rfl)) dX5_isBox_2 ⟨Nat.le_of_ble_eq_true rfl, Nat.le_of_ble_eq_true rfl⟩) hS (fun r1 _ H locs h hP hS => ?_)
  have hP : va_P (dC, dI) vwCl (WM q cI cJ cZ kc kd kn kp ka kt ku kr cn xs ys x2 y2 my tl po so st nr co rg re) H := hP
  refine lv_if_eq (tgt := 30) hx hb dX5_isBox_5 (by decide) (fun c3 => ?_) (fun c3 => ?_)
  · have h := h.1 c3
    refine lv_iconst (v := 0) hx hb dX5_isBox_30 (by decide) ?_
    exact rt_z () hx hb hr hlk (by decide) h (fun t ht => by rw [ht]; exact hP) hS dX5_isBox_31
  · have h := h.2 c3
    refine lv_iload_n hx hb dX5_isBox_8 rfl (lv_at hl 2 rfl) ?_
    refine lv_i2l hx hb dX5_isBox_9 rfl ?_
    refine lv_lconst (v := 0) hx hb dX5_isBox_10 (by decide) ?_
    refine lv_aload_n hx hb dX5_isBox_11 rfl (lv_at hl 0 rfl) ?_
    refine va_get (D := (dC, dI)) (ci := 5) (v := .ref (q 1)) (C := RX5) (T := TX5) (N := 22) hx hb hts iwX5_isBox_X5 hown hK hP 0 rfl rfl 3 (by decide) (hts _ fwX5_isBox_13) (fun _ h9 => h9) rfl dX5_isBox_12 ?_
    refine lv_iload_n hx hb dX5_isBox_15 rfl (lv_at hl 1 rfl) ?_
    obtain ⟨b4, h⟩ := h
    refine va_iald (D := (dC, dI)) hx hb hK hP 1 0 rfl rfl b4 dX5_isBox_16 ?_
    refine lv_iconst (v := 1) hx hb dX5_isBox_17 (by decide) ?_
    refine lv_isub hx hb dX5_isBox_18 ?_
    refine lv_i2l hx hb dX5_isBox_19 rfl ?_
    refine cl_pi (va_runS (As := [.long v2.toInt64, .long 0, .long ((((cn v1.toNatClampNeg) - 1) : Int32).toInt64)]) (rest := []) ⟨hx, hb, hml, hown, hts⟩ (ktX5_isIn l H.size v2.toInt64 0 ((((cn v1.toNatClampNeg) - 1) : Int32).toInt64) h) (va_cwS 3 hts gX5_isBox_X5_isIn rfl rfl rfl (by decide +kernel) ⟨Nat.le_of_ble_eq_true rfl, Nat.le_of_ble_eq_true rfl⟩) ⟨pz.blind, fun U hU _ => ⟨rfl, pz.at hU⟩⟩ rfl rfl hl.1 rfl (lv_room (Nat.le_of_ble_eq_true rfl)) dX5_isBox_20 ⟨Nat.le_of_ble_eq_true rfl, Nat.le_of_ble_eq_true rfl⟩) hP hS (fun r5 _ H locs h hP hS => ?_)
    refine lv_if_eq (tgt := 30) hx hb dX5_isBox_23 (by decide) (fun c7 => ?_) (fun c7 => ?_)
    · have h := h.1 c7
      refine lv_iconst (v := 0) hx hb dX5_isBox_30 (by decide) ?_
      exact rt_z () hx hb hr hlk (by decide) h (fun t ht => by rw [ht]; exact hP) hS dX5_isBox_31
    · have h := h.2 c7
      refine lv_iconst (v := 1) hx hb dX5_isBox_26 (by decide) ?_
      refine lv_goto (tgt := 31) hx hb dX5_isBox_27 (by decide) ?_
      exact rt_z () hx hb hr hlk (by decide) h (fun t ht => by rw [ht]; exact hP) hS dX5_isBox_31

theorem fwX5_forget_49 : Cond.fieldLink RX5 49 "MaskPartsModel" "answer" "I" ∈ wsX5_forget := by decide +kernel
set_option maxRecDepth 20000 in
theorem iwX5_forget_X5 : ∀ w ∈ wsX50, w ∈ wsX5_forget := by decide +kernel
theorem fwX5_forget_75 : Cond.fieldLink RX5 75 "MaskPartsModel" "steps" "I" ∈ wsX5_forget := by decide +kernel
abbrev QX5_forget (dC : Nat → ClassId) (dI : Nat → Nat → Nat) (cI cJ cZ : ClassId) (q : Nat → Nat) (sz : Nat) (kc : Int32) (kd : Int32) (kn : Int32) (kp : Int32) (ku : Int32) (kr : Int32) (cn : (Nat → Int32)) (xs : (Nat → Int32)) (ys : (Nat → Int32)) (x2 : (Nat → Int32)) (y2 : (Nat → Int32)) (my : (Nat → Int32)) (tl : (Nat → Int32)) (po : (Nat → Int32)) (so : (Nat → Int32)) (st : (Nat → Int32)) (nr : (Nat → Int64)) (co : (Nat → Int32)) (rg : (Nat → Int32)) (re : (Nat → Int64)) (K : (Int32 × Int32) → Prop) : Array Value → State → Outcome → State → Prop := va_Qv (fun (u : Int32 × Int32) => K u) (fun (u : Int32 × Int32) t => va_P (dC, dI) vwCl (WM q cI cJ cZ kc kd kn kp u.1 u.2 ku kr cn xs ys x2 y2 my tl po so st nr co rg re) t.heap) (AF q 15 sz)
def wX5_forget (ka : Int32) (kt : Int32)  (K : (Int32 × Int32) → Prop) : Prop := K ((-1), 0)
set_option maxHeartbeats 4000000 in
set_option maxRecDepth 100000 in
theorem ktX5_forget (l : Launch) (dC : Nat → ClassId) (dI : Nat → Nat → Nat) (q : Nat → Nat) (cI cJ cZ : ClassId) (sz : Nat) (kc : Int32) (kd : Int32) (kn : Int32) (kp : Int32) (ka : Int32) (kt : Int32) (ku : Int32) (kr : Int32) (cn : (Nat → Int32)) (xs : (Nat → Int32)) (ys : (Nat → Int32)) (x2 : (Nat → Int32)) (y2 : (Nat → Int32)) (my : (Nat → Int32)) (tl : (Nat → Int32)) (po : (Nat → Int32)) (so : (Nat → Int32)) (st : (Nat → Int32)) (nr : (Nat → Int64)) (co : (Nat → Int32)) (rg : (Nat → Int32)) (re : (Nat → Int64))  {K : (Int32 × Int32) → Prop} (h : wX5_forget ka kt K) : Met l yX5_forget wsX5_forget { frames := 0, cells := 0, slots := 0, locals := 0 } (va_Pc [.ref (q 0)] (wd dC dI cI cJ cZ q 15 sz (WM q cI cJ cZ kc kd kn kp ka kt ku kr cn xs ys x2 y2 my tl po so st nr co rg re))) (QX5_forget dC dI cI cJ cZ q sz kc kd kn kp ku kr cn xs ys x2 y2 my tl po so st nr co rg re K) 0 0 (AF q 15 sz) := by
  refine met_of [.ref (q 0)] (by decide +kernel) rfl (Nat.le_of_ble_eq_true rfl) ?_
  intro p e s m below meth c ls hsz C hK ha hN hl hP
  subst hsz
  obtain ⟨hx, hb, hr, hml, hown, hts, hlk⟩ := id C
  have hl : lv_has ls 1 [(0, .ref (q 0))] := hl
  refine w_go (Pw := fun H => va_P (dC, dI) vwCl (WM q cI cJ cZ kc kd kn kp ka kt ku kr cn xs ys x2 y2 my tl po so st nr co rg re) H) (A := AF q 15 s.heap.size) (fun H locs hP hS => ?_) hP
  unfold wX5_forget at h
  refine lv_aload_n hx hb dX5_forget_0 rfl (lv_at hl 0 rfl) ?_
  refine lv_iconst (v := (-1)) hx hb dX5_forget_1 (by decide) ?_
  refine va_put (D := (dC, dI)) (ci := 5) (v := .int (-1)) (ty := .int) (C := RX5) (T := TX5) (N := 22) hx hb hts iwX5_forget_X5 tyX5 tyX5_ok nmX5 hown hK hP (d_WM ha) hS 0 rfl rfl 15 (by decide) (hts _ fwX5_forget_49) (fun _ h9 => h9) rfl (by decide +kernel) rfl rfl (Nat.le_of_ble_eq_true rfl) dX5_forget_2 (fun H locs hP _ hS => ?_)
  have hP : va_P (dC, dI) vwCl (WM q cI cJ cZ kc kd kn kp (-1) kt ku kr cn xs ys x2 y2 my tl po so st nr co rg re) H := hP
  refine lv_aload_n hx hb dX5_forget_5 rfl (lv_at hl 0 rfl) ?_
  refine lv_iconst (v := 0) hx hb dX5_forget_6 (by decide) ?_
  refine va_put (D := (dC, dI)) (ci := 5) (v := .int 0) (ty := .int) (C := RX5) (T := TX5) (N := 22) hx hb hts iwX5_forget_X5 tyX5 tyX5_ok nmX5 hown hK hP (d_WM ha) hS 0 rfl rfl 16 (by decide) (hts _ fwX5_forget_75) (fun _ h9 => h9) rfl (by decide +kernel) rfl rfl (Nat.le_of_ble_eq_true rfl) dX5_forget_7 (fun H locs hP _ hS => ?_)
  have hP : va_P (dC, dI) vwCl (WM q cI cJ cZ kc kd kn kp (-1) 0 ku kr cn xs ys x2 y2 my tl po so st nr co rg re) H := hP
  exact rt_v ((-1), 0) hx hb hr hlk h (fun t ht => by rw [ht]; exact hP) hS dX5_forget_10

theorem fwX5_distance_61 : Cond.fieldLink RX5 61 "MaskPartsModel" "code" "I" ∈ wsX5_distance := by decide +kernel
set_option maxRecDepth 20000 in
theorem iwX5_distance_X5 : ∀ w ∈ wsX50, w ∈ wsX5_distance := by decide +kernel
theorem fwX5_distance_7 : Cond.fieldLink RX5 7 "MaskPartsModel" "distance" "I" ∈ wsX5_distance := by decide +kernel
theorem cwX5_distance_78 : Cond.constantLong RX5 78 (1000) ∈ wsX5_distance := by decide +kernel
abbrev QX5_distance (dC : Nat → ClassId) (dI : Nat → Nat → Nat) (cI cJ cZ : ClassId) (q : Nat → Nat) (sz : Nat) (kn : Int32) (kp : Int32) (ku : Int32) (kr : Int32) (cn : (Nat → Int32)) (xs : (Nat → Int32)) (ys : (Nat → Int32)) (x2 : (Nat → Int32)) (y2 : (Nat → Int32)) (my : (Nat → Int32)) (tl : (Nat → Int32)) (po : (Nat → Int32)) (so : (Nat → Int32)) (st : (Nat → Int32)) (nr : (Nat → Int64)) (co : (Nat → Int32)) (rg : (Nat → Int32)) (re : (Nat → Int64)) (K : Int32 → (Int32 × Int32 × Int32 × Int32) → Prop) : Array Value → State → Outcome → State → Prop := va_Qi (fun (r : Int32) (u : Int32 × Int32 × Int32 × Int32) => K r u) (fun (u : Int32 × Int32 × Int32 × Int32) t => va_P (dC, dI) vwCl (WM q cI cJ cZ u.1 u.2.1 kn kp u.2.2.1 u.2.2.2 ku kr cn xs ys x2 y2 my tl po so st nr co rg re) t.heap) (AF q 15 sz)
def bkX5_distance_18 (K : Int32 → (Int32 × Int32 × Int32 × Int32) → Prop) (kc : Int32) (kd : Int32) (ka : Int32) (kt : Int32) (v1 : Int32) (s1 : Int32) : Prop := ((s1 ≤ 0 → (wX5_forget ka kt  (fun (u3 : Int32 × Int32) => K kd (s1, v1, u3.1, u3.2)))) ∧ (¬ (s1 ≤ 0) → K 0 (s1, kd, ka, kt)))
set_option maxHeartbeats 4000000 in
set_option maxRecDepth 100000 in
theorem mX5_distance_18 {p : Program} {l : Launch} {e : Env} {s : State} {m : MethodId} {av : Array Value} {below : List Frame} {meth : Method} {c : Code} {dC : Nat → ClassId} {dI : Nat → Nat → Nat} {cI cJ cZ : ClassId} {q : Nat → Nat} {K : Int32 → (Int32 × Int32 × Int32 × Int32) → Prop} (kn : Int32) (kp : Int32) (ku : Int32) (kr : Int32) (cn : (Nat → Int32)) (xs : (Nat → Int32)) (ys : (Nat → Int32)) (x2 : (Nat → Int32)) (y2 : (Nat → Int32)) (my : (Nat → Int32)) (tl : (Nat → Int32)) (po : (Nat → Int32)) (so : (Nat → Int32)) (st : (Nat → Int32)) (nr : (Nat → Int64)) (co : (Nat → Int32)) (rg : (Nat → Int32)) (re : (Nat → Int64)) (C : CX p s m av meth c cX5_distance 3 (some .int) RX5 wsX5_distance) (hK : va_K (dC, dI) vwCl (TY cI cJ cZ) s) (ha : apart q 15) (hN : NX s)  : ∀ (kc : Int32) (kd : Int32) (ka : Int32) (kt : Int32) (v1 : Int32) (s1 : Int32) (ls : Array Slot) (H : Heap) (locs : List Loc), bkX5_distance_18 K kc kd ka kt v1 s1 → lv_has ls 3 [(0, .ref (q 0)), (1, .int v1)] → va_P (dC, dI) vwCl (WM q cI cJ cZ kc kd kn kp ka kt ku kr cn xs ys x2 y2 my tl po so st nr co rg re) H → va_S (AF q 15 s.heap.size) s.heap H locs → W p l e { frames := 1, cells := 0, slots := 0, locals := 25 } s m av below meth c H locs 0 0 (MQ below (QX5_distance dC dI cI cJ cZ q s.heap.size kn kp ku kr cn xs ys x2 y2 my tl po so st nr co rg re K) av s 0 0 (AF q 15 s.heap.size)) (F0 m 18 ls [.int s1, .ref (q 0)]) := by
  obtain ⟨hx, hb, hr, hml, hown, hts, hlk⟩ := id C
  intro kc kd ka kt v1 s1 ls H locs h hl hP hS
  unfold bkX5_distance_18 at h
  refine va_put (D := (dC, dI)) (ci := 5) (v := .int s1) (ty := .int) (C := RX5) (T := TX5) (N := 22) hx hb hts iwX5_distance_X5 tyX5 tyX5_ok nmX5 hown hK hP (d_WM ha) hS 0 rfl rfl 0 (by decide) (hts _ fwX5_distance_61) (fun _ h9 => h9) rfl (by decide +kernel) rfl rfl (Nat.le_of_ble_eq_true rfl) dX5_distance_18 (fun H locs hP _ hS => ?_)
  have hP : va_P (dC, dI) vwCl (WM q cI cJ cZ s1 kd kn kp ka kt ku kr cn xs ys x2 y2 my tl po so st nr co rg re) H := hP
  refine lv_aload_n hx hb dX5_distance_21 rfl (lv_at hl 0 rfl) ?_
  refine va_get (D := (dC, dI)) (ci := 5) (v := .int s1) (C := RX5) (T := TX5) (N := 22) hx hb hts iwX5_distance_X5 hown hK hP 0 rfl rfl 0 (by decide) (hts _ fwX5_distance_61) (fun _ h9 => h9) rfl dX5_distance_22 ?_
  refine lv_if_le (tgt := 30) hx hb dX5_distance_25 (by decide) (fun c1 => ?_) (fun c1 => ?_)
  · have h := h.1 c1
    refine lv_aload_n hx hb dX5_distance_30 rfl (lv_at hl 0 rfl) ?_
    refine va_get (D := (dC, dI)) (ci := 5) (v := .int kd) (C := RX5) (T := TX5) (N := 22) hx hb hts iwX5_distance_X5 hown hK hP 0 rfl rfl 1 (by decide) (hts _ fwX5_distance_7) (fun _ h9 => h9) rfl dX5_distance_31 ?_
    refine lv_istore_n (lv' := [(2, .int kd), (0, .ref (q 0)), (1, .int v1)]) hx hb dX5_distance_34 rfl hl (by decide) rfl (fun ls hl => ?_)
    refine lv_aload_n hx hb dX5_distance_35 rfl (lv_at hl 1 rfl) ?_
    refine lv_iload_n hx hb dX5_distance_36 rfl (lv_at hl 2 rfl) ?_
    refine va_put (D := (dC, dI)) (ci := 5) (v := .int v1) (ty := .int) (C := RX5) (T := TX5) (N := 22) hx hb hts iwX5_distance_X5 tyX5 tyX5_ok nmX5 hown hK hP (d_WM ha) hS 0 rfl rfl 1 (by decide) (hts _ fwX5_distance_7) (fun _ h9 => h9) rfl (by decide +kernel) rfl rfl (Nat.le_of_ble_eq_true rfl) dX5_distance_37 (fun H locs hP _ hS => ?_)
    have hP : va_P (dC, dI) vwCl (WM q cI cJ cZ s1 v1 kn kp ka kt ku kr cn xs ys x2 y2 my tl po so st nr co rg re) H := hP
    refine lv_aload_n hx hb dX5_distance_40 rfl (lv_at hl 1 rfl) ?_
    refine cl_v (va_runV (As := []) (rest := []) ⟨hx, hb, hml, hown, hts⟩ (ktX5_forget l dC dI q cI cJ cZ H.size s1 v1 kn kp ka kt ku kr cn xs ys x2 y2 my tl po so st nr co rg re  h) (cwV 0 hts gX5_distance_X5_forget rfl rfl rfl (by decide +kernel) ⟨Nat.le_of_ble_eq_true rfl, Nat.le_of_ble_eq_true rfl⟩) ⟨wd.blind, va_recv hK hP (ci := 5) (q0 := 0) rfl rfl, fun U hU hW => ⟨rfl, wd.at hP hK ha hN hU hW⟩⟩ rfl rfl hl.1 rfl (lv_room (Nat.le_of_ble_eq_true rfl)) dX5_distance_41 ⟨Nat.le_of_ble_eq_true rfl, Nat.le_of_ble_eq_true rfl⟩) hS (fun u3 H locs h hP hS => ?_)
    have hP : va_P (dC, dI) vwCl (WM q cI cJ cZ s1 v1 kn kp u3.1 u3.2 ku kr cn xs ys x2 y2 my tl po so st nr co rg re) H := hP
    refine lv_iload_n hx hb dX5_distance_44 rfl (lv_at hl 0 rfl) ?_
    exact rt_i (s1, v1, u3.1, u3.2) hx hb hr hlk h (fun t ht => by rw [ht]; exact hP) hS dX5_distance_45
  · have h := h.2 c1
    refine lv_iconst (v := 0) hx hb dX5_distance_28 (by decide) ?_
    exact rt_i (s1, kd, ka, kt) hx hb hr hlk h (fun t ht => by rw [ht]; exact hP) hS dX5_distance_29
def wX5_distance (kc : Int32) (kd : Int32) (ka : Int32) (kt : Int32) (v1 : Int32) (K : Int32 → (Int32 × Int32 × Int32 × Int32) → Prop) : Prop := (wX5_isIn v1.toInt64 1 1000 (fun r4 : Int32 => ((r4 = 0 → bkX5_distance_18 K kc kd ka kt v1 1) ∧ (¬ (r4 = 0) → bkX5_distance_18 K kc kd ka kt v1 0))))
set_option maxHeartbeats 4000000 in
set_option maxRecDepth 100000 in
theorem ktX5_distance (l : Launch) (dC : Nat → ClassId) (dI : Nat → Nat → Nat) (q : Nat → Nat) (cI cJ cZ : ClassId) (sz : Nat) (kc : Int32) (kd : Int32) (kn : Int32) (kp : Int32) (ka : Int32) (kt : Int32) (ku : Int32) (kr : Int32) (cn : (Nat → Int32)) (xs : (Nat → Int32)) (ys : (Nat → Int32)) (x2 : (Nat → Int32)) (y2 : (Nat → Int32)) (my : (Nat → Int32)) (tl : (Nat → Int32)) (po : (Nat → Int32)) (so : (Nat → Int32)) (st : (Nat → Int32)) (nr : (Nat → Int64)) (co : (Nat → Int32)) (rg : (Nat → Int32)) (re : (Nat → Int64)) (v1 : Int32) {K : Int32 → (Int32 × Int32 × Int32 × Int32) → Prop} (h : wX5_distance kc kd ka kt v1 K) : Met l yX5_distance wsX5_distance { frames := 1, cells := 0, slots := 0, locals := 25 } (va_Pc [.ref (q 0), .int v1] (wd dC dI cI cJ cZ q 15 sz (WM q cI cJ cZ kc kd kn kp ka kt ku kr cn xs ys x2 y2 my tl po so st nr co rg re))) (QX5_distance dC dI cI cJ cZ q sz kn kp ku kr cn xs ys x2 y2 my tl po so st nr co rg re K) 0 0 (AF q 15 sz) := by
  refine met_of [.ref (q 0), .int v1] (by decide +kernel) rfl (Nat.le_of_ble_eq_true rfl) ?_
  intro p e s m below meth c ls hsz C hK ha hN hl hP
  subst hsz
  obtain ⟨hx, hb, hr, hml, hown, hts, hlk⟩ := id C
  have hl : lv_has ls 3 [(0, .ref (q 0)), (1, .int v1)] := hl
  refine w_go (Pw := fun H => va_P (dC, dI) vwCl (WM q cI cJ cZ kc kd kn kp ka kt ku kr cn xs ys x2 y2 my tl po so st nr co rg re) H) (A := AF q 15 s.heap.size) (fun H locs hP hS => ?_) hP
  unfold wX5_distance at h
  refine lv_aload_n hx hb dX5_distance_0 rfl (lv_at hl 0 rfl) ?_
  refine lv_iload_n hx hb dX5_distance_1 rfl (lv_at hl 1 rfl) ?_
  refine lv_i2l hx hb dX5_distance_2 rfl ?_
  refine lv_lconst (v := 1) hx hb dX5_distance_3 (by decide) ?_
  refine lv_ldc2 (v := 1000) hx hb hown (hts _ cwX5_distance_78) dX5_distance_4 ?_
  refine cl_pi (va_runS (As := [.long v1.toInt64, .long 1, .long 1000]) (rest := [.ref (q 0)]) ⟨hx, hb, hml, hown, hts⟩ (ktX5_isIn l H.size v1.toInt64 1 1000 h) (va_cwS 3 hts gX5_distance_X5_isIn rfl rfl rfl (by decide +kernel) ⟨Nat.le_of_ble_eq_true rfl, Nat.le_of_ble_eq_true rfl⟩) ⟨pz.blind, fun U hU _ => ⟨rfl, pz.at hU⟩⟩ rfl rfl hl.1 rfl (lv_room (Nat.le_of_ble_eq_true rfl)) dX5_distance_7 ⟨Nat.le_of_ble_eq_true rfl, Nat.le_of_ble_eq_true rfl⟩) hP hS (fun r4 _ H locs h hP hS => ?_)
  refine lv_if_eq (tgt := 17) hx hb dX5_distance_10 (by decide) (fun c6 => ?_) (fun c6 => ?_)
  · have h := h.1 c6
    refine lv_iconst (v := 1) hx hb dX5_distance_17 (by decide) ?_
    exact mX5_distance_18 kn kp ku kr cn xs ys x2 y2 my tl po so st nr co rg re C hK ha hN  kc kd ka kt v1 1 ls H locs h (lv_sub hl [0, 1] rfl) hP hS
  · have h := h.2 c6
    refine lv_iconst (v := 0) hx hb dX5_distance_13 (by decide) ?_
    refine lv_goto (tgt := 18) hx hb dX5_distance_14 (by decide) ?_
    exact mX5_distance_18 kn kp ku kr cn xs ys x2 y2 my tl po so st nr co rg re C hK ha hN  kc kd ka kt v1 0 ls H locs h (lv_sub hl [0, 1] rfl) hP hS

theorem fwX5_shape_61 : Cond.fieldLink RX5 61 "MaskPartsModel" "code" "I" ∈ wsX5_shape := by decide +kernel
set_option maxRecDepth 20000 in
theorem iwX5_shape_X5 : ∀ w ∈ wsX50, w ∈ wsX5_shape := by decide +kernel
theorem fwX5_shape_13 : Cond.fieldLink RX5 13 "MaskPartsModel" "counts" "[I" ∈ wsX5_shape := by decide +kernel
theorem fwX5_shape_64 : Cond.fieldLink RX5 64 "MaskPartsModel" "shapes" "I" ∈ wsX5_shape := by decide +kernel
abbrev QX5_shape (dC : Nat → ClassId) (dI : Nat → Nat → Nat) (cI cJ cZ : ClassId) (q : Nat → Nat) (sz : Nat) (kd : Int32) (kp : Int32) (ku : Int32) (kr : Int32) (xs : (Nat → Int32)) (ys : (Nat → Int32)) (x2 : (Nat → Int32)) (y2 : (Nat → Int32)) (my : (Nat → Int32)) (tl : (Nat → Int32)) (po : (Nat → Int32)) (so : (Nat → Int32)) (st : (Nat → Int32)) (nr : (Nat → Int64)) (co : (Nat → Int32)) (rg : (Nat → Int32)) (re : (Nat → Int64)) (K : Int32 → (Int32 × Int32 × Int32 × Int32 × (Nat → Int32)) → Prop) : Array Value → State → Outcome → State → Prop := va_Qi (fun (r : Int32) (u : Int32 × Int32 × Int32 × Int32 × (Nat → Int32)) => K r u) (fun (u : Int32 × Int32 × Int32 × Int32 × (Nat → Int32)) t => va_P (dC, dI) vwCl (WM q cI cJ cZ u.1 kd u.2.1 kp u.2.2.1 u.2.2.2.1 ku kr u.2.2.2.2 xs ys x2 y2 my tl po so st nr co rg re) t.heap) (AF q 15 sz)
def bkX5_shape_15 (K : Int32 → (Int32 × Int32 × Int32 × Int32 × (Nat → Int32)) → Prop) (kc : Int32) (kn : Int32) (ka : Int32) (kt : Int32) (cn : (Nat → Int32)) (s1 : Int32) : Prop := ((s1 ≤ 0 → (vp_in kn 10 ∧ (∀ f3 : (Nat → Int32), f3 = upd cn kn.toNatClampNeg 0 → (∀ i4 : Int32, i4 = (kn + 1) → (wX5_forget ka kt  (fun (u6 : Int32 × Int32) => K ((i4 - 1)) (s1, i4, u6.1, u6.2, f3))))))) ∧ (¬ (s1 ≤ 0) → K 0 (s1, kn, ka, kt, cn)))
set_option maxHeartbeats 4000000 in
set_option maxRecDepth 100000 in
theorem mX5_shape_15 {p : Program} {l : Launch} {e : Env} {s : State} {m : MethodId} {av : Array Value} {below : List Frame} {meth : Method} {c : Code} {dC : Nat → ClassId} {dI : Nat → Nat → Nat} {cI cJ cZ : ClassId} {q : Nat → Nat} {K : Int32 → (Int32 × Int32 × Int32 × Int32 × (Nat → Int32)) → Prop} (kd : Int32) (kp : Int32) (ku : Int32) (kr : Int32) (xs : (Nat → Int32)) (ys : (Nat → Int32)) (x2 : (Nat → Int32)) (y2 : (Nat → Int32)) (my : (Nat → Int32)) (tl : (Nat → Int32)) (po : (Nat → Int32)) (so : (Nat → Int32)) (st : (Nat → Int32)) (nr : (Nat → Int64)) (co : (Nat → Int32)) (rg : (Nat → Int32)) (re : (Nat → Int64)) (C : CX p s m av meth c cX5_shape 1 (some .int) RX5 wsX5_shape) (hK : va_K (dC, dI) vwCl (TY cI cJ cZ) s) (ha : apart q 15) (hN : NX s)  : ∀ (kc : Int32) (kn : Int32) (ka : Int32) (kt : Int32) (cn : (Nat → Int32)) (s1 : Int32) (ls : Array Slot) (H : Heap) (locs : List Loc), bkX5_shape_15 K kc kn ka kt cn s1 → lv_has ls 1 [(0, .ref (q 0))] → va_P (dC, dI) vwCl (WM q cI cJ cZ kc kd kn kp ka kt ku kr cn xs ys x2 y2 my tl po so st nr co rg re) H → va_S (AF q 15 s.heap.size) s.heap H locs → W p l e { frames := 1, cells := 0, slots := 0, locals := 20 } s m av below meth c H locs 0 0 (MQ below (QX5_shape dC dI cI cJ cZ q s.heap.size kd kp ku kr xs ys x2 y2 my tl po so st nr co rg re K) av s 0 0 (AF q 15 s.heap.size)) (F0 m 15 ls [.int s1, .ref (q 0)]) := by
  obtain ⟨hx, hb, hr, hml, hown, hts, hlk⟩ := id C
  intro kc kn ka kt cn s1 ls H locs h hl hP hS
  unfold bkX5_shape_15 at h
  refine va_put (D := (dC, dI)) (ci := 5) (v := .int s1) (ty := .int) (C := RX5) (T := TX5) (N := 22) hx hb hts iwX5_shape_X5 tyX5 tyX5_ok nmX5 hown hK hP (d_WM ha) hS 0 rfl rfl 0 (by decide) (hts _ fwX5_shape_61) (fun _ h9 => h9) rfl (by decide +kernel) rfl rfl (Nat.le_of_ble_eq_true rfl) dX5_shape_15 (fun H locs hP _ hS => ?_)
  have hP : va_P (dC, dI) vwCl (WM q cI cJ cZ s1 kd kn kp ka kt ku kr cn xs ys x2 y2 my tl po so st nr co rg re) H := hP
  refine lv_aload_n hx hb dX5_shape_18 rfl (lv_at hl 0 rfl) ?_
  refine va_get (D := (dC, dI)) (ci := 5) (v := .int s1) (C := RX5) (T := TX5) (N := 22) hx hb hts iwX5_shape_X5 hown hK hP 0 rfl rfl 0 (by decide) (hts _ fwX5_shape_61) (fun _ h9 => h9) rfl dX5_shape_19 ?_
  refine lv_if_le (tgt := 27) hx hb dX5_shape_22 (by decide) (fun c1 => ?_) (fun c1 => ?_)
  · have h := h.1 c1
    refine lv_aload_n hx hb dX5_shape_27 rfl (lv_at hl 0 rfl) ?_
    refine va_get (D := (dC, dI)) (ci := 5) (v := .ref (q 1)) (C := RX5) (T := TX5) (N := 22) hx hb hts iwX5_shape_X5 hown hK hP 0 rfl rfl 3 (by decide) (hts _ fwX5_shape_13) (fun _ h9 => h9) rfl dX5_shape_28 ?_
    refine lv_aload_n hx hb dX5_shape_31 rfl (lv_at hl 0 rfl) ?_
    refine va_get (D := (dC, dI)) (ci := 5) (v := .int kn) (C := RX5) (T := TX5) (N := 22) hx hb hts iwX5_shape_X5 hown hK hP 0 rfl rfl 2 (by decide) (hts _ fwX5_shape_64) (fun _ h9 => h9) rfl dX5_shape_32 ?_
    refine lv_iconst (v := 0) hx hb dX5_shape_35 (by decide) ?_
    obtain ⟨b2, h⟩ := h
    refine va_iast (D := (dC, dI)) hx hb hK hP (d_WM ha) hS 1 0 rfl rfl b2 dX5_shape_36 (fun H locs hP _ hS => ?_)
    obtain ⟨f3, ef3⟩ : ∃ z : (Nat → Int32), z = upd cn kn.toNatClampNeg 0 := ⟨_, rfl⟩
    have h := h f3 ef3
    have hP : va_P (dC, dI) vwCl (WM q cI cJ cZ s1 kd kn kp ka kt ku kr f3 xs ys x2 y2 my tl po so st nr co rg re) H := by rw [ef3]; exact hP
    refine lv_aload_n hx hb dX5_shape_37 rfl (lv_at hl 0 rfl) ?_
    refine lv_dup hx hb dX5_shape_38 rfl ?_
    refine va_get (D := (dC, dI)) (ci := 5) (v := .int kn) (C := RX5) (T := TX5) (N := 22) hx hb hts iwX5_shape_X5 hown hK hP 0 rfl rfl 2 (by decide) (hts _ fwX5_shape_64) (fun _ h9 => h9) rfl dX5_shape_39 ?_
    refine lv_iconst (v := 1) hx hb dX5_shape_42 (by decide) ?_
    refine lv_iadd hx hb dX5_shape_43 ?_
    refine lv_topi (fun i4 ei4 => ?_)
    have h := h i4 ei4
    refine va_put (D := (dC, dI)) (ci := 5) (v := .int i4) (ty := .int) (C := RX5) (T := TX5) (N := 22) hx hb hts iwX5_shape_X5 tyX5 tyX5_ok nmX5 hown hK hP (d_WM ha) hS 0 rfl rfl 2 (by decide) (hts _ fwX5_shape_64) (fun _ h9 => h9) rfl (by decide +kernel) rfl rfl (Nat.le_of_ble_eq_true rfl) dX5_shape_44 (fun H locs hP _ hS => ?_)
    have hP : va_P (dC, dI) vwCl (WM q cI cJ cZ s1 kd i4 kp ka kt ku kr f3 xs ys x2 y2 my tl po so st nr co rg re) H := hP
    refine lv_aload_n hx hb dX5_shape_47 rfl (lv_at hl 0 rfl) ?_
    refine cl_v (va_runV (As := []) (rest := []) ⟨hx, hb, hml, hown, hts⟩ (ktX5_forget l dC dI q cI cJ cZ H.size s1 kd i4 kp ka kt ku kr f3 xs ys x2 y2 my tl po so st nr co rg re  h) (cwV 0 hts gX5_shape_X5_forget rfl rfl rfl (by decide +kernel) ⟨Nat.le_of_ble_eq_true rfl, Nat.le_of_ble_eq_true rfl⟩) ⟨wd.blind, va_recv hK hP (ci := 5) (q0 := 0) rfl rfl, fun U hU hW => ⟨rfl, wd.at hP hK ha hN hU hW⟩⟩ rfl rfl hl.1 rfl (lv_room (Nat.le_of_ble_eq_true rfl)) dX5_shape_48 ⟨Nat.le_of_ble_eq_true rfl, Nat.le_of_ble_eq_true rfl⟩) hS (fun u6 H locs h hP hS => ?_)
    have hP : va_P (dC, dI) vwCl (WM q cI cJ cZ s1 kd i4 kp u6.1 u6.2 ku kr f3 xs ys x2 y2 my tl po so st nr co rg re) H := hP
    refine lv_aload_n hx hb dX5_shape_51 rfl (lv_at hl 0 rfl) ?_
    refine va_get (D := (dC, dI)) (ci := 5) (v := .int i4) (C := RX5) (T := TX5) (N := 22) hx hb hts iwX5_shape_X5 hown hK hP 0 rfl rfl 2 (by decide) (hts _ fwX5_shape_64) (fun _ h9 => h9) rfl dX5_shape_52 ?_
    refine lv_iconst (v := 1) hx hb dX5_shape_55 (by decide) ?_
    refine lv_isub hx hb dX5_shape_56 ?_
    exact rt_i (s1, i4, u6.1, u6.2, f3) hx hb hr hlk h (fun t ht => by rw [ht]; exact hP) hS dX5_shape_57
  · have h := h.2 c1
    refine lv_iconst (v := 0) hx hb dX5_shape_25 (by decide) ?_
    exact rt_i (s1, kn, ka, kt, cn) hx hb hr hlk h (fun t ht => by rw [ht]; exact hP) hS dX5_shape_26
def wX5_shape (kc : Int32) (kn : Int32) (ka : Int32) (kt : Int32) (cn : (Nat → Int32))  (K : Int32 → (Int32 × Int32 × Int32 × Int32 × (Nat → Int32)) → Prop) : Prop := ((¬ kn = 10 → bkX5_shape_15 K kc kn ka kt cn 0) ∧ (kn = 10 → bkX5_shape_15 K kc kn ka kt cn 1))
set_option maxHeartbeats 4000000 in
set_option maxRecDepth 100000 in
theorem ktX5_shape (l : Launch) (dC : Nat → ClassId) (dI : Nat → Nat → Nat) (q : Nat → Nat) (cI cJ cZ : ClassId) (sz : Nat) (kc : Int32) (kd : Int32) (kn : Int32) (kp : Int32) (ka : Int32) (kt : Int32) (ku : Int32) (kr : Int32) (cn : (Nat → Int32)) (xs : (Nat → Int32)) (ys : (Nat → Int32)) (x2 : (Nat → Int32)) (y2 : (Nat → Int32)) (my : (Nat → Int32)) (tl : (Nat → Int32)) (po : (Nat → Int32)) (so : (Nat → Int32)) (st : (Nat → Int32)) (nr : (Nat → Int64)) (co : (Nat → Int32)) (rg : (Nat → Int32)) (re : (Nat → Int64))  {K : Int32 → (Int32 × Int32 × Int32 × Int32 × (Nat → Int32)) → Prop} (h : wX5_shape kc kn ka kt cn K) : Met l yX5_shape wsX5_shape { frames := 1, cells := 0, slots := 0, locals := 20 } (va_Pc [.ref (q 0)] (wd dC dI cI cJ cZ q 15 sz (WM q cI cJ cZ kc kd kn kp ka kt ku kr cn xs ys x2 y2 my tl po so st nr co rg re))) (QX5_shape dC dI cI cJ cZ q sz kd kp ku kr xs ys x2 y2 my tl po so st nr co rg re K) 0 0 (AF q 15 sz) := by
  refine met_of [.ref (q 0)] (by decide +kernel) rfl (Nat.le_of_ble_eq_true rfl) ?_
  intro p e s m below meth c ls hsz C hK ha hN hl hP
  subst hsz
  obtain ⟨hx, hb, hr, hml, hown, hts, hlk⟩ := id C
  have hl : lv_has ls 1 [(0, .ref (q 0))] := hl
  refine w_go (Pw := fun H => va_P (dC, dI) vwCl (WM q cI cJ cZ kc kd kn kp ka kt ku kr cn xs ys x2 y2 my tl po so st nr co rg re) H) (A := AF q 15 s.heap.size) (fun H locs hP hS => ?_) hP
  unfold wX5_shape at h
  refine lv_aload_n hx hb dX5_shape_0 rfl (lv_at hl 0 rfl) ?_
  refine lv_aload_n hx hb dX5_shape_1 rfl (lv_at hl 0 rfl) ?_
  refine va_get (D := (dC, dI)) (ci := 5) (v := .int kn) (C := RX5) (T := TX5) (N := 22) hx hb hts iwX5_shape_X5 hown hK hP 0 rfl rfl 2 (by decide) (hts _ fwX5_shape_64) (fun _ h9 => h9) rfl dX5_shape_2 ?_
  refine lv_bipush (v := 10) hx hb dX5_shape_5 (by decide) ?_
  refine lv_icmp_ne (tgt := 14) hx hb dX5_shape_7 (by decide) (fun c7 => ?_) (fun c7 => ?_)
  · have h := h.1 c7
    refine lv_iconst (v := 0) hx hb dX5_shape_14 (by decide) ?_
    exact mX5_shape_15 kd kp ku kr xs ys x2 y2 my tl po so st nr co rg re C hK ha hN  kc kn ka kt cn 0 ls H locs h (lv_sub hl [0] rfl) hP hS
  · have h := h.2 c7
    refine lv_iconst (v := 1) hx hb dX5_shape_10 (by decide) ?_
    refine lv_goto (tgt := 15) hx hb dX5_shape_11 (by decide) ?_
    exact mX5_shape_15 kd kp ku kr xs ys x2 y2 my tl po so st nr co rg re C hK ha hN  kc kn ka kt cn 1 ls H locs h (lv_sub hl [0] rfl) hP hS

theorem fwX5_box_61 : Cond.fieldLink RX5 61 "MaskPartsModel" "code" "I" ∈ wsX5_box := by decide +kernel
set_option maxRecDepth 20000 in
theorem iwX5_box_X5 : ∀ w ∈ wsX50, w ∈ wsX5_box := by decide +kernel
theorem fwX5_box_13 : Cond.fieldLink RX5 13 "MaskPartsModel" "counts" "[I" ∈ wsX5_box := by decide +kernel
theorem fwX5_box_17 : Cond.fieldLink RX5 17 "MaskPartsModel" "xs" "[I" ∈ wsX5_box := by decide +kernel
theorem fwX5_box_20 : Cond.fieldLink RX5 20 "MaskPartsModel" "ys" "[I" ∈ wsX5_box := by decide +kernel
theorem fwX5_box_23 : Cond.fieldLink RX5 23 "MaskPartsModel" "x2s" "[I" ∈ wsX5_box := by decide +kernel
theorem fwX5_box_26 : Cond.fieldLink RX5 26 "MaskPartsModel" "y2s" "[I" ∈ wsX5_box := by decide +kernel
theorem fwX5_box_29 : Cond.fieldLink RX5 29 "MaskPartsModel" "may" "[Z" ∈ wsX5_box := by decide +kernel
theorem fwX5_box_33 : Cond.fieldLink RX5 33 "MaskPartsModel" "told" "[I" ∈ wsX5_box := by decide +kernel
abbrev QX5_box (dC : Nat → ClassId) (dI : Nat → Nat → Nat) (cI cJ cZ : ClassId) (q : Nat → Nat) (sz : Nat) (kd : Int32) (kn : Int32) (kp : Int32) (ku : Int32) (kr : Int32) (po : (Nat → Int32)) (so : (Nat → Int32)) (st : (Nat → Int32)) (nr : (Nat → Int64)) (co : (Nat → Int32)) (rg : (Nat → Int32)) (re : (Nat → Int64)) (K : Int32 → (Int32 × Int32 × Int32 × (Nat → Int32) × (Nat → Int32) × (Nat → Int32) × (Nat → Int32) × (Nat → Int32) × (Nat → Int32) × (Nat → Int32)) → Prop) : Array Value → State → Outcome → State → Prop := va_Qi (fun (r : Int32) (u : Int32 × Int32 × Int32 × (Nat → Int32) × (Nat → Int32) × (Nat → Int32) × (Nat → Int32) × (Nat → Int32) × (Nat → Int32) × (Nat → Int32)) => K r u) (fun (u : Int32 × Int32 × Int32 × (Nat → Int32) × (Nat → Int32) × (Nat → Int32) × (Nat → Int32) × (Nat → Int32) × (Nat → Int32) × (Nat → Int32)) t => va_P (dC, dI) vwCl (WM q cI cJ cZ u.1 kd kn kp u.2.1 u.2.2.1 ku kr u.2.2.2.1 u.2.2.2.2.1 u.2.2.2.2.2.1 u.2.2.2.2.2.2.1 u.2.2.2.2.2.2.2.1 u.2.2.2.2.2.2.2.2.1 u.2.2.2.2.2.2.2.2.2 po so st nr co rg re) t.heap) (AF q 15 sz)
def bkX5_box_86 (kn : Int32) (K : Int32 → (Int32 × Int32 × Int32 × (Nat → Int32) × (Nat → Int32) × (Nat → Int32) × (Nat → Int32) × (Nat → Int32) × (Nat → Int32) × (Nat → Int32)) → Prop) (kc : Int32) (ka : Int32) (kt : Int32) (cn : (Nat → Int32)) (xs : (Nat → Int32)) (ys : (Nat → Int32)) (x2 : (Nat → Int32)) (y2 : (Nat → Int32)) (my : (Nat → Int32)) (tl : (Nat → Int32)) (v1 : Int32) (v2 : Int32) (v3 : Int32) (v4 : Int32) (v5 : Int32) (s1 : Int32) : Prop := ((s1 ≤ 0 → (vp_in v1 10 ∧ (∀ i3 : Int32, i3 = ((4 * v1) + (cn v1.toNatClampNeg)) → (vp_in i3 40 ∧ (∀ f5 : (Nat → Int32), f5 = upd xs i3.toNatClampNeg v2 → (vp_in i3 40 ∧ (∀ f7 : (Nat → Int32), f7 = upd ys i3.toNatClampNeg v3 → (vp_in i3 40 ∧ (∀ f9 : (Nat → Int32), f9 = upd x2 i3.toNatClampNeg v4 → (vp_in i3 40 ∧ (∀ f11 : (Nat → Int32), f11 = upd y2 i3.toNatClampNeg v5 → (vp_in i3 40 ∧ (∀ f13 : (Nat → Int32), f13 = upd my i3.toNatClampNeg (vp_nar .boolean 0) → (vp_in i3 40 ∧ (∀ f15 : (Nat → Int32), f15 = upd tl i3.toNatClampNeg (-1) → (vp_in v1 10 ∧ (vp_in v1 10 ∧ (∀ f18 : (Nat → Int32), f18 = upd cn v1.toNatClampNeg (((cn v1.toNatClampNeg) + 1)) → (wX5_forget ka kt  (fun (u20 : Int32 × Int32) => (vp_in v1 10 ∧ K ((f18 v1.toNatClampNeg)) (s1, u20.1, u20.2, f18, f5, f7, f9, f11, f13, f15)))))))))))))))))))))) ∧ (¬ (s1 ≤ 0) → K 0 (s1, ka, kt, cn, xs, ys, x2, y2, my, tl)))
set_option maxHeartbeats 4000000 in
set_option maxRecDepth 100000 in
theorem mX5_box_86 {p : Program} {l : Launch} {e : Env} {s : State} {m : MethodId} {av : Array Value} {below : List Frame} {meth : Method} {c : Code} {dC : Nat → ClassId} {dI : Nat → Nat → Nat} {cI cJ cZ : ClassId} {q : Nat → Nat} {K : Int32 → (Int32 × Int32 × Int32 × (Nat → Int32) × (Nat → Int32) × (Nat → Int32) × (Nat → Int32) × (Nat → Int32) × (Nat → Int32) × (Nat → Int32)) → Prop} (kd : Int32) (kn : Int32) (kp : Int32) (ku : Int32) (kr : Int32) (po : (Nat → Int32)) (so : (Nat → Int32)) (st : (Nat → Int32)) (nr : (Nat → Int64)) (co : (Nat → Int32)) (rg : (Nat → Int32)) (re : (Nat → Int64)) (C : CX p s m av meth c cX5_box 8 (some .int) RX5 wsX5_box) (hK : va_K (dC, dI) vwCl (TY cI cJ cZ) s) (ha : apart q 15) (hN : NX s)  : ∀ (kc : Int32) (ka : Int32) (kt : Int32) (cn : (Nat → Int32)) (xs : (Nat → Int32)) (ys : (Nat → Int32)) (x2 : (Nat → Int32)) (y2 : (Nat → Int32)) (my : (Nat → Int32)) (tl : (Nat → Int32)) (v1 : Int32) (v2 : Int32) (v3 : Int32) (v4 : Int32) (v5 : Int32) (s1 : Int32) (ls : Array Slot) (H : Heap) (locs : List Loc), bkX5_box_86 kn K kc ka kt cn xs ys x2 y2 my tl v1 v2 v3 v4 v5 s1 → lv_has ls 8 [(0, .ref (q 0)), (1, .int v1), (2, .int v2), (3, .int v3), (4, .int v4), (5, .int v5)] → va_P (dC, dI) vwCl (WM q cI cJ cZ kc kd kn kp ka kt ku kr cn xs ys x2 y2 my tl po so st nr co rg re) H → va_S (AF q 15 s.heap.size) s.heap H locs → W p l e { frames := 2, cells := 0, slots := 0, locals := 46 } s m av below meth c H locs 0 0 (MQ below (QX5_box dC dI cI cJ cZ q s.heap.size kd kn kp ku kr po so st nr co rg re K) av s 0 0 (AF q 15 s.heap.size)) (F0 m 86 ls [.int s1, .ref (q 0)]) := by
  obtain ⟨hx, hb, hr, hml, hown, hts, hlk⟩ := id C
  intro kc ka kt cn xs ys x2 y2 my tl v1 v2 v3 v4 v5 s1 ls H locs h hl hP hS
  unfold bkX5_box_86 at h
  refine va_put (D := (dC, dI)) (ci := 5) (v := .int s1) (ty := .int) (C := RX5) (T := TX5) (N := 22) hx hb hts iwX5_box_X5 tyX5 tyX5_ok nmX5 hown hK hP (d_WM ha) hS 0 rfl rfl 0 (by decide) (hts _ fwX5_box_61) (fun _ h9 => h9) rfl (by decide +kernel) rfl rfl (Nat.le_of_ble_eq_true rfl) dX5_box_86 (fun H locs hP _ hS => ?_)
  have hP : va_P (dC, dI) vwCl (WM q cI cJ cZ s1 kd kn kp ka kt ku kr cn xs ys x2 y2 my tl po so st nr co rg re) H := hP
  refine lv_aload_n hx hb dX5_box_89 rfl (lv_at hl 0 rfl) ?_
  refine va_get (D := (dC, dI)) (ci := 5) (v := .int s1) (C := RX5) (T := TX5) (N := 22) hx hb hts iwX5_box_X5 hown hK hP 0 rfl rfl 0 (by decide) (hts _ fwX5_box_61) (fun _ h9 => h9) rfl dX5_box_90 ?_
  refine lv_if_le (tgt := 98) hx hb dX5_box_93 (by decide) (fun c1 => ?_) (fun c1 => ?_)
  · have h := h.1 c1
    refine lv_iconst (v := 4) hx hb dX5_box_98 (by decide) ?_
    refine lv_iload_n hx hb dX5_box_99 rfl (lv_at hl 1 rfl) ?_
    refine lv_imul hx hb dX5_box_100 ?_
    refine lv_aload_n hx hb dX5_box_101 rfl (lv_at hl 0 rfl) ?_
    refine va_get (D := (dC, dI)) (ci := 5) (v := .ref (q 1)) (C := RX5) (T := TX5) (N := 22) hx hb hts iwX5_box_X5 hown hK hP 0 rfl rfl 3 (by decide) (hts _ fwX5_box_13) (fun _ h9 => h9) rfl dX5_box_102 ?_
    refine lv_iload_n hx hb dX5_box_105 rfl (lv_at hl 1 rfl) ?_
    obtain ⟨b2, h⟩ := h
    refine va_iald (D := (dC, dI)) hx hb hK hP 1 0 rfl rfl b2 dX5_box_106 ?_
    refine lv_iadd hx hb dX5_box_107 ?_
    refine lv_topi (fun i3 ei3 => ?_)
    have h := h i3 ei3
    refine lv_istore (lv' := [(7, .int i3), (0, .ref (q 0)), (1, .int v1), (2, .int v2), (3, .int v3), (4, .int v4), (5, .int v5)]) hx hb dX5_box_108 hl (by decide) rfl (fun ls hl => ?_)
    refine lv_aload_n hx hb dX5_box_110 rfl (lv_at hl 1 rfl) ?_
    refine va_get (D := (dC, dI)) (ci := 5) (v := .ref (q 2)) (C := RX5) (T := TX5) (N := 22) hx hb hts iwX5_box_X5 hown hK hP 0 rfl rfl 4 (by decide) (hts _ fwX5_box_17) (fun _ h9 => h9) rfl dX5_box_111 ?_
    refine lv_iload hx hb dX5_box_114 (lv_at hl 0 rfl) ?_
    refine lv_iload_n hx hb dX5_box_116 rfl (lv_at hl 3 rfl) ?_
    obtain ⟨b4, h⟩ := h
    refine va_iast (D := (dC, dI)) hx hb hK hP (d_WM ha) hS 2 0 rfl rfl b4 dX5_box_117 (fun H locs hP _ hS => ?_)
    obtain ⟨f5, ef5⟩ : ∃ z : (Nat → Int32), z = upd xs i3.toNatClampNeg v2 := ⟨_, rfl⟩
    have h := h f5 ef5
    have hP : va_P (dC, dI) vwCl (WM q cI cJ cZ s1 kd kn kp ka kt ku kr cn f5 ys x2 y2 my tl po so st nr co rg re) H := by rw [ef5]; exact hP
    refine lv_aload_n hx hb dX5_box_118 rfl (lv_at hl 1 rfl) ?_
    refine va_get (D := (dC, dI)) (ci := 5) (v := .ref (q 3)) (C := RX5) (T := TX5) (N := 22) hx hb hts iwX5_box_X5 hown hK hP 0 rfl rfl 5 (by decide) (hts _ fwX5_box_20) (fun _ h9 => h9) rfl dX5_box_119 ?_
    refine lv_iload hx hb dX5_box_122 (lv_at hl 0 rfl) ?_
    refine lv_iload_n hx hb dX5_box_124 rfl (lv_at hl 4 rfl) ?_
    obtain ⟨b6, h⟩ := h
    refine va_iast (D := (dC, dI)) hx hb hK hP (d_WM ha) hS 3 0 rfl rfl b6 dX5_box_125 (fun H locs hP _ hS => ?_)
    obtain ⟨f7, ef7⟩ : ∃ z : (Nat → Int32), z = upd ys i3.toNatClampNeg v3 := ⟨_, rfl⟩
    have h := h f7 ef7
    have hP : va_P (dC, dI) vwCl (WM q cI cJ cZ s1 kd kn kp ka kt ku kr cn f5 f7 x2 y2 my tl po so st nr co rg re) H := by rw [ef7]; exact hP
    refine lv_aload_n hx hb dX5_box_126 rfl (lv_at hl 1 rfl) ?_
    refine va_get (D := (dC, dI)) (ci := 5) (v := .ref (q 4)) (C := RX5) (T := TX5) (N := 22) hx hb hts iwX5_box_X5 hown hK hP 0 rfl rfl 6 (by decide) (hts _ fwX5_box_23) (fun _ h9 => h9) rfl dX5_box_127 ?_
    refine lv_iload hx hb dX5_box_130 (lv_at hl 0 rfl) ?_
    refine lv_iload hx hb dX5_box_132 (lv_at hl 5 rfl) ?_
    obtain ⟨b8, h⟩ := h
    refine va_iast (D := (dC, dI)) hx hb hK hP (d_WM ha) hS 4 0 rfl rfl b8 dX5_box_134 (fun H locs hP _ hS => ?_)
    obtain ⟨f9, ef9⟩ : ∃ z : (Nat → Int32), z = upd x2 i3.toNatClampNeg v4 := ⟨_, rfl⟩
    have h := h f9 ef9
    have hP : va_P (dC, dI) vwCl (WM q cI cJ cZ s1 kd kn kp ka kt ku kr cn f5 f7 f9 y2 my tl po so st nr co rg re) H := by rw [ef9]; exact hP
    refine lv_aload_n hx hb dX5_box_135 rfl (lv_at hl 1 rfl) ?_
    refine va_get (D := (dC, dI)) (ci := 5) (v := .ref (q 5)) (C := RX5) (T := TX5) (N := 22) hx hb hts iwX5_box_X5 hown hK hP 0 rfl rfl 7 (by decide) (hts _ fwX5_box_26) (fun _ h9 => h9) rfl dX5_box_136 ?_
    refine lv_iload hx hb dX5_box_139 (lv_at hl 0 rfl) ?_
    refine lv_iload hx hb dX5_box_141 (lv_at hl 6 rfl) ?_
    obtain ⟨b10, h⟩ := h
    refine va_iast (D := (dC, dI)) hx hb hK hP (d_WM ha) hS 5 0 rfl rfl b10 dX5_box_143 (fun H locs hP _ hS => ?_)
    obtain ⟨f11, ef11⟩ : ∃ z : (Nat → Int32), z = upd y2 i3.toNatClampNeg v5 := ⟨_, rfl⟩
    have h := h f11 ef11
    have hP : va_P (dC, dI) vwCl (WM q cI cJ cZ s1 kd kn kp ka kt ku kr cn f5 f7 f9 f11 my tl po so st nr co rg re) H := by rw [ef11]; exact hP
    refine lv_aload_n hx hb dX5_box_144 rfl (lv_at hl 1 rfl) ?_
    refine va_get (D := (dC, dI)) (ci := 5) (v := .ref (q 6)) (C := RX5) (T := TX5) (N := 22) hx hb hts iwX5_box_X5 hown hK hP 0 rfl rfl 8 (by decide) (hts _ fwX5_box_29) (fun _ h9 => h9) rfl dX5_box_145 ?_
    refine lv_iload hx hb dX5_box_148 (lv_at hl 0 rfl) ?_
    refine lv_iconst (v := 0) hx hb dX5_box_150 (by decide) ?_
    obtain ⟨b12, h⟩ := h
    refine va_zast (D := (dC, dI)) hx hb hK hP (d_WM ha) hS 6 2 rfl rfl b12 dX5_box_151 (fun H locs hP _ hS => ?_)
    obtain ⟨f13, ef13⟩ : ∃ z : (Nat → Int32), z = upd my i3.toNatClampNeg (vp_nar .boolean 0) := ⟨_, rfl⟩
    have h := h f13 ef13
    have hP : va_P (dC, dI) vwCl (WM q cI cJ cZ s1 kd kn kp ka kt ku kr cn f5 f7 f9 f11 f13 tl po so st nr co rg re) H := by rw [ef13]; exact hP
    refine lv_aload_n hx hb dX5_box_152 rfl (lv_at hl 1 rfl) ?_
    refine va_get (D := (dC, dI)) (ci := 5) (v := .ref (q 7)) (C := RX5) (T := TX5) (N := 22) hx hb hts iwX5_box_X5 hown hK hP 0 rfl rfl 9 (by decide) (hts _ fwX5_box_33) (fun _ h9 => h9) rfl dX5_box_153 ?_
    refine lv_iload hx hb dX5_box_156 (lv_at hl 0 rfl) ?_
    refine lv_iconst (v := (-1)) hx hb dX5_box_158 (by decide) ?_
    obtain ⟨b14, h⟩ := h
    refine va_iast (D := (dC, dI)) hx hb hK hP (d_WM ha) hS 7 0 rfl rfl b14 dX5_box_159 (fun H locs hP _ hS => ?_)
    obtain ⟨f15, ef15⟩ : ∃ z : (Nat → Int32), z = upd tl i3.toNatClampNeg (-1) := ⟨_, rfl⟩
    have h := h f15 ef15
    have hP : va_P (dC, dI) vwCl (WM q cI cJ cZ s1 kd kn kp ka kt ku kr cn f5 f7 f9 f11 f13 f15 po so st nr co rg re) H := by rw [ef15]; exact hP
    refine lv_aload_n hx hb dX5_box_160 rfl (lv_at hl 1 rfl) ?_
    refine va_get (D := (dC, dI)) (ci := 5) (v := .ref (q 1)) (C := RX5) (T := TX5) (N := 22) hx hb hts iwX5_box_X5 hown hK hP 0 rfl rfl 3 (by decide) (hts _ fwX5_box_13) (fun _ h9 => h9) rfl dX5_box_161 ?_
    refine lv_iload_n hx hb dX5_box_164 rfl (lv_at hl 2 rfl) ?_
    refine lv_dup2_11 hx hb dX5_box_165 rfl rfl ?_
    obtain ⟨b16, h⟩ := h
    refine va_iald (D := (dC, dI)) hx hb hK hP 1 0 rfl rfl b16 dX5_box_166 ?_
    refine lv_iconst (v := 1) hx hb dX5_box_167 (by decide) ?_
    refine lv_iadd hx hb dX5_box_168 ?_
    obtain ⟨b17, h⟩ := h
    refine va_iast (D := (dC, dI)) hx hb hK hP (d_WM ha) hS 1 0 rfl rfl b17 dX5_box_169 (fun H locs hP _ hS => ?_)
    obtain ⟨f18, ef18⟩ : ∃ z : (Nat → Int32), z = upd cn v1.toNatClampNeg (((cn v1.toNatClampNeg) + 1)) := ⟨_, rfl⟩
    have h := h f18 ef18
    have hP : va_P (dC, dI) vwCl (WM q cI cJ cZ s1 kd kn kp ka kt ku kr f18 f5 f7 f9 f11 f13 f15 po so st nr co rg re) H := by rw [ef18]; exact hP
    refine lv_aload_n hx hb dX5_box_170 rfl (lv_at hl 1 rfl) ?_
    refine cl_v (va_runV (As := []) (rest := []) ⟨hx, hb, hml, hown, hts⟩ (ktX5_forget l dC dI q cI cJ cZ H.size s1 kd kn kp ka kt ku kr f18 f5 f7 f9 f11 f13 f15 po so st nr co rg re  h) (cwV 0 hts gX5_box_X5_forget rfl rfl rfl (by decide +kernel) ⟨Nat.le_of_ble_eq_true rfl, Nat.le_of_ble_eq_true rfl⟩) ⟨wd.blind, va_recv hK hP (ci := 5) (q0 := 0) rfl rfl, fun U hU hW => ⟨rfl, wd.at hP hK ha hN hU hW⟩⟩ rfl rfl hl.1 rfl (lv_room (Nat.le_of_ble_eq_true rfl)) dX5_box_171 ⟨Nat.le_of_ble_eq_true rfl, Nat.le_of_ble_eq_true rfl⟩) hS (fun u20 H locs h hP hS => ?_)
    have hP : va_P (dC, dI) vwCl (WM q cI cJ cZ s1 kd kn kp u20.1 u20.2 ku kr f18 f5 f7 f9 f11 f13 f15 po so st nr co rg re) H := hP
    refine lv_aload_n hx hb dX5_box_174 rfl (lv_at hl 1 rfl) ?_
    refine va_get (D := (dC, dI)) (ci := 5) (v := .ref (q 1)) (C := RX5) (T := TX5) (N := 22) hx hb hts iwX5_box_X5 hown hK hP 0 rfl rfl 3 (by decide) (hts _ fwX5_box_13) (fun _ h9 => h9) rfl dX5_box_175 ?_
    refine lv_iload_n hx hb dX5_box_178 rfl (lv_at hl 2 rfl) ?_
    obtain ⟨b21, h⟩ := h
    refine va_iald (D := (dC, dI)) hx hb hK hP 1 0 rfl rfl b21 dX5_box_179 ?_
    exact rt_i (s1, u20.1, u20.2, f18, f5, f7, f9, f11, f13, f15) hx hb hr hlk h (fun t ht => by rw [ht]; exact hP) hS dX5_box_180
  · have h := h.2 c1
    refine lv_iconst (v := 0) hx hb dX5_box_96 (by decide) ?_
    exact rt_i (s1, ka, kt, cn, xs, ys, x2, y2, my, tl) hx hb hr hlk h (fun t ht => by rw [ht]; exact hP) hS dX5_box_97
def bkX5_box_47 (kn : Int32) (K : Int32 → (Int32 × Int32 × Int32 × (Nat → Int32) × (Nat → Int32) × (Nat → Int32) × (Nat → Int32) × (Nat → Int32) × (Nat → Int32) × (Nat → Int32)) → Prop) (kc : Int32) (ka : Int32) (kt : Int32) (cn : (Nat → Int32)) (xs : (Nat → Int32)) (ys : (Nat → Int32)) (x2 : (Nat → Int32)) (y2 : (Nat → Int32)) (my : (Nat → Int32)) (tl : (Nat → Int32)) (v1 : Int32) (v2 : Int32) (v3 : Int32) (v4 : Int32) (v5 : Int32) (s0 : Int32) : Prop := (wX5_isShape kn v1 (fun (r22 : Int32) => ((¬ r22 = 0 → ((¬ s0 = 0 → (vp_in v1 10 ∧ ((¬ (cn v1.toNatClampNeg) = 4 → bkX5_box_86 kn K kc ka kt cn xs ys x2 y2 my tl v1 v2 v3 v4 v5 0) ∧ ((cn v1.toNatClampNeg) = 4 → bkX5_box_86 kn K kc ka kt cn xs ys x2 y2 my tl v1 v2 v3 v4 v5 3)))) ∧ (s0 = 0 → bkX5_box_86 kn K kc ka kt cn xs ys x2 y2 my tl v1 v2 v3 v4 v5 2))) ∧ (r22 = 0 → bkX5_box_86 kn K kc ka kt cn xs ys x2 y2 my tl v1 v2 v3 v4 v5 1))))
set_option maxHeartbeats 4000000 in
set_option maxRecDepth 100000 in
theorem mX5_box_47 {p : Program} {l : Launch} {e : Env} {s : State} {m : MethodId} {av : Array Value} {below : List Frame} {meth : Method} {c : Code} {dC : Nat → ClassId} {dI : Nat → Nat → Nat} {cI cJ cZ : ClassId} {q : Nat → Nat} {K : Int32 → (Int32 × Int32 × Int32 × (Nat → Int32) × (Nat → Int32) × (Nat → Int32) × (Nat → Int32) × (Nat → Int32) × (Nat → Int32) × (Nat → Int32)) → Prop} (kd : Int32) (kn : Int32) (kp : Int32) (ku : Int32) (kr : Int32) (po : (Nat → Int32)) (so : (Nat → Int32)) (st : (Nat → Int32)) (nr : (Nat → Int64)) (co : (Nat → Int32)) (rg : (Nat → Int32)) (re : (Nat → Int64)) (C : CX p s m av meth c cX5_box 8 (some .int) RX5 wsX5_box) (hK : va_K (dC, dI) vwCl (TY cI cJ cZ) s) (ha : apart q 15) (hN : NX s)  : ∀ (kc : Int32) (ka : Int32) (kt : Int32) (cn : (Nat → Int32)) (xs : (Nat → Int32)) (ys : (Nat → Int32)) (x2 : (Nat → Int32)) (y2 : (Nat → Int32)) (my : (Nat → Int32)) (tl : (Nat → Int32)) (v1 : Int32) (v2 : Int32) (v3 : Int32) (v4 : Int32) (v5 : Int32) (s0 : Int32) (ls : Array Slot) (H : Heap) (locs : List Loc), bkX5_box_47 kn K kc ka kt cn xs ys x2 y2 my tl v1 v2 v3 v4 v5 s0 → lv_has ls 8 [(0, .ref (q 0)), (1, .int v1), (2, .int v2), (3, .int v3), (4, .int v4), (5, .int v5)] → va_P (dC, dI) vwCl (WM q cI cJ cZ kc kd kn kp ka kt ku kr cn xs ys x2 y2 my tl po so st nr co rg re) H → va_S (AF q 15 s.heap.size) s.heap H locs → W p l e { frames := 2, cells := 0, slots := 0, locals := 46 } s m av below meth c H locs 0 0 (MQ below (QX5_box dC dI cI cJ cZ q s.heap.size kd kn kp ku kr po so st nr co rg re K) av s 0 0 (AF q 15 s.heap.size)) (F0 m 47 ls [.int s0]) := by
  obtain ⟨hx, hb, hr, hml, hown, hts, hlk⟩ := id C
  intro kc ka kt cn xs ys x2 y2 my tl v1 v2 v3 v4 v5 s0 ls H locs h hl hP hS
  unfold bkX5_box_47 at h
  refine lv_istore (lv' := [(6, .int s0), (0, .ref (q 0)), (1, .int v1), (2, .int v2), (3, .int v3), (4, .int v4), (5, .int v5)]) hx hb dX5_box_47 hl (by decide) rfl (fun ls hl => ?_)
  refine lv_aload_n hx hb dX5_box_49 rfl (lv_at hl 1 rfl) ?_
  refine lv_aload_n hx hb dX5_box_50 rfl (lv_at hl 1 rfl) ?_
  refine lv_iload_n hx hb dX5_box_51 rfl (lv_at hl 2 rfl) ?_
  refine cl_i (va_runV (As := [.int v1]) (rest := [.ref (q 0)]) ⟨hx, hb, hml, hown, hts⟩ (ktX5_isShape l dC dI q cI cJ cZ H.size kc kd kn kp ka kt ku kr cn xs ys x2 y2 my tl po so st nr co rg re v1 h) (cwV 1 hts gX5_box_X5_isShape rfl rfl rfl (by decide +kernel) ⟨Nat.le_of_ble_eq_true rfl, Nat.le_of_ble_eq_true rfl⟩) ⟨wd.blind, va_recv hK hP (ci := 5) (q0 := 0) rfl rfl, fun U hU hW => ⟨rfl, wd.at hP hK ha hN hU hW⟩⟩ rfl rfl hl.1 rfl (lv_room (Nat.le_of_ble_eq_true rfl)) dX5_box_52 ⟨Nat.le_of_ble_eq_true rfl, Nat.le_of_ble_eq_true rfl⟩) hS (fun r22 _ H locs h hP hS => ?_)
  have hP : va_P (dC, dI) vwCl (WM q cI cJ cZ kc kd kn kp ka kt ku kr cn xs ys x2 y2 my tl po so st nr co rg re) H := hP
  refine lv_if_ne (tgt := 62) hx hb dX5_box_55 (by decide) (fun c24 => ?_) (fun c24 => ?_)
  · have h := h.1 c24
    refine lv_iload hx hb dX5_box_62 (lv_at hl 0 rfl) ?_
    refine lv_if_ne (tgt := 71) hx hb dX5_box_64 (by decide) (fun c25 => ?_) (fun c25 => ?_)
    · have h := h.1 c25
      refine lv_aload_n hx hb dX5_box_71 rfl (lv_at hl 1 rfl) ?_
      refine va_get (D := (dC, dI)) (ci := 5) (v := .ref (q 1)) (C := RX5) (T := TX5) (N := 22) hx hb hts iwX5_box_X5 hown hK hP 0 rfl rfl 3 (by decide) (hts _ fwX5_box_13) (fun _ h9 => h9) rfl dX5_box_72 ?_
      refine lv_iload_n hx hb dX5_box_75 rfl (lv_at hl 2 rfl) ?_
      obtain ⟨b26, h⟩ := h
      refine va_iald (D := (dC, dI)) hx hb hK hP 1 0 rfl rfl b26 dX5_box_76 ?_
      refine lv_iconst (v := 4) hx hb dX5_box_77 (by decide) ?_
      refine lv_icmp_ne (tgt := 85) hx hb dX5_box_78 (by decide) (fun c27 => ?_) (fun c27 => ?_)
      · have h := h.1 c27
        refine lv_iconst (v := 0) hx hb dX5_box_85 (by decide) ?_
        exact mX5_box_86 kd kn kp ku kr po so st nr co rg re C hK ha hN  kc ka kt cn xs ys x2 y2 my tl v1 v2 v3 v4 v5 0 ls H locs h (lv_sub hl [1, 2, 3, 4, 5, 6] rfl) hP hS
      · have h := h.2 c27
        refine lv_iconst (v := 3) hx hb dX5_box_81 (by decide) ?_
        refine lv_goto (tgt := 86) hx hb dX5_box_82 (by decide) ?_
        exact mX5_box_86 kd kn kp ku kr po so st nr co rg re C hK ha hN  kc ka kt cn xs ys x2 y2 my tl v1 v2 v3 v4 v5 3 ls H locs h (lv_sub hl [1, 2, 3, 4, 5, 6] rfl) hP hS
    · have h := h.2 c25
      refine lv_iconst (v := 2) hx hb dX5_box_67 (by decide) ?_
      refine lv_goto (tgt := 86) hx hb dX5_box_68 (by decide) ?_
      exact mX5_box_86 kd kn kp ku kr po so st nr co rg re C hK ha hN  kc ka kt cn xs ys x2 y2 my tl v1 v2 v3 v4 v5 2 ls H locs h (lv_sub hl [1, 2, 3, 4, 5, 6] rfl) hP hS
  · have h := h.2 c24
    refine lv_iconst (v := 1) hx hb dX5_box_58 (by decide) ?_
    refine lv_goto (tgt := 86) hx hb dX5_box_59 (by decide) ?_
    exact mX5_box_86 kd kn kp ku kr po so st nr co rg re C hK ha hN  kc ka kt cn xs ys x2 y2 my tl v1 v2 v3 v4 v5 1 ls H locs h (lv_sub hl [1, 2, 3, 4, 5, 6] rfl) hP hS
def bkX5_box_46 (kn : Int32) (K : Int32 → (Int32 × Int32 × Int32 × (Nat → Int32) × (Nat → Int32) × (Nat → Int32) × (Nat → Int32) × (Nat → Int32) × (Nat → Int32) × (Nat → Int32)) → Prop) (kc : Int32) (ka : Int32) (kt : Int32) (cn : (Nat → Int32)) (xs : (Nat → Int32)) (ys : (Nat → Int32)) (x2 : (Nat → Int32)) (y2 : (Nat → Int32)) (my : (Nat → Int32)) (tl : (Nat → Int32)) (v1 : Int32) (v2 : Int32) (v3 : Int32) (v4 : Int32) (v5 : Int32) : Prop := bkX5_box_47 kn K kc ka kt cn xs ys x2 y2 my tl v1 v2 v3 v4 v5 0
set_option maxHeartbeats 4000000 in
set_option maxRecDepth 100000 in
theorem mX5_box_46 {p : Program} {l : Launch} {e : Env} {s : State} {m : MethodId} {av : Array Value} {below : List Frame} {meth : Method} {c : Code} {dC : Nat → ClassId} {dI : Nat → Nat → Nat} {cI cJ cZ : ClassId} {q : Nat → Nat} {K : Int32 → (Int32 × Int32 × Int32 × (Nat → Int32) × (Nat → Int32) × (Nat → Int32) × (Nat → Int32) × (Nat → Int32) × (Nat → Int32) × (Nat → Int32)) → Prop} (kd : Int32) (kn : Int32) (kp : Int32) (ku : Int32) (kr : Int32) (po : (Nat → Int32)) (so : (Nat → Int32)) (st : (Nat → Int32)) (nr : (Nat → Int64)) (co : (Nat → Int32)) (rg : (Nat → Int32)) (re : (Nat → Int64)) (C : CX p s m av meth c cX5_box 8 (some .int) RX5 wsX5_box) (hK : va_K (dC, dI) vwCl (TY cI cJ cZ) s) (ha : apart q 15) (hN : NX s)  : ∀ (kc : Int32) (ka : Int32) (kt : Int32) (cn : (Nat → Int32)) (xs : (Nat → Int32)) (ys : (Nat → Int32)) (x2 : (Nat → Int32)) (y2 : (Nat → Int32)) (my : (Nat → Int32)) (tl : (Nat → Int32)) (v1 : Int32) (v2 : Int32) (v3 : Int32) (v4 : Int32) (v5 : Int32) (ls : Array Slot) (H : Heap) (locs : List Loc), bkX5_box_46 kn K kc ka kt cn xs ys x2 y2 my tl v1 v2 v3 v4 v5 → lv_has ls 8 [(0, .ref (q 0)), (1, .int v1), (2, .int v2), (3, .int v3), (4, .int v4), (5, .int v5)] → va_P (dC, dI) vwCl (WM q cI cJ cZ kc kd kn kp ka kt ku kr cn xs ys x2 y2 my tl po so st nr co rg re) H → va_S (AF q 15 s.heap.size) s.heap H locs → W p l e { frames := 2, cells := 0, slots := 0, locals := 46 } s m av below meth c H locs 0 0 (MQ below (QX5_box dC dI cI cJ cZ q s.heap.size kd kn kp ku kr po so st nr co rg re K) av s 0 0 (AF q 15 s.heap.size)) (F0 m 46 ls []) := by
  obtain ⟨hx, hb, hr, hml, hown, hts, hlk⟩ := id C
  intro kc ka kt cn xs ys x2 y2 my tl v1 v2 v3 v4 v5 ls H locs h hl hP hS
  unfold bkX5_box_46 at h
  refine lv_iconst (v := 0) hx hb dX5_box_46 (by decide) ?_
  exact mX5_box_47 kd kn kp ku kr po so st nr co rg re C hK ha hN  kc ka kt cn xs ys x2 y2 my tl v1 v2 v3 v4 v5 0 ls H locs h (lv_sub hl [0, 1, 2, 3, 4, 5] rfl) hP hS
def wX5_box (kn : Int32) (kc : Int32) (ka : Int32) (kt : Int32) (cn : (Nat → Int32)) (xs : (Nat → Int32)) (ys : (Nat → Int32)) (x2 : (Nat → Int32)) (y2 : (Nat → Int32)) (my : (Nat → Int32)) (tl : (Nat → Int32)) (v1 : Int32) (v2 : Int32) (v3 : Int32) (v4 : Int32) (v5 : Int32) (K : Int32 → (Int32 × Int32 × Int32 × (Nat → Int32) × (Nat → Int32) × (Nat → Int32) × (Nat → Int32) × (Nat → Int32) × (Nat → Int32) × (Nat → Int32)) → Prop) : Prop := (wX5_isPlace v2 (fun r28 : Int32 => ((r28 = 0 → bkX5_box_46 kn K kc ka kt cn xs ys x2 y2 my tl v1 v2 v3 v4 v5) ∧ (¬ (r28 = 0) → (wX5_isPlace v3 (fun r31 : Int32 => ((r31 = 0 → bkX5_box_46 kn K kc ka kt cn xs ys x2 y2 my tl v1 v2 v3 v4 v5) ∧ (¬ (r31 = 0) → (wX5_isPlace v4 (fun r34 : Int32 => ((r34 = 0 → bkX5_box_46 kn K kc ka kt cn xs ys x2 y2 my tl v1 v2 v3 v4 v5) ∧ (¬ (r34 = 0) → (wX5_isPlace v5 (fun r37 : Int32 => ((r37 = 0 → bkX5_box_46 kn K kc ka kt cn xs ys x2 y2 my tl v1 v2 v3 v4 v5) ∧ (¬ (r37 = 0) → ((v4 ≤ v2 → bkX5_box_46 kn K kc ka kt cn xs ys x2 y2 my tl v1 v2 v3 v4 v5) ∧ (¬ (v4 ≤ v2) → ((v5 ≤ v3 → bkX5_box_46 kn K kc ka kt cn xs ys x2 y2 my tl v1 v2 v3 v4 v5) ∧ (¬ (v5 ≤ v3) → bkX5_box_47 kn K kc ka kt cn xs ys x2 y2 my tl v1 v2 v3 v4 v5 1))))))))))))))))))))
set_option maxHeartbeats 4000000 in
set_option maxRecDepth 100000 in
theorem ktX5_box (l : Launch) (dC : Nat → ClassId) (dI : Nat → Nat → Nat) (q : Nat → Nat) (cI cJ cZ : ClassId) (sz : Nat) (kc : Int32) (kd : Int32) (kn : Int32) (kp : Int32) (ka : Int32) (kt : Int32) (ku : Int32) (kr : Int32) (cn : (Nat → Int32)) (xs : (Nat → Int32)) (ys : (Nat → Int32)) (x2 : (Nat → Int32)) (y2 : (Nat → Int32)) (my : (Nat → Int32)) (tl : (Nat → Int32)) (po : (Nat → Int32)) (so : (Nat → Int32)) (st : (Nat → Int32)) (nr : (Nat → Int64)) (co : (Nat → Int32)) (rg : (Nat → Int32)) (re : (Nat → Int64)) (v1 : Int32) (v2 : Int32) (v3 : Int32) (v4 : Int32) (v5 : Int32) {K : Int32 → (Int32 × Int32 × Int32 × (Nat → Int32) × (Nat → Int32) × (Nat → Int32) × (Nat → Int32) × (Nat → Int32) × (Nat → Int32) × (Nat → Int32)) → Prop} (h : wX5_box kn kc ka kt cn xs ys x2 y2 my tl v1 v2 v3 v4 v5 K) : Met l yX5_box wsX5_box { frames := 2, cells := 0, slots := 0, locals := 46 } (va_Pc [.ref (q 0), .int v1, .int v2, .int v3, .int v4, .int v5] (wd dC dI cI cJ cZ q 15 sz (WM q cI cJ cZ kc kd kn kp ka kt ku kr cn xs ys x2 y2 my tl po so st nr co rg re))) (QX5_box dC dI cI cJ cZ q sz kd kn kp ku kr po so st nr co rg re K) 0 0 (AF q 15 sz) := by
  refine met_of [.ref (q 0), .int v1, .int v2, .int v3, .int v4, .int v5] (by decide +kernel) rfl (Nat.le_of_ble_eq_true rfl) ?_
  intro p e s m below meth c ls hsz C hK ha hN hl hP
  subst hsz
  obtain ⟨hx, hb, hr, hml, hown, hts, hlk⟩ := id C
  have hl : lv_has ls 8 [(0, .ref (q 0)), (1, .int v1), (2, .int v2), (3, .int v3), (4, .int v4), (5, .int v5)] := hl
  refine w_go (Pw := fun H => va_P (dC, dI) vwCl (WM q cI cJ cZ kc kd kn kp ka kt ku kr cn xs ys x2 y2 my tl po so st nr co rg re) H) (A := AF q 15 s.heap.size) (fun H locs hP hS => ?_) hP
  unfold wX5_box at h
  refine lv_iload_n hx hb dX5_box_0 rfl (lv_at hl 2 rfl) ?_
  refine cl_pi (va_runS (As := [.int v2]) (rest := []) ⟨hx, hb, hml, hown, hts⟩ (ktX5_isPlace l H.size v2 h) (va_cwS 1 hts gX5_box_X5_isPlace rfl rfl rfl (by decide +kernel) ⟨Nat.le_of_ble_eq_true rfl, Nat.le_of_ble_eq_true rfl⟩) ⟨pz.blind, fun U hU _ => ⟨rfl, pz.at hU⟩⟩ rfl rfl hl.1 rfl (lv_room (Nat.le_of_ble_eq_true rfl)) dX5_box_1 ⟨Nat.le_of_ble_eq_true rfl, Nat.le_of_ble_eq_true rfl⟩) hP hS (fun r28 _ H locs h hP hS => ?_)
  refine lv_if_eq (tgt := 46) hx hb dX5_box_4 (by decide) (fun c30 => ?_) (fun c30 => ?_)
  · have h := h.1 c30
    exact mX5_box_46 kd kn kp ku kr po so st nr co rg re C hK ha hN  kc ka kt cn xs ys x2 y2 my tl v1 v2 v3 v4 v5 ls H locs h (lv_sub hl [0, 1, 2, 3, 4, 5] rfl) hP hS
  · have h := h.2 c30
    refine lv_iload_n hx hb dX5_box_7 rfl (lv_at hl 3 rfl) ?_
    refine cl_pi (va_runS (As := [.int v3]) (rest := []) ⟨hx, hb, hml, hown, hts⟩ (ktX5_isPlace l H.size v3 h) (va_cwS 1 hts gX5_box_X5_isPlace rfl rfl rfl (by decide +kernel) ⟨Nat.le_of_ble_eq_true rfl, Nat.le_of_ble_eq_true rfl⟩) ⟨pz.blind, fun U hU _ => ⟨rfl, pz.at hU⟩⟩ rfl rfl hl.1 rfl (lv_room (Nat.le_of_ble_eq_true rfl)) dX5_box_8 ⟨Nat.le_of_ble_eq_true rfl, Nat.le_of_ble_eq_true rfl⟩) hP hS (fun r31 _ H locs h hP hS => ?_)
    refine lv_if_eq (tgt := 46) hx hb dX5_box_11 (by decide) (fun c33 => ?_) (fun c33 => ?_)
    · have h := h.1 c33
      exact mX5_box_46 kd kn kp ku kr po so st nr co rg re C hK ha hN  kc ka kt cn xs ys x2 y2 my tl v1 v2 v3 v4 v5 ls H locs h (lv_sub hl [0, 1, 2, 3, 4, 5] rfl) hP hS
    · have h := h.2 c33
      refine lv_iload hx hb dX5_box_14 (lv_at hl 4 rfl) ?_
      refine cl_pi (va_runS (As := [.int v4]) (rest := []) ⟨hx, hb, hml, hown, hts⟩ (ktX5_isPlace l H.size v4 h) (va_cwS 1 hts gX5_box_X5_isPlace rfl rfl rfl (by decide +kernel) ⟨Nat.le_of_ble_eq_true rfl, Nat.le_of_ble_eq_true rfl⟩) ⟨pz.blind, fun U hU _ => ⟨rfl, pz.at hU⟩⟩ rfl rfl hl.1 rfl (lv_room (Nat.le_of_ble_eq_true rfl)) dX5_box_16 ⟨Nat.le_of_ble_eq_true rfl, Nat.le_of_ble_eq_true rfl⟩) hP hS (fun r34 _ H locs h hP hS => ?_)
      refine lv_if_eq (tgt := 46) hx hb dX5_box_19 (by decide) (fun c36 => ?_) (fun c36 => ?_)
      · have h := h.1 c36
        exact mX5_box_46 kd kn kp ku kr po so st nr co rg re C hK ha hN  kc ka kt cn xs ys x2 y2 my tl v1 v2 v3 v4 v5 ls H locs h (lv_sub hl [0, 1, 2, 3, 4, 5] rfl) hP hS
      · have h := h.2 c36
        refine lv_iload hx hb dX5_box_22 (lv_at hl 5 rfl) ?_
        refine cl_pi (va_runS (As := [.int v5]) (rest := []) ⟨hx, hb, hml, hown, hts⟩ (ktX5_isPlace l H.size v5 h) (va_cwS 1 hts gX5_box_X5_isPlace rfl rfl rfl (by decide +kernel) ⟨Nat.le_of_ble_eq_true rfl, Nat.le_of_ble_eq_true rfl⟩) ⟨pz.blind, fun U hU _ => ⟨rfl, pz.at hU⟩⟩ rfl rfl hl.1 rfl (lv_room (Nat.le_of_ble_eq_true rfl)) dX5_box_24 ⟨Nat.le_of_ble_eq_true rfl, Nat.le_of_ble_eq_true rfl⟩) hP hS (fun r37 _ H locs h hP hS => ?_)
        refine lv_if_eq (tgt := 46) hx hb dX5_box_27 (by decide) (fun c39 => ?_) (fun c39 => ?_)
        · have h := h.1 c39
          exact mX5_box_46 kd kn kp ku kr po so st nr co rg re C hK ha hN  kc ka kt cn xs ys x2 y2 my tl v1 v2 v3 v4 v5 ls H locs h (lv_sub hl [0, 1, 2, 3, 4, 5] rfl) hP hS
        · have h := h.2 c39
          refine lv_iload_n hx hb dX5_box_30 rfl (lv_at hl 2 rfl) ?_
          refine lv_iload hx hb dX5_box_31 (lv_at hl 4 rfl) ?_
          refine lv_icmp_ge (tgt := 46) hx hb dX5_box_33 (by decide) (fun c40 => ?_) (fun c40 => ?_)
          · have h := h.1 c40
            exact mX5_box_46 kd kn kp ku kr po so st nr co rg re C hK ha hN  kc ka kt cn xs ys x2 y2 my tl v1 v2 v3 v4 v5 ls H locs h (lv_sub hl [0, 1, 2, 3, 4, 5] rfl) hP hS
          · have h := h.2 c40
            refine lv_iload_n hx hb dX5_box_36 rfl (lv_at hl 3 rfl) ?_
            refine lv_iload hx hb dX5_box_37 (lv_at hl 5 rfl) ?_
            refine lv_icmp_ge (tgt := 46) hx hb dX5_box_39 (by decide) (fun c41 => ?_) (fun c41 => ?_)
            · have h := h.1 c41
              exact mX5_box_46 kd kn kp ku kr po so st nr co rg re C hK ha hN  kc ka kt cn xs ys x2 y2 my tl v1 v2 v3 v4 v5 ls H locs h (lv_sub hl [0, 1, 2, 3, 4, 5] rfl) hP hS
            · have h := h.2 c41
              refine lv_iconst (v := 1) hx hb dX5_box_42 (by decide) ?_
              refine lv_goto (tgt := 47) hx hb dX5_box_43 (by decide) ?_
              exact mX5_box_47 kd kn kp ku kr po so st nr co rg re C hK ha hN  kc ka kt cn xs ys x2 y2 my tl v1 v2 v3 v4 v5 1 ls H locs h (lv_sub hl [0, 1, 2, 3, 4, 5] rfl) hP hS

theorem fwX5_stitch_61 : Cond.fieldLink RX5 61 "MaskPartsModel" "code" "I" ∈ wsX5_stitch := by decide +kernel
set_option maxRecDepth 20000 in
theorem iwX5_stitch_X5 : ∀ w ∈ wsX50, w ∈ wsX5_stitch := by decide +kernel
theorem fwX5_stitch_29 : Cond.fieldLink RX5 29 "MaskPartsModel" "may" "[Z" ∈ wsX5_stitch := by decide +kernel
abbrev QX5_stitch (dC : Nat → ClassId) (dI : Nat → Nat → Nat) (cI cJ cZ : ClassId) (q : Nat → Nat) (sz : Nat) (kd : Int32) (kn : Int32) (kp : Int32) (ku : Int32) (kr : Int32) (cn : (Nat → Int32)) (xs : (Nat → Int32)) (ys : (Nat → Int32)) (x2 : (Nat → Int32)) (y2 : (Nat → Int32)) (tl : (Nat → Int32)) (po : (Nat → Int32)) (so : (Nat → Int32)) (st : (Nat → Int32)) (nr : (Nat → Int64)) (co : (Nat → Int32)) (rg : (Nat → Int32)) (re : (Nat → Int64)) (K : Int32 → (Int32 × Int32 × Int32 × (Nat → Int32)) → Prop) : Array Value → State → Outcome → State → Prop := va_Qi (fun (r : Int32) (u : Int32 × Int32 × Int32 × (Nat → Int32)) => K r u) (fun (u : Int32 × Int32 × Int32 × (Nat → Int32)) t => va_P (dC, dI) vwCl (WM q cI cJ cZ u.1 kd kn kp u.2.1 u.2.2.1 ku kr cn xs ys x2 y2 u.2.2.2 tl po so st nr co rg re) t.heap) (AF q 15 sz)
def bkX5_stitch_15 (kn : Int32) (cn : (Nat → Int32)) (K : Int32 → (Int32 × Int32 × Int32 × (Nat → Int32)) → Prop) (kc : Int32) (ka : Int32) (kt : Int32) (my : (Nat → Int32)) (v1 : Int32) (v2 : Int32) (v3 : Int32) (s1 : Int32) : Prop := ((s1 ≤ 0 → (vp_in (((4 * v1) + v2)) 40 ∧ (∀ i3 : Int32, i3 = (my (((4 * v1) + v2) : Int32).toNatClampNeg) → (vp_in (((4 * v1) + v2)) 40 ∧ (∀ f5 : (Nat → Int32), f5 = upd my (((4 * v1) + v2) : Int32).toNatClampNeg (vp_nar .boolean v3) → (wX5_forget ka kt  (fun (u7 : Int32 × Int32) => (narrow .boolean (.int i3) = .int i3 ∧ K i3 (s1, u7.1, u7.2, f5))))))))) ∧ (¬ (s1 ≤ 0) → K 0 (s1, ka, kt, my)))
set_option maxHeartbeats 4000000 in
set_option maxRecDepth 100000 in
theorem mX5_stitch_15 {p : Program} {l : Launch} {e : Env} {s : State} {m : MethodId} {av : Array Value} {below : List Frame} {meth : Method} {c : Code} {dC : Nat → ClassId} {dI : Nat → Nat → Nat} {cI cJ cZ : ClassId} {q : Nat → Nat} {K : Int32 → (Int32 × Int32 × Int32 × (Nat → Int32)) → Prop} (kd : Int32) (kn : Int32) (kp : Int32) (ku : Int32) (kr : Int32) (cn : (Nat → Int32)) (xs : (Nat → Int32)) (ys : (Nat → Int32)) (x2 : (Nat → Int32)) (y2 : (Nat → Int32)) (tl : (Nat → Int32)) (po : (Nat → Int32)) (so : (Nat → Int32)) (st : (Nat → Int32)) (nr : (Nat → Int64)) (co : (Nat → Int32)) (rg : (Nat → Int32)) (re : (Nat → Int64)) (C : CX p s m av meth c cX5_stitch 5 (some .boolean) RX5 wsX5_stitch) (hK : va_K (dC, dI) vwCl (TY cI cJ cZ) s) (ha : apart q 15) (hN : NX s)  : ∀ (kc : Int32) (ka : Int32) (kt : Int32) (my : (Nat → Int32)) (v1 : Int32) (v2 : Int32) (v3 : Int32) (s1 : Int32) (ls : Array Slot) (H : Heap) (locs : List Loc), bkX5_stitch_15 kn cn K kc ka kt my v1 v2 v3 s1 → lv_has ls 5 [(0, .ref (q 0)), (1, .int v1), (2, .int v2), (3, .int v3)] → va_P (dC, dI) vwCl (WM q cI cJ cZ kc kd kn kp ka kt ku kr cn xs ys x2 y2 my tl po so st nr co rg re) H → va_S (AF q 15 s.heap.size) s.heap H locs → W p l e { frames := 3, cells := 0, slots := 0, locals := 68 } s m av below meth c H locs 0 0 (MQ below (QX5_stitch dC dI cI cJ cZ q s.heap.size kd kn kp ku kr cn xs ys x2 y2 tl po so st nr co rg re K) av s 0 0 (AF q 15 s.heap.size)) (F0 m 15 ls [.int s1, .ref (q 0)]) := by
  obtain ⟨hx, hb, hr, hml, hown, hts, hlk⟩ := id C
  intro kc ka kt my v1 v2 v3 s1 ls H locs h hl hP hS
  unfold bkX5_stitch_15 at h
  refine va_put (D := (dC, dI)) (ci := 5) (v := .int s1) (ty := .int) (C := RX5) (T := TX5) (N := 22) hx hb hts iwX5_stitch_X5 tyX5 tyX5_ok nmX5 hown hK hP (d_WM ha) hS 0 rfl rfl 0 (by decide) (hts _ fwX5_stitch_61) (fun _ h9 => h9) rfl (by decide +kernel) rfl rfl (Nat.le_of_ble_eq_true rfl) dX5_stitch_15 (fun H locs hP _ hS => ?_)
  have hP : va_P (dC, dI) vwCl (WM q cI cJ cZ s1 kd kn kp ka kt ku kr cn xs ys x2 y2 my tl po so st nr co rg re) H := hP
  refine lv_aload_n hx hb dX5_stitch_18 rfl (lv_at hl 0 rfl) ?_
  refine va_get (D := (dC, dI)) (ci := 5) (v := .int s1) (C := RX5) (T := TX5) (N := 22) hx hb hts iwX5_stitch_X5 hown hK hP 0 rfl rfl 0 (by decide) (hts _ fwX5_stitch_61) (fun _ h9 => h9) rfl dX5_stitch_19 ?_
  refine lv_if_le (tgt := 27) hx hb dX5_stitch_22 (by decide) (fun c1 => ?_) (fun c1 => ?_)
  · have h := h.1 c1
    refine lv_aload_n hx hb dX5_stitch_27 rfl (lv_at hl 0 rfl) ?_
    refine va_get (D := (dC, dI)) (ci := 5) (v := .ref (q 6)) (C := RX5) (T := TX5) (N := 22) hx hb hts iwX5_stitch_X5 hown hK hP 0 rfl rfl 8 (by decide) (hts _ fwX5_stitch_29) (fun _ h9 => h9) rfl dX5_stitch_28 ?_
    refine lv_iconst (v := 4) hx hb dX5_stitch_31 (by decide) ?_
    refine lv_iload_n hx hb dX5_stitch_32 rfl (lv_at hl 1 rfl) ?_
    refine lv_imul hx hb dX5_stitch_33 ?_
    refine lv_iload_n hx hb dX5_stitch_34 rfl (lv_at hl 2 rfl) ?_
    refine lv_iadd hx hb dX5_stitch_35 ?_
    obtain ⟨b2, h⟩ := h
    refine va_zald (D := (dC, dI)) hx hb hK hP 6 2 rfl rfl b2 dX5_stitch_36 ?_
    refine lv_topi (fun i3 ei3 => ?_)
    have h := h i3 ei3
    refine lv_istore (lv' := [(4, .int i3), (0, .ref (q 0)), (1, .int v1), (2, .int v2), (3, .int v3)]) hx hb dX5_stitch_37 hl (by decide) rfl (fun ls hl => ?_)
    refine lv_aload_n hx hb dX5_stitch_39 rfl (lv_at hl 1 rfl) ?_
    refine va_get (D := (dC, dI)) (ci := 5) (v := .ref (q 6)) (C := RX5) (T := TX5) (N := 22) hx hb hts iwX5_stitch_X5 hown hK hP 0 rfl rfl 8 (by decide) (hts _ fwX5_stitch_29) (fun _ h9 => h9) rfl dX5_stitch_40 ?_
    refine lv_iconst (v := 4) hx hb dX5_stitch_43 (by decide) ?_
    refine lv_iload_n hx hb dX5_stitch_44 rfl (lv_at hl 2 rfl) ?_
    refine lv_imul hx hb dX5_stitch_45 ?_
    refine lv_iload_n hx hb dX5_stitch_46 rfl (lv_at hl 3 rfl) ?_
    refine lv_iadd hx hb dX5_stitch_47 ?_
    refine lv_iload_n hx hb dX5_stitch_48 rfl (lv_at hl 4 rfl) ?_
    obtain ⟨b4, h⟩ := h
    refine va_zast (D := (dC, dI)) hx hb hK hP (d_WM ha) hS 6 2 rfl rfl b4 dX5_stitch_49 (fun H locs hP _ hS => ?_)
    obtain ⟨f5, ef5⟩ : ∃ z : (Nat → Int32), z = upd my (((4 * v1) + v2) : Int32).toNatClampNeg (vp_nar .boolean v3) := ⟨_, rfl⟩
    have h := h f5 ef5
    have hP : va_P (dC, dI) vwCl (WM q cI cJ cZ s1 kd kn kp ka kt ku kr cn xs ys x2 y2 f5 tl po so st nr co rg re) H := by rw [ef5]; exact hP
    refine lv_aload_n hx hb dX5_stitch_50 rfl (lv_at hl 1 rfl) ?_
    refine cl_v (va_runV (As := []) (rest := []) ⟨hx, hb, hml, hown, hts⟩ (ktX5_forget l dC dI q cI cJ cZ H.size s1 kd kn kp ka kt ku kr cn xs ys x2 y2 f5 tl po so st nr co rg re  h) (cwV 0 hts gX5_stitch_X5_forget rfl rfl rfl (by decide +kernel) ⟨Nat.le_of_ble_eq_true rfl, Nat.le_of_ble_eq_true rfl⟩) ⟨wd.blind, va_recv hK hP (ci := 5) (q0 := 0) rfl rfl, fun U hU hW => ⟨rfl, wd.at hP hK ha hN hU hW⟩⟩ rfl rfl hl.1 rfl (lv_room (Nat.le_of_ble_eq_true rfl)) dX5_stitch_51 ⟨Nat.le_of_ble_eq_true rfl, Nat.le_of_ble_eq_true rfl⟩) hS (fun u7 H locs h hP hS => ?_)
    have hP : va_P (dC, dI) vwCl (WM q cI cJ cZ s1 kd kn kp u7.1 u7.2 ku kr cn xs ys x2 y2 f5 tl po so st nr co rg re) H := hP
    refine lv_iload hx hb dX5_stitch_54 (lv_at hl 0 rfl) ?_
    obtain ⟨hn9, h⟩ := h
    exact rt_z (s1, u7.1, u7.2, f5) hx hb hr hlk hn9 h (fun t ht => by rw [ht]; exact hP) hS dX5_stitch_56
  · have h := h.2 c1
    refine lv_iconst (v := 0) hx hb dX5_stitch_25 (by decide) ?_
    exact rt_z (s1, ka, kt, my) hx hb hr hlk (by decide) h (fun t ht => by rw [ht]; exact hP) hS dX5_stitch_26
def wX5_stitch (kn : Int32) (cn : (Nat → Int32)) (kc : Int32) (ka : Int32) (kt : Int32) (my : (Nat → Int32)) (v1 : Int32) (v2 : Int32) (v3 : Int32) (K : Int32 → (Int32 × Int32 × Int32 × (Nat → Int32)) → Prop) : Prop := (wX5_isBox kn cn v1 v2 (fun (r8 : Int32) => ((r8 = 0 → bkX5_stitch_15 kn cn K kc ka kt my v1 v2 v3 1) ∧ (¬ (r8 = 0) → bkX5_stitch_15 kn cn K kc ka kt my v1 v2 v3 0))))
set_option maxHeartbeats 4000000 in
set_option maxRecDepth 100000 in
theorem ktX5_stitch (l : Launch) (dC : Nat → ClassId) (dI : Nat → Nat → Nat) (q : Nat → Nat) (cI cJ cZ : ClassId) (sz : Nat) (kc : Int32) (kd : Int32) (kn : Int32) (kp : Int32) (ka : Int32) (kt : Int32) (ku : Int32) (kr : Int32) (cn : (Nat → Int32)) (xs : (Nat → Int32)) (ys : (Nat → Int32)) (x2 : (Nat → Int32)) (y2 : (Nat → Int32)) (my : (Nat → Int32)) (tl : (Nat → Int32)) (po : (Nat → Int32)) (so : (Nat → Int32)) (st : (Nat → Int32)) (nr : (Nat → Int64)) (co : (Nat → Int32)) (rg : (Nat → Int32)) (re : (Nat → Int64)) (v1 : Int32) (v2 : Int32) (v3 : Int32) {K : Int32 → (Int32 × Int32 × Int32 × (Nat → Int32)) → Prop} (h : wX5_stitch kn cn kc ka kt my v1 v2 v3 K) : Met l yX5_stitch wsX5_stitch { frames := 3, cells := 0, slots := 0, locals := 68 } (va_Pc [.ref (q 0), .int v1, .int v2, .int v3] (wd dC dI cI cJ cZ q 15 sz (WM q cI cJ cZ kc kd kn kp ka kt ku kr cn xs ys x2 y2 my tl po so st nr co rg re))) (QX5_stitch dC dI cI cJ cZ q sz kd kn kp ku kr cn xs ys x2 y2 tl po so st nr co rg re K) 0 0 (AF q 15 sz) := by
  refine met_of [.ref (q 0), .int v1, .int v2, .int v3] (by decide +kernel) rfl (Nat.le_of_ble_eq_true rfl) ?_
  intro p e s m below meth c ls hsz C hK ha hN hl hP
  subst hsz
  obtain ⟨hx, hb, hr, hml, hown, hts, hlk⟩ := id C
  have hl : lv_has ls 5 [(0, .ref (q 0)), (1, .int v1), (2, .int v2), (3, .int v3)] := hl
  refine w_go (Pw := fun H => va_P (dC, dI) vwCl (WM q cI cJ cZ kc kd kn kp ka kt ku kr cn xs ys x2 y2 my tl po so st nr co rg re) H) (A := AF q 15 s.heap.size) (fun H locs hP hS => ?_) hP
  unfold wX5_stitch at h
  refine lv_aload_n hx hb dX5_stitch_0 rfl (lv_at hl 0 rfl) ?_
  refine lv_aload_n hx hb dX5_stitch_1 rfl (lv_at hl 0 rfl) ?_
  refine lv_iload_n hx hb dX5_stitch_2 rfl (lv_at hl 1 rfl) ?_
  refine lv_iload_n hx hb dX5_stitch_3 rfl (lv_at hl 2 rfl) ?_
  refine cl_i (va_runV (As := [.int v1, .int v2]) (rest := [.ref (q 0)]) ⟨hx, hb, hml, hown, hts⟩ (ktX5_isBox l dC dI q cI cJ cZ H.size kc kd kn kp ka kt ku kr cn xs ys x2 y2 my tl po so st nr co rg re v1 v2 h) (cwV 2 hts gX5_stitch_X5_isBox rfl rfl rfl (by decide +kernel) ⟨Nat.le_of_ble_eq_true rfl, Nat.le_of_ble_eq_true rfl⟩) ⟨wd.blind, va_recv hK hP (ci := 5) (q0 := 0) rfl rfl, fun U hU hW => ⟨rfl, wd.at hP hK ha hN hU hW⟩⟩ rfl rfl hl.1 rfl (lv_room (Nat.le_of_ble_eq_true rfl)) dX5_stitch_4 ⟨Nat.le_of_ble_eq_true rfl, Nat.le_of_ble_eq_true rfl⟩) hS (fun r8 _ H locs h hP hS => ?_)
  have hP : va_P (dC, dI) vwCl (WM q cI cJ cZ kc kd kn kp ka kt ku kr cn xs ys x2 y2 my tl po so st nr co rg re) H := hP
  refine lv_if_eq (tgt := 14) hx hb dX5_stitch_7 (by decide) (fun c10 => ?_) (fun c10 => ?_)
  · have h := h.1 c10
    refine lv_iconst (v := 1) hx hb dX5_stitch_14 (by decide) ?_
    exact mX5_stitch_15 kd kn kp ku kr cn xs ys x2 y2 tl po so st nr co rg re C hK ha hN  kc ka kt my v1 v2 v3 1 ls H locs h (lv_sub hl [0, 1, 2, 3] rfl) hP hS
  · have h := h.2 c10
    refine lv_iconst (v := 0) hx hb dX5_stitch_10 (by decide) ?_
    refine lv_goto (tgt := 15) hx hb dX5_stitch_11 (by decide) ?_
    exact mX5_stitch_15 kd kn kp ku kr cn xs ys x2 y2 tl po so st nr co rg re C hK ha hN  kc ka kt my v1 v2 v3 0 ls H locs h (lv_sub hl [0, 1, 2, 3] rfl) hP hS

theorem fwX5_pre_61 : Cond.fieldLink RX5 61 "MaskPartsModel" "code" "I" ∈ wsX5_pre := by decide +kernel
set_option maxRecDepth 20000 in
theorem iwX5_pre_X5 : ∀ w ∈ wsX50, w ∈ wsX5_pre := by decide +kernel
theorem fwX5_pre_33 : Cond.fieldLink RX5 33 "MaskPartsModel" "told" "[I" ∈ wsX5_pre := by decide +kernel
theorem cwX5_pre_94 : Cond.constantLong RX5 94 (-1) ∈ wsX5_pre := by decide +kernel
theorem cwX5_pre_96 : Cond.constantLong RX5 96 (3) ∈ wsX5_pre := by decide +kernel
abbrev QX5_pre (dC : Nat → ClassId) (dI : Nat → Nat → Nat) (cI cJ cZ : ClassId) (q : Nat → Nat) (sz : Nat) (kd : Int32) (kn : Int32) (kp : Int32) (ku : Int32) (kr : Int32) (cn : (Nat → Int32)) (xs : (Nat → Int32)) (ys : (Nat → Int32)) (x2 : (Nat → Int32)) (y2 : (Nat → Int32)) (my : (Nat → Int32)) (po : (Nat → Int32)) (so : (Nat → Int32)) (st : (Nat → Int32)) (nr : (Nat → Int64)) (co : (Nat → Int32)) (rg : (Nat → Int32)) (re : (Nat → Int64)) (K : Int32 → (Int32 × Int32 × Int32 × (Nat → Int32)) → Prop) : Array Value → State → Outcome → State → Prop := va_Qi (fun (r : Int32) (u : Int32 × Int32 × Int32 × (Nat → Int32)) => K r u) (fun (u : Int32 × Int32 × Int32 × (Nat → Int32)) t => va_P (dC, dI) vwCl (WM q cI cJ cZ u.1 kd kn kp u.2.1 u.2.2.1 ku kr cn xs ys x2 y2 my u.2.2.2 po so st nr co rg re) t.heap) (AF q 15 sz)
def bkX5_pre_33 (kn : Int32) (cn : (Nat → Int32)) (K : Int32 → (Int32 × Int32 × Int32 × (Nat → Int32)) → Prop) (kc : Int32) (ka : Int32) (kt : Int32) (tl : (Nat → Int32)) (v1 : Int32) (v2 : Int32) (v3 : Int32) (s1 : Int32) : Prop := ((s1 ≤ 0 → (vp_in (((4 * v1) + v2)) 40 ∧ (∀ i3 : Int32, i3 = (tl (((4 * v1) + v2) : Int32).toNatClampNeg) → (vp_in (((4 * v1) + v2)) 40 ∧ (∀ f5 : (Nat → Int32), f5 = upd tl (((4 * v1) + v2) : Int32).toNatClampNeg v3 → (wX5_forget ka kt  (fun (u7 : Int32 × Int32) => K i3 (s1, u7.1, u7.2, f5)))))))) ∧ (¬ (s1 ≤ 0) → K 0 (s1, ka, kt, tl)))
set_option maxHeartbeats 4000000 in
set_option maxRecDepth 100000 in
theorem mX5_pre_33 {p : Program} {l : Launch} {e : Env} {s : State} {m : MethodId} {av : Array Value} {below : List Frame} {meth : Method} {c : Code} {dC : Nat → ClassId} {dI : Nat → Nat → Nat} {cI cJ cZ : ClassId} {q : Nat → Nat} {K : Int32 → (Int32 × Int32 × Int32 × (Nat → Int32)) → Prop} (kd : Int32) (kn : Int32) (kp : Int32) (ku : Int32) (kr : Int32) (cn : (Nat → Int32)) (xs : (Nat → Int32)) (ys : (Nat → Int32)) (x2 : (Nat → Int32)) (y2 : (Nat → Int32)) (my : (Nat → Int32)) (po : (Nat → Int32)) (so : (Nat → Int32)) (st : (Nat → Int32)) (nr : (Nat → Int64)) (co : (Nat → Int32)) (rg : (Nat → Int32)) (re : (Nat → Int64)) (C : CX p s m av meth c cX5_pre 5 (some .int) RX5 wsX5_pre) (hK : va_K (dC, dI) vwCl (TY cI cJ cZ) s) (ha : apart q 15) (hN : NX s)  : ∀ (kc : Int32) (ka : Int32) (kt : Int32) (tl : (Nat → Int32)) (v1 : Int32) (v2 : Int32) (v3 : Int32) (s1 : Int32) (ls : Array Slot) (H : Heap) (locs : List Loc), bkX5_pre_33 kn cn K kc ka kt tl v1 v2 v3 s1 → lv_has ls 5 [(0, .ref (q 0)), (1, .int v1), (2, .int v2), (3, .int v3)] → va_P (dC, dI) vwCl (WM q cI cJ cZ kc kd kn kp ka kt ku kr cn xs ys x2 y2 my tl po so st nr co rg re) H → va_S (AF q 15 s.heap.size) s.heap H locs → W p l e { frames := 3, cells := 0, slots := 0, locals := 68 } s m av below meth c H locs 0 0 (MQ below (QX5_pre dC dI cI cJ cZ q s.heap.size kd kn kp ku kr cn xs ys x2 y2 my po so st nr co rg re K) av s 0 0 (AF q 15 s.heap.size)) (F0 m 33 ls [.int s1, .ref (q 0)]) := by
  obtain ⟨hx, hb, hr, hml, hown, hts, hlk⟩ := id C
  intro kc ka kt tl v1 v2 v3 s1 ls H locs h hl hP hS
  unfold bkX5_pre_33 at h
  refine va_put (D := (dC, dI)) (ci := 5) (v := .int s1) (ty := .int) (C := RX5) (T := TX5) (N := 22) hx hb hts iwX5_pre_X5 tyX5 tyX5_ok nmX5 hown hK hP (d_WM ha) hS 0 rfl rfl 0 (by decide) (hts _ fwX5_pre_61) (fun _ h9 => h9) rfl (by decide +kernel) rfl rfl (Nat.le_of_ble_eq_true rfl) dX5_pre_33 (fun H locs hP _ hS => ?_)
  have hP : va_P (dC, dI) vwCl (WM q cI cJ cZ s1 kd kn kp ka kt ku kr cn xs ys x2 y2 my tl po so st nr co rg re) H := hP
  refine lv_aload_n hx hb dX5_pre_36 rfl (lv_at hl 0 rfl) ?_
  refine va_get (D := (dC, dI)) (ci := 5) (v := .int s1) (C := RX5) (T := TX5) (N := 22) hx hb hts iwX5_pre_X5 hown hK hP 0 rfl rfl 0 (by decide) (hts _ fwX5_pre_61) (fun _ h9 => h9) rfl dX5_pre_37 ?_
  refine lv_if_le (tgt := 45) hx hb dX5_pre_40 (by decide) (fun c1 => ?_) (fun c1 => ?_)
  · have h := h.1 c1
    refine lv_aload_n hx hb dX5_pre_45 rfl (lv_at hl 0 rfl) ?_
    refine va_get (D := (dC, dI)) (ci := 5) (v := .ref (q 7)) (C := RX5) (T := TX5) (N := 22) hx hb hts iwX5_pre_X5 hown hK hP 0 rfl rfl 9 (by decide) (hts _ fwX5_pre_33) (fun _ h9 => h9) rfl dX5_pre_46 ?_
    refine lv_iconst (v := 4) hx hb dX5_pre_49 (by decide) ?_
    refine lv_iload_n hx hb dX5_pre_50 rfl (lv_at hl 1 rfl) ?_
    refine lv_imul hx hb dX5_pre_51 ?_
    refine lv_iload_n hx hb dX5_pre_52 rfl (lv_at hl 2 rfl) ?_
    refine lv_iadd hx hb dX5_pre_53 ?_
    obtain ⟨b2, h⟩ := h
    refine va_iald (D := (dC, dI)) hx hb hK hP 7 0 rfl rfl b2 dX5_pre_54 ?_
    refine lv_topi (fun i3 ei3 => ?_)
    have h := h i3 ei3
    refine lv_istore (lv' := [(4, .int i3), (0, .ref (q 0)), (1, .int v1), (2, .int v2), (3, .int v3)]) hx hb dX5_pre_55 hl (by decide) rfl (fun ls hl => ?_)
    refine lv_aload_n hx hb dX5_pre_57 rfl (lv_at hl 1 rfl) ?_
    refine va_get (D := (dC, dI)) (ci := 5) (v := .ref (q 7)) (C := RX5) (T := TX5) (N := 22) hx hb hts iwX5_pre_X5 hown hK hP 0 rfl rfl 9 (by decide) (hts _ fwX5_pre_33) (fun _ h9 => h9) rfl dX5_pre_58 ?_
    refine lv_iconst (v := 4) hx hb dX5_pre_61 (by decide) ?_
    refine lv_iload_n hx hb dX5_pre_62 rfl (lv_at hl 2 rfl) ?_
    refine lv_imul hx hb dX5_pre_63 ?_
    refine lv_iload_n hx hb dX5_pre_64 rfl (lv_at hl 3 rfl) ?_
    refine lv_iadd hx hb dX5_pre_65 ?_
    refine lv_iload_n hx hb dX5_pre_66 rfl (lv_at hl 4 rfl) ?_
    obtain ⟨b4, h⟩ := h
    refine va_iast (D := (dC, dI)) hx hb hK hP (d_WM ha) hS 7 0 rfl rfl b4 dX5_pre_67 (fun H locs hP _ hS => ?_)
    obtain ⟨f5, ef5⟩ : ∃ z : (Nat → Int32), z = upd tl (((4 * v1) + v2) : Int32).toNatClampNeg v3 := ⟨_, rfl⟩
    have h := h f5 ef5
    have hP : va_P (dC, dI) vwCl (WM q cI cJ cZ s1 kd kn kp ka kt ku kr cn xs ys x2 y2 my f5 po so st nr co rg re) H := by rw [ef5]; exact hP
    refine lv_aload_n hx hb dX5_pre_68 rfl (lv_at hl 1 rfl) ?_
    refine cl_v (va_runV (As := []) (rest := []) ⟨hx, hb, hml, hown, hts⟩ (ktX5_forget l dC dI q cI cJ cZ H.size s1 kd kn kp ka kt ku kr cn xs ys x2 y2 my f5 po so st nr co rg re  h) (cwV 0 hts gX5_pre_X5_forget rfl rfl rfl (by decide +kernel) ⟨Nat.le_of_ble_eq_true rfl, Nat.le_of_ble_eq_true rfl⟩) ⟨wd.blind, va_recv hK hP (ci := 5) (q0 := 0) rfl rfl, fun U hU hW => ⟨rfl, wd.at hP hK ha hN hU hW⟩⟩ rfl rfl hl.1 rfl (lv_room (Nat.le_of_ble_eq_true rfl)) dX5_pre_69 ⟨Nat.le_of_ble_eq_true rfl, Nat.le_of_ble_eq_true rfl⟩) hS (fun u7 H locs h hP hS => ?_)
    have hP : va_P (dC, dI) vwCl (WM q cI cJ cZ s1 kd kn kp u7.1 u7.2 ku kr cn xs ys x2 y2 my f5 po so st nr co rg re) H := hP
    refine lv_iload hx hb dX5_pre_72 (lv_at hl 0 rfl) ?_
    exact rt_i (s1, u7.1, u7.2, f5) hx hb hr hlk h (fun t ht => by rw [ht]; exact hP) hS dX5_pre_74
  · have h := h.2 c1
    refine lv_iconst (v := 0) hx hb dX5_pre_43 (by decide) ?_
    exact rt_i (s1, ka, kt, tl) hx hb hr hlk h (fun t ht => by rw [ht]; exact hP) hS dX5_pre_44
def wX5_pre (kn : Int32) (cn : (Nat → Int32)) (kc : Int32) (ka : Int32) (kt : Int32) (tl : (Nat → Int32)) (v1 : Int32) (v2 : Int32) (v3 : Int32) (K : Int32 → (Int32 × Int32 × Int32 × (Nat → Int32)) → Prop) : Prop := (wX5_isBox kn cn v1 v2 (fun (r8 : Int32) => ((¬ r8 = 0 → (wX5_isIn v3.toInt64 (-1) 3 (fun r11 : Int32 => ((¬ r11 = 0 → bkX5_pre_33 kn cn K kc ka kt tl v1 v2 v3 0) ∧ (r11 = 0 → bkX5_pre_33 kn cn K kc ka kt tl v1 v2 v3 2))))) ∧ (r8 = 0 → bkX5_pre_33 kn cn K kc ka kt tl v1 v2 v3 1))))
set_option maxHeartbeats 4000000 in
set_option maxRecDepth 100000 in
theorem ktX5_pre (l : Launch) (dC : Nat → ClassId) (dI : Nat → Nat → Nat) (q : Nat → Nat) (cI cJ cZ : ClassId) (sz : Nat) (kc : Int32) (kd : Int32) (kn : Int32) (kp : Int32) (ka : Int32) (kt : Int32) (ku : Int32) (kr : Int32) (cn : (Nat → Int32)) (xs : (Nat → Int32)) (ys : (Nat → Int32)) (x2 : (Nat → Int32)) (y2 : (Nat → Int32)) (my : (Nat → Int32)) (tl : (Nat → Int32)) (po : (Nat → Int32)) (so : (Nat → Int32)) (st : (Nat → Int32)) (nr : (Nat → Int64)) (co : (Nat → Int32)) (rg : (Nat → Int32)) (re : (Nat → Int64)) (v1 : Int32) (v2 : Int32) (v3 : Int32) {K : Int32 → (Int32 × Int32 × Int32 × (Nat → Int32)) → Prop} (h : wX5_pre kn cn kc ka kt tl v1 v2 v3 K) : Met l yX5_pre wsX5_pre { frames := 3, cells := 0, slots := 0, locals := 68 } (va_Pc [.ref (q 0), .int v1, .int v2, .int v3] (wd dC dI cI cJ cZ q 15 sz (WM q cI cJ cZ kc kd kn kp ka kt ku kr cn xs ys x2 y2 my tl po so st nr co rg re))) (QX5_pre dC dI cI cJ cZ q sz kd kn kp ku kr cn xs ys x2 y2 my po so st nr co rg re K) 0 0 (AF q 15 sz) := by
  refine met_of [.ref (q 0), .int v1, .int v2, .int v3] (by decide +kernel) rfl (Nat.le_of_ble_eq_true rfl) ?_
  intro p e s m below meth c ls hsz C hK ha hN hl hP
  subst hsz
  obtain ⟨hx, hb, hr, hml, hown, hts, hlk⟩ := id C
  have hl : lv_has ls 5 [(0, .ref (q 0)), (1, .int v1), (2, .int v2), (3, .int v3)] := hl
  refine w_go (Pw := fun H => va_P (dC, dI) vwCl (WM q cI cJ cZ kc kd kn kp ka kt ku kr cn xs ys x2 y2 my tl po so st nr co rg re) H) (A := AF q 15 s.heap.size) (fun H locs hP hS => ?_) hP
  unfold wX5_pre at h
  refine lv_aload_n hx hb dX5_pre_0 rfl (lv_at hl 0 rfl) ?_
  refine lv_aload_n hx hb dX5_pre_1 rfl (lv_at hl 0 rfl) ?_
  refine lv_iload_n hx hb dX5_pre_2 rfl (lv_at hl 1 rfl) ?_
  refine lv_iload_n hx hb dX5_pre_3 rfl (lv_at hl 2 rfl) ?_
  refine cl_i (va_runV (As := [.int v1, .int v2]) (rest := [.ref (q 0)]) ⟨hx, hb, hml, hown, hts⟩ (ktX5_isBox l dC dI q cI cJ cZ H.size kc kd kn kp ka kt ku kr cn xs ys x2 y2 my tl po so st nr co rg re v1 v2 h) (cwV 2 hts gX5_pre_X5_isBox rfl rfl rfl (by decide +kernel) ⟨Nat.le_of_ble_eq_true rfl, Nat.le_of_ble_eq_true rfl⟩) ⟨wd.blind, va_recv hK hP (ci := 5) (q0 := 0) rfl rfl, fun U hU hW => ⟨rfl, wd.at hP hK ha hN hU hW⟩⟩ rfl rfl hl.1 rfl (lv_room (Nat.le_of_ble_eq_true rfl)) dX5_pre_4 ⟨Nat.le_of_ble_eq_true rfl, Nat.le_of_ble_eq_true rfl⟩) hS (fun r8 _ H locs h hP hS => ?_)
  have hP : va_P (dC, dI) vwCl (WM q cI cJ cZ kc kd kn kp ka kt ku kr cn xs ys x2 y2 my tl po so st nr co rg re) H := hP
  refine lv_if_ne (tgt := 14) hx hb dX5_pre_7 (by decide) (fun c10 => ?_) (fun c10 => ?_)
  · have h := h.1 c10
    refine lv_iload_n hx hb dX5_pre_14 rfl (lv_at hl 3 rfl) ?_
    refine lv_i2l hx hb dX5_pre_15 rfl ?_
    refine lv_ldc2 (v := (-1)) hx hb hown (hts _ cwX5_pre_94) dX5_pre_16 ?_
    refine lv_ldc2 (v := 3) hx hb hown (hts _ cwX5_pre_96) dX5_pre_19 ?_
    refine cl_pi (va_runS (As := [.long v3.toInt64, .long (-1), .long 3]) (rest := [.ref (q 0)]) ⟨hx, hb, hml, hown, hts⟩ (ktX5_isIn l H.size v3.toInt64 (-1) 3 h) (va_cwS 3 hts gX5_pre_X5_isIn rfl rfl rfl (by decide +kernel) ⟨Nat.le_of_ble_eq_true rfl, Nat.le_of_ble_eq_true rfl⟩) ⟨pz.blind, fun U hU _ => ⟨rfl, pz.at hU⟩⟩ rfl rfl hl.1 rfl (lv_room (Nat.le_of_ble_eq_true rfl)) dX5_pre_22 ⟨Nat.le_of_ble_eq_true rfl, Nat.le_of_ble_eq_true rfl⟩) hP hS (fun r11 _ H locs h hP hS => ?_)
    refine lv_if_ne (tgt := 32) hx hb dX5_pre_25 (by decide) (fun c13 => ?_) (fun c13 => ?_)
    · have h := h.1 c13
      refine lv_iconst (v := 0) hx hb dX5_pre_32 (by decide) ?_
      exact mX5_pre_33 kd kn kp ku kr cn xs ys x2 y2 my po so st nr co rg re C hK ha hN  kc ka kt tl v1 v2 v3 0 ls H locs h (lv_sub hl [0, 1, 2, 3] rfl) hP hS
    · have h := h.2 c13
      refine lv_iconst (v := 2) hx hb dX5_pre_28 (by decide) ?_
      refine lv_goto (tgt := 33) hx hb dX5_pre_29 (by decide) ?_
      exact mX5_pre_33 kd kn kp ku kr cn xs ys x2 y2 my po so st nr co rg re C hK ha hN  kc ka kt tl v1 v2 v3 2 ls H locs h (lv_sub hl [0, 1, 2, 3] rfl) hP hS
  · have h := h.2 c10
    refine lv_iconst (v := 1) hx hb dX5_pre_10 (by decide) ?_
    refine lv_goto (tgt := 33) hx hb dX5_pre_11 (by decide) ?_
    exact mX5_pre_33 kd kn kp ku kr cn xs ys x2 y2 my po so st nr co rg re C hK ha hN  kc ka kt tl v1 v2 v3 1 ls H locs h (lv_sub hl [0, 1, 2, 3] rfl) hP hS

theorem fwX5_isNear_17 : Cond.fieldLink RX5 17 "MaskPartsModel" "xs" "[I" ∈ wsX5_isNear := by decide +kernel
set_option maxRecDepth 20000 in
theorem iwX5_isNear_X5 : ∀ w ∈ wsX50, w ∈ wsX5_isNear := by decide +kernel
theorem fwX5_isNear_23 : Cond.fieldLink RX5 23 "MaskPartsModel" "x2s" "[I" ∈ wsX5_isNear := by decide +kernel
theorem fwX5_isNear_20 : Cond.fieldLink RX5 20 "MaskPartsModel" "ys" "[I" ∈ wsX5_isNear := by decide +kernel
theorem fwX5_isNear_26 : Cond.fieldLink RX5 26 "MaskPartsModel" "y2s" "[I" ∈ wsX5_isNear := by decide +kernel
theorem fwX5_isNear_7 : Cond.fieldLink RX5 7 "MaskPartsModel" "distance" "I" ∈ wsX5_isNear := by decide +kernel
abbrev QX5_isNear (dC : Nat → ClassId) (dI : Nat → Nat → Nat) (cI cJ cZ : ClassId) (q : Nat → Nat) (sz : Nat) (kc : Int32) (kd : Int32) (kn : Int32) (kp : Int32) (ka : Int32) (kt : Int32) (ku : Int32) (kr : Int32) (cn : (Nat → Int32)) (xs : (Nat → Int32)) (ys : (Nat → Int32)) (x2 : (Nat → Int32)) (y2 : (Nat → Int32)) (my : (Nat → Int32)) (tl : (Nat → Int32)) (po : (Nat → Int32)) (so : (Nat → Int32)) (st : (Nat → Int32)) (nr : (Nat → Int64)) (co : (Nat → Int32)) (rg : (Nat → Int32)) (re : (Nat → Int64)) (K : Int32 → Prop) : Array Value → State → Outcome → State → Prop := va_Qi (fun (r : Int32) (u : Unit) => K r) (fun (u : Unit) t => va_P (dC, dI) vwCl (WM q cI cJ cZ kc kd kn kp ka kt ku kr cn xs ys x2 y2 my tl po so st nr co rg re) t.heap) (AF q 15 sz)
def wX5_isNear (kd : Int32) (xs : (Nat → Int32)) (ys : (Nat → Int32)) (x2 : (Nat → Int32)) (y2 : (Nat → Int32)) (v1 : Int32) (v2 : Int32) (K : Int32 → Prop) : Prop := (vp_in v1 40 ∧ (vp_in v1 40 ∧ (vp_in v2 40 ∧ (vp_in v2 40 ∧ (wX5_gap ((xs v1.toNatClampNeg)) ((x2 v1.toNatClampNeg)) ((xs v2.toNatClampNeg)) ((x2 v2.toNatClampNeg)) (fun r5 : Int32 => (vp_in v1 40 ∧ (vp_in v1 40 ∧ (vp_in v2 40 ∧ (vp_in v2 40 ∧ (wX5_gap ((ys v1.toNatClampNeg)) ((y2 v1.toNatClampNeg)) ((ys v2.toNatClampNeg)) ((y2 v2.toNatClampNeg)) (fun r11 : Int32 => ((0 ≤ (lg_cmp (((r5.toInt64 * r5.toInt64) + (r11.toInt64 * r11.toInt64))) ((kd.toInt64 * kd.toInt64))) → K 0 ) ∧ (¬ (0 ≤ (lg_cmp (((r5.toInt64 * r5.toInt64) + (r11.toInt64 * r11.toInt64))) ((kd.toInt64 * kd.toInt64)))) → K 1 ))))))))))))))
set_option maxHeartbeats 4000000 in
set_option maxRecDepth 100000 in
theorem ktX5_isNear (l : Launch) (dC : Nat → ClassId) (dI : Nat → Nat → Nat) (q : Nat → Nat) (cI cJ cZ : ClassId) (sz : Nat) (kc : Int32) (kd : Int32) (kn : Int32) (kp : Int32) (ka : Int32) (kt : Int32) (ku : Int32) (kr : Int32) (cn : (Nat → Int32)) (xs : (Nat → Int32)) (ys : (Nat → Int32)) (x2 : (Nat → Int32)) (y2 : (Nat → Int32)) (my : (Nat → Int32)) (tl : (Nat → Int32)) (po : (Nat → Int32)) (so : (Nat → Int32)) (st : (Nat → Int32)) (nr : (Nat → Int64)) (co : (Nat → Int32)) (rg : (Nat → Int32)) (re : (Nat → Int64)) (v1 : Int32) (v2 : Int32) {K : Int32 → Prop} (h : wX5_isNear kd xs ys x2 y2 v1 v2 K) : Met l yX5_isNear wsX5_isNear { frames := 1, cells := 0, slots := 0, locals := 23 } (va_Pc [.ref (q 0), .int v1, .int v2] (wd dC dI cI cJ cZ q 15 sz (WM q cI cJ cZ kc kd kn kp ka kt ku kr cn xs ys x2 y2 my tl po so st nr co rg re))) (QX5_isNear dC dI cI cJ cZ q sz kc kd kn kp ka kt ku kr cn xs ys x2 y2 my tl po so st nr co rg re K) 0 0 (AF q 15 sz) := by
  refine met_of [.ref (q 0), .int v1, .int v2] (by decide +kernel) rfl (Nat.le_of_ble_eq_true rfl) ?_
  intro p e s m below meth c ls hsz C hK ha hN hl hP
  subst hsz
  obtain ⟨hx, hb, hr, hml, hown, hts, hlk⟩ := id C
  have hl : lv_has ls 7 [(0, .ref (q 0)), (1, .int v1), (2, .int v2)] := hl
  refine w_go (Pw := fun H => va_P (dC, dI) vwCl (WM q cI cJ cZ kc kd kn kp ka kt ku kr cn xs ys x2 y2 my tl po so st nr co rg re) H) (A := AF q 15 s.heap.size) (fun H locs hP hS => ?_) hP
  unfold wX5_isNear at h
  refine lv_aload_n hx hb dX5_isNear_0 rfl (lv_at hl 0 rfl) ?_
  refine va_get (D := (dC, dI)) (ci := 5) (v := .ref (q 2)) (C := RX5) (T := TX5) (N := 22) hx hb hts iwX5_isNear_X5 hown hK hP 0 rfl rfl 4 (by decide) (hts _ fwX5_isNear_17) (fun _ h9 => h9) rfl dX5_isNear_1 ?_
  refine lv_iload_n hx hb dX5_isNear_4 rfl (lv_at hl 1 rfl) ?_
  obtain ⟨b1, h⟩ := h
  refine va_iald (D := (dC, dI)) hx hb hK hP 2 0 rfl rfl b1 dX5_isNear_5 ?_
  refine lv_aload_n hx hb dX5_isNear_6 rfl (lv_at hl 0 rfl) ?_
  refine va_get (D := (dC, dI)) (ci := 5) (v := .ref (q 4)) (C := RX5) (T := TX5) (N := 22) hx hb hts iwX5_isNear_X5 hown hK hP 0 rfl rfl 6 (by decide) (hts _ fwX5_isNear_23) (fun _ h9 => h9) rfl dX5_isNear_7 ?_
  refine lv_iload_n hx hb dX5_isNear_10 rfl (lv_at hl 1 rfl) ?_
  obtain ⟨b2, h⟩ := h
  refine va_iald (D := (dC, dI)) hx hb hK hP 4 0 rfl rfl b2 dX5_isNear_11 ?_
  refine lv_aload_n hx hb dX5_isNear_12 rfl (lv_at hl 0 rfl) ?_
  refine va_get (D := (dC, dI)) (ci := 5) (v := .ref (q 2)) (C := RX5) (T := TX5) (N := 22) hx hb hts iwX5_isNear_X5 hown hK hP 0 rfl rfl 4 (by decide) (hts _ fwX5_isNear_17) (fun _ h9 => h9) rfl dX5_isNear_13 ?_
  refine lv_iload_n hx hb dX5_isNear_16 rfl (lv_at hl 2 rfl) ?_
  obtain ⟨b3, h⟩ := h
  refine va_iald (D := (dC, dI)) hx hb hK hP 2 0 rfl rfl b3 dX5_isNear_17 ?_
  refine lv_aload_n hx hb dX5_isNear_18 rfl (lv_at hl 0 rfl) ?_
  refine va_get (D := (dC, dI)) (ci := 5) (v := .ref (q 4)) (C := RX5) (T := TX5) (N := 22) hx hb hts iwX5_isNear_X5 hown hK hP 0 rfl rfl 6 (by decide) (hts _ fwX5_isNear_23) (fun _ h9 => h9) rfl dX5_isNear_19 ?_
  refine lv_iload_n hx hb dX5_isNear_22 rfl (lv_at hl 2 rfl) ?_
  obtain ⟨b4, h⟩ := h
  refine va_iald (D := (dC, dI)) hx hb hK hP 4 0 rfl rfl b4 dX5_isNear_23 ?_
  refine cl_pi (va_runS (As := [.int ((xs v1.toNatClampNeg)), .int ((x2 v1.toNatClampNeg)), .int ((xs v2.toNatClampNeg)), .int ((x2 v2.toNatClampNeg))]) (rest := []) ⟨hx, hb, hml, hown, hts⟩ (ktX5_gap l H.size ((xs v1.toNatClampNeg)) ((x2 v1.toNatClampNeg)) ((xs v2.toNatClampNeg)) ((x2 v2.toNatClampNeg)) h) (va_cwS 4 hts gX5_isNear_X5_gap rfl rfl rfl (by decide +kernel) ⟨Nat.le_of_ble_eq_true rfl, Nat.le_of_ble_eq_true rfl⟩) ⟨pz.blind, fun U hU _ => ⟨rfl, pz.at hU⟩⟩ rfl rfl hl.1 rfl (lv_room (Nat.le_of_ble_eq_true rfl)) dX5_isNear_24 ⟨Nat.le_of_ble_eq_true rfl, Nat.le_of_ble_eq_true rfl⟩) hP hS (fun r5 _ H locs h hP hS => ?_)
  refine lv_i2l hx hb dX5_isNear_27 rfl ?_
  refine lv_lstore_n (lv' := [(3, .long r5.toInt64), (0, .ref (q 0)), (1, .int v1), (2, .int v2)]) hx hb dX5_isNear_28 rfl hl (by decide) rfl (fun ls hl => ?_)
  refine lv_aload_n hx hb dX5_isNear_29 rfl (lv_at hl 1 rfl) ?_
  refine va_get (D := (dC, dI)) (ci := 5) (v := .ref (q 3)) (C := RX5) (T := TX5) (N := 22) hx hb hts iwX5_isNear_X5 hown hK hP 0 rfl rfl 5 (by decide) (hts _ fwX5_isNear_20) (fun _ h9 => h9) rfl dX5_isNear_30 ?_
  refine lv_iload_n hx hb dX5_isNear_33 rfl (lv_at hl 2 rfl) ?_
  obtain ⟨b7, h⟩ := h
  refine va_iald (D := (dC, dI)) hx hb hK hP 3 0 rfl rfl b7 dX5_isNear_34 ?_
  refine lv_aload_n hx hb dX5_isNear_35 rfl (lv_at hl 1 rfl) ?_
  refine va_get (D := (dC, dI)) (ci := 5) (v := .ref (q 5)) (C := RX5) (T := TX5) (N := 22) hx hb hts iwX5_isNear_X5 hown hK hP 0 rfl rfl 7 (by decide) (hts _ fwX5_isNear_26) (fun _ h9 => h9) rfl dX5_isNear_36 ?_
  refine lv_iload_n hx hb dX5_isNear_39 rfl (lv_at hl 2 rfl) ?_
  obtain ⟨b8, h⟩ := h
  refine va_iald (D := (dC, dI)) hx hb hK hP 5 0 rfl rfl b8 dX5_isNear_40 ?_
  refine lv_aload_n hx hb dX5_isNear_41 rfl (lv_at hl 1 rfl) ?_
  refine va_get (D := (dC, dI)) (ci := 5) (v := .ref (q 3)) (C := RX5) (T := TX5) (N := 22) hx hb hts iwX5_isNear_X5 hown hK hP 0 rfl rfl 5 (by decide) (hts _ fwX5_isNear_20) (fun _ h9 => h9) rfl dX5_isNear_42 ?_
  refine lv_iload_n hx hb dX5_isNear_45 rfl (lv_at hl 3 rfl) ?_
  obtain ⟨b9, h⟩ := h
  refine va_iald (D := (dC, dI)) hx hb hK hP 3 0 rfl rfl b9 dX5_isNear_46 ?_
  refine lv_aload_n hx hb dX5_isNear_47 rfl (lv_at hl 1 rfl) ?_
  refine va_get (D := (dC, dI)) (ci := 5) (v := .ref (q 5)) (C := RX5) (T := TX5) (N := 22) hx hb hts iwX5_isNear_X5 hown hK hP 0 rfl rfl 7 (by decide) (hts _ fwX5_isNear_26) (fun _ h9 => h9) rfl dX5_isNear_48 ?_
  refine lv_iload_n hx hb dX5_isNear_51 rfl (lv_at hl 3 rfl) ?_
  obtain ⟨b10, h⟩ := h
  refine va_iald (D := (dC, dI)) hx hb hK hP 5 0 rfl rfl b10 dX5_isNear_52 ?_
  refine cl_pi (va_runS (As := [.int ((ys v1.toNatClampNeg)), .int ((y2 v1.toNatClampNeg)), .int ((ys v2.toNatClampNeg)), .int ((y2 v2.toNatClampNeg))]) (rest := []) ⟨hx, hb, hml, hown, hts⟩ (ktX5_gap l H.size ((ys v1.toNatClampNeg)) ((y2 v1.toNatClampNeg)) ((ys v2.toNatClampNeg)) ((y2 v2.toNatClampNeg)) h) (va_cwS 4 hts gX5_isNear_X5_gap rfl rfl rfl (by decide +kernel) ⟨Nat.le_of_ble_eq_true rfl, Nat.le_of_ble_eq_true rfl⟩) ⟨pz.blind, fun U hU _ => ⟨rfl, pz.at hU⟩⟩ rfl rfl hl.1 rfl (lv_room (Nat.le_of_ble_eq_true rfl)) dX5_isNear_53 ⟨Nat.le_of_ble_eq_true rfl, Nat.le_of_ble_eq_true rfl⟩) hP hS (fun r11 _ H locs h hP hS => ?_)
  refine lv_i2l hx hb dX5_isNear_56 rfl ?_
  refine lv_lstore (lv' := [(5, .long r11.toInt64), (3, .long r5.toInt64), (0, .ref (q 0)), (1, .int v1), (2, .int v2)]) hx hb dX5_isNear_57 hl (by decide) rfl (fun ls hl => ?_)
  refine lv_lload_n hx hb dX5_isNear_59 rfl (lv_at hl 1 rfl) ?_
  refine lv_lload_n hx hb dX5_isNear_60 rfl (lv_at hl 1 rfl) ?_
  refine lv_lmul hx hb dX5_isNear_61 ?_
  refine lv_lload hx hb dX5_isNear_62 (lv_at hl 0 rfl) ?_
  refine lv_lload hx hb dX5_isNear_64 (lv_at hl 0 rfl) ?_
  refine lv_lmul hx hb dX5_isNear_66 ?_
  refine lv_ladd hx hb dX5_isNear_67 ?_
  refine lv_aload_n hx hb dX5_isNear_68 rfl (lv_at hl 2 rfl) ?_
  refine va_get (D := (dC, dI)) (ci := 5) (v := .int kd) (C := RX5) (T := TX5) (N := 22) hx hb hts iwX5_isNear_X5 hown hK hP 0 rfl rfl 1 (by decide) (hts _ fwX5_isNear_7) (fun _ h9 => h9) rfl dX5_isNear_69 ?_
  refine lv_i2l hx hb dX5_isNear_72 rfl ?_
  refine lv_aload_n hx hb dX5_isNear_73 rfl (lv_at hl 2 rfl) ?_
  refine va_get (D := (dC, dI)) (ci := 5) (v := .int kd) (C := RX5) (T := TX5) (N := 22) hx hb hts iwX5_isNear_X5 hown hK hP 0 rfl rfl 1 (by decide) (hts _ fwX5_isNear_7) (fun _ h9 => h9) rfl dX5_isNear_74 ?_
  refine lv_i2l hx hb dX5_isNear_77 rfl ?_
  refine lv_lmul hx hb dX5_isNear_78 ?_
  refine W.lcmp hx hb dX5_isNear_79 ?_
  refine lv_if_ge (tgt := 87) hx hb dX5_isNear_80 (by decide) (fun c13 => ?_) (fun c13 => ?_)
  · have h := h.1 c13
    refine lv_iconst (v := 0) hx hb dX5_isNear_87 (by decide) ?_
    exact rt_z () hx hb hr hlk (by decide) h (fun t ht => by rw [ht]; exact hP) hS dX5_isNear_88
  · have h := h.2 c13
    refine lv_iconst (v := 1) hx hb dX5_isNear_83 (by decide) ?_
    refine lv_goto (tgt := 88) hx hb dX5_isNear_84 (by decide) ?_
    exact rt_z () hx hb hr hlk (by decide) h (fun t ht => by rw [ht]; exact hP) hS dX5_isNear_88

theorem fwX5_findNear_13 : Cond.fieldLink RX5 13 "MaskPartsModel" "counts" "[I" ∈ wsX5_findNear := by decide +kernel
set_option maxRecDepth 20000 in
theorem iwX5_findNear_X5 : ∀ w ∈ wsX50, w ∈ wsX5_findNear := by decide +kernel
theorem fwX5_findNear_45 : Cond.fieldLink RX5 45 "MaskPartsModel" "near" "[J" ∈ wsX5_findNear := by decide +kernel
theorem fwX5_findNear_36 : Cond.fieldLink RX5 36 "MaskPartsModel" "partOf" "[I" ∈ wsX5_findNear := by decide +kernel
theorem fwX5_findNear_64 : Cond.fieldLink RX5 64 "MaskPartsModel" "shapes" "I" ∈ wsX5_findNear := by decide +kernel
abbrev QX5_findNear (dC : Nat → ClassId) (dI : Nat → Nat → Nat) (cI cJ cZ : ClassId) (q : Nat → Nat) (sz : Nat) (kc : Int32) (kd : Int32) (kn : Int32) (kp : Int32) (ka : Int32) (kt : Int32) (ku : Int32) (kr : Int32) (cn : (Nat → Int32)) (xs : (Nat → Int32)) (ys : (Nat → Int32)) (x2 : (Nat → Int32)) (y2 : (Nat → Int32)) (my : (Nat → Int32)) (tl : (Nat → Int32)) (po : (Nat → Int32)) (so : (Nat → Int32)) (st : (Nat → Int32)) (co : (Nat → Int32)) (rg : (Nat → Int32)) (re : (Nat → Int64)) (K : (Nat → Int64) → Prop) : Array Value → State → Outcome → State → Prop := va_Qv (fun (u : (Nat → Int64)) => K u) (fun (u : (Nat → Int64)) t => va_P (dC, dI) vwCl (WM q cI cJ cZ kc kd kn kp ka kt ku kr cn xs ys x2 y2 my tl po so st u co rg re) t.heap) (AF q 15 sz)
def bkX5_findNear_72 (kd : Int32) (kn : Int32) (cn : (Nat → Int32)) (xs : (Nat → Int32)) (ys : (Nat → Int32)) (x2 : (Nat → Int32)) (y2 : (Nat → Int32)) (po : (Nat → Int32)) (K : (Nat → Int64) → Prop) (k13 : (Nat → Int64) → Int32 → Int32 → Int32 → Int32 → Prop) (nr : (Nat → Int64)) (v1 : Int32) (v2 : Int32) (v3 : Int32) (v4 : Int32) (s1 : Int32) (s2 : Int64) (s3 : Int64) : Prop := (vp_in s1 40 ∧ (∀ f2 : (Nat → Int64), f2 = vp_updL nr s1.toNatClampNeg ((s2 ||| s3)) → (∀ i3 : Int32, i3 = v4 + 1 → k13 f2 v1 v2 v3 i3)))
set_option maxHeartbeats 4000000 in
set_option maxRecDepth 100000 in
theorem mX5_findNear_72 {p : Program} {l : Launch} {e : Env} {s : State} {m : MethodId} {av : Array Value} {below : List Frame} {meth : Method} {c : Code} {dC : Nat → ClassId} {dI : Nat → Nat → Nat} {cI cJ cZ : ClassId} {q : Nat → Nat} {K : (Nat → Int64) → Prop} {k13 : (Nat → Int64) → Int32 → Int32 → Int32 → Int32 → Prop} (kc : Int32) (kd : Int32) (kn : Int32) (kp : Int32) (ka : Int32) (kt : Int32) (ku : Int32) (kr : Int32) (cn : (Nat → Int32)) (xs : (Nat → Int32)) (ys : (Nat → Int32)) (x2 : (Nat → Int32)) (y2 : (Nat → Int32)) (my : (Nat → Int32)) (tl : (Nat → Int32)) (po : (Nat → Int32)) (so : (Nat → Int32)) (st : (Nat → Int32)) (co : (Nat → Int32)) (rg : (Nat → Int32)) (re : (Nat → Int64)) (C : CX p s m av meth c cX5_findNear 6 none RX5 wsX5_findNear) (hK : va_K (dC, dI) vwCl (TY cI cJ cZ) s) (ha : apart q 15) (hN : NX s) (hk13 : ∀ (nr : (Nat → Int64)) (v1 : Int32) (v2 : Int32) (v3 : Int32) (v4 : Int32) (ls : Array Slot) (H : Heap) (locs : List Loc), k13 nr v1 v2 v3 v4 → lv_has ls 6 [(0, .ref (q 0)), (1, .int v1), (2, .int v2), (3, .int v3), (4, .int v4)] → va_P (dC, dI) vwCl (WM q cI cJ cZ kc kd kn kp ka kt ku kr cn xs ys x2 y2 my tl po so st nr co rg re) H → va_S (AF q 15 s.heap.size) s.heap H locs → W p l e { frames := 2, cells := 0, slots := 0, locals := 49 } s m av below meth c H locs 0 0 (MQ below (QX5_findNear dC dI cI cJ cZ q s.heap.size kc kd kn kp ka kt ku kr cn xs ys x2 y2 my tl po so st co rg re K) av s 0 0 (AF q 15 s.heap.size)) (F0 m 13 ls [])) : ∀ (nr : (Nat → Int64)) (v1 : Int32) (v2 : Int32) (v3 : Int32) (v4 : Int32) (s1 : Int32) (s2 : Int64) (s3 : Int64) (ls : Array Slot) (H : Heap) (locs : List Loc), bkX5_findNear_72 kd kn cn xs ys x2 y2 po K k13 nr v1 v2 v3 v4 s1 s2 s3 → lv_has ls 6 [(0, .ref (q 0)), (1, .int v1), (2, .int v2), (3, .int v3), (4, .int v4)] → va_P (dC, dI) vwCl (WM q cI cJ cZ kc kd kn kp ka kt ku kr cn xs ys x2 y2 my tl po so st nr co rg re) H → va_S (AF q 15 s.heap.size) s.heap H locs → W p l e { frames := 2, cells := 0, slots := 0, locals := 49 } s m av below meth c H locs 0 0 (MQ below (QX5_findNear dC dI cI cJ cZ q s.heap.size kc kd kn kp ka kt ku kr cn xs ys x2 y2 my tl po so st co rg re K) av s 0 0 (AF q 15 s.heap.size)) (F0 m 72 ls [.long s3, .long s2, .int s1, .ref (q 11)]) := by
  obtain ⟨hx, hb, hr, hml, hown, hts, hlk⟩ := id C
  intro nr v1 v2 v3 v4 s1 s2 s3 ls H locs h hl hP hS
  unfold bkX5_findNear_72 at h
  refine lv_lor hx hb dX5_findNear_72 ?_
  obtain ⟨b1, h⟩ := h
  refine va_last (D := (dC, dI)) hx hb hK hP (d_WM ha) hS 11 1 rfl rfl b1 dX5_findNear_73 (fun H locs hP _ hS => ?_)
  obtain ⟨f2, ef2⟩ : ∃ z : (Nat → Int64), z = vp_updL nr s1.toNatClampNeg ((s2 ||| s3)) := ⟨_, rfl⟩
  have h := h f2 ef2
  have hP : va_P (dC, dI) vwCl (WM q cI cJ cZ kc kd kn kp ka kt ku kr cn xs ys x2 y2 my tl po so st f2 co rg re) H := by rw [ef2]; exact hP
  obtain ⟨i3, ei3⟩ : ∃ y : Int32, y = v4 + 1 := ⟨_, rfl⟩
  refine lv_iinc (v := i3) (lv' := [(4, .int i3), (0, .ref (q 0)), (1, .int v1), (2, .int v2), (3, .int v3)]) hx hb dX5_findNear_74 hl (k := 4) rfl (by rw [ei3]; rfl) (by decide) rfl (fun ls hl => ?_)
  have h := h i3 ei3
  refine lv_goto (tgt := 13) hx hb dX5_findNear_77 (by decide) ?_
  exact hk13 f2 v1 v2 v3 i3 ls H locs h (lv_sub hl [1, 2, 3, 4, 0] rfl) hP hS
def bkX5_findNear_80 (kd : Int32) (kn : Int32) (cn : (Nat → Int32)) (xs : (Nat → Int32)) (ys : (Nat → Int32)) (x2 : (Nat → Int32)) (y2 : (Nat → Int32)) (po : (Nat → Int32)) (K : (Nat → Int64) → Prop) (k2 : (Nat → Int64) → Int32 → Int32 → Int32 → Prop) (nr : (Nat → Int64)) (v1 : Int32) (v2 : Int32) (v3 : Int32) : Prop := (∀ i4 : Int32, i4 = v3 + 1 → k2 nr v1 v2 i4)
set_option maxHeartbeats 4000000 in
set_option maxRecDepth 100000 in
theorem mX5_findNear_80 {p : Program} {l : Launch} {e : Env} {s : State} {m : MethodId} {av : Array Value} {below : List Frame} {meth : Method} {c : Code} {dC : Nat → ClassId} {dI : Nat → Nat → Nat} {cI cJ cZ : ClassId} {q : Nat → Nat} {K : (Nat → Int64) → Prop} {k2 : (Nat → Int64) → Int32 → Int32 → Int32 → Prop} (kc : Int32) (kd : Int32) (kn : Int32) (kp : Int32) (ka : Int32) (kt : Int32) (ku : Int32) (kr : Int32) (cn : (Nat → Int32)) (xs : (Nat → Int32)) (ys : (Nat → Int32)) (x2 : (Nat → Int32)) (y2 : (Nat → Int32)) (my : (Nat → Int32)) (tl : (Nat → Int32)) (po : (Nat → Int32)) (so : (Nat → Int32)) (st : (Nat → Int32)) (co : (Nat → Int32)) (rg : (Nat → Int32)) (re : (Nat → Int64)) (C : CX p s m av meth c cX5_findNear 6 none RX5 wsX5_findNear) (hK : va_K (dC, dI) vwCl (TY cI cJ cZ) s) (ha : apart q 15) (hN : NX s) (hk2 : ∀ (nr : (Nat → Int64)) (v1 : Int32) (v2 : Int32) (v3 : Int32) (ls : Array Slot) (H : Heap) (locs : List Loc), k2 nr v1 v2 v3 → lv_has ls 6 [(0, .ref (q 0)), (1, .int v1), (2, .int v2), (3, .int v3)] → va_P (dC, dI) vwCl (WM q cI cJ cZ kc kd kn kp ka kt ku kr cn xs ys x2 y2 my tl po so st nr co rg re) H → va_S (AF q 15 s.heap.size) s.heap H locs → W p l e { frames := 2, cells := 0, slots := 0, locals := 49 } s m av below meth c H locs 0 0 (MQ below (QX5_findNear dC dI cI cJ cZ q s.heap.size kc kd kn kp ka kt ku kr cn xs ys x2 y2 my tl po so st co rg re K) av s 0 0 (AF q 15 s.heap.size)) (F0 m 2 ls [])) : ∀ (nr : (Nat → Int64)) (v1 : Int32) (v2 : Int32) (v3 : Int32) (ls : Array Slot) (H : Heap) (locs : List Loc), bkX5_findNear_80 kd kn cn xs ys x2 y2 po K k2 nr v1 v2 v3 → lv_has ls 6 [(0, .ref (q 0)), (1, .int v1), (2, .int v2), (3, .int v3)] → va_P (dC, dI) vwCl (WM q cI cJ cZ kc kd kn kp ka kt ku kr cn xs ys x2 y2 my tl po so st nr co rg re) H → va_S (AF q 15 s.heap.size) s.heap H locs → W p l e { frames := 2, cells := 0, slots := 0, locals := 49 } s m av below meth c H locs 0 0 (MQ below (QX5_findNear dC dI cI cJ cZ q s.heap.size kc kd kn kp ka kt ku kr cn xs ys x2 y2 my tl po so st co rg re K) av s 0 0 (AF q 15 s.heap.size)) (F0 m 80 ls []) := by
  obtain ⟨hx, hb, hr, hml, hown, hts, hlk⟩ := id C
  intro nr v1 v2 v3 ls H locs h hl hP hS
  unfold bkX5_findNear_80 at h
  obtain ⟨i4, ei4⟩ : ∃ y : Int32, y = v3 + 1 := ⟨_, rfl⟩
  refine lv_iinc (v := i4) (lv' := [(3, .int i4), (0, .ref (q 0)), (1, .int v1), (2, .int v2)]) hx hb dX5_findNear_80 hl (k := 3) rfl (by rw [ei4]; rfl) (by decide) rfl (fun ls hl => ?_)
  have h := h i4 ei4
  refine lv_goto (tgt := 2) hx hb dX5_findNear_83 (by decide) ?_
  exact hk2 nr v1 v2 i4 ls H locs h (lv_sub hl [1, 2, 3, 0] rfl) hP hS
def lpX5_findNear_13 (kd : Int32) (kn : Int32) (cn : (Nat → Int32)) (xs : (Nat → Int32)) (ys : (Nat → Int32)) (x2 : (Nat → Int32)) (y2 : (Nat → Int32)) (po : (Nat → Int32)) (K : (Nat → Int64) → Prop) (k80 : (Nat → Int64) → Int32 → Int32 → Int32 → Prop) : Nat → (Nat → Int64) → Int32 → Int32 → Int32 → Int32 → Prop
  | 0, _, _, _, _, _ => False
  | n + 1, nr, v1, v2, v3, v4 => (vp_in v3 10 ∧ (((cn v3.toNatClampNeg) ≤ v4 → k80 nr v1 v2 v3) ∧ (¬ ((cn v3.toNatClampNeg) ≤ v4) → ((v3 = v1 → k80 nr v1 v2 v3) ∧ (¬ (v3 = v1) → (∀ i8 : Int32, i8 = ((4 * v3) + v4) → (vp_in v2 40 ∧ (vp_in ((po v2.toNatClampNeg)) 40 ∧ (wX5_isNear kd xs ys x2 y2 v2 i8 (fun (r11 : Int32) => ((r11 = 0 → bkX5_findNear_72 kd kn cn xs ys x2 y2 po K (fun nr v1 v2 v3 v4 => lpX5_findNear_13 kd kn cn xs ys x2 y2 po K k80 n nr v1 v2 v3 v4) nr v1 v2 v3 v4 ((po v2.toNatClampNeg)) ((nr ((po v2.toNatClampNeg) : Int32).toNatClampNeg)) 0) ∧ (¬ (r11 = 0) → (vp_in i8 40 ∧ bkX5_findNear_72 kd kn cn xs ys x2 y2 po K (fun nr v1 v2 v3 v4 => lpX5_findNear_13 kd kn cn xs ys x2 y2 po K k80 n nr v1 v2 v3 v4) nr v1 v2 v3 v4 ((po v2.toNatClampNeg)) ((nr ((po v2.toNatClampNeg) : Int32).toNatClampNeg)) (((1 : Int64) <<< (((po i8.toNatClampNeg) : Int32).toInt64 &&& 63))))))))))))))))
set_option maxHeartbeats 4000000 in
set_option maxRecDepth 100000 in
theorem mX5_findNear_13 {p : Program} {l : Launch} {e : Env} {s : State} {m : MethodId} {av : Array Value} {below : List Frame} {meth : Method} {c : Code} {dC : Nat → ClassId} {dI : Nat → Nat → Nat} {cI cJ cZ : ClassId} {q : Nat → Nat} {K : (Nat → Int64) → Prop} {k80 : (Nat → Int64) → Int32 → Int32 → Int32 → Prop} (kc : Int32) (kd : Int32) (kn : Int32) (kp : Int32) (ka : Int32) (kt : Int32) (ku : Int32) (kr : Int32) (cn : (Nat → Int32)) (xs : (Nat → Int32)) (ys : (Nat → Int32)) (x2 : (Nat → Int32)) (y2 : (Nat → Int32)) (my : (Nat → Int32)) (tl : (Nat → Int32)) (po : (Nat → Int32)) (so : (Nat → Int32)) (st : (Nat → Int32)) (co : (Nat → Int32)) (rg : (Nat → Int32)) (re : (Nat → Int64)) (C : CX p s m av meth c cX5_findNear 6 none RX5 wsX5_findNear) (hK : va_K (dC, dI) vwCl (TY cI cJ cZ) s) (ha : apart q 15) (hN : NX s) (hk80 : ∀ (nr : (Nat → Int64)) (v1 : Int32) (v2 : Int32) (v3 : Int32) (ls : Array Slot) (H : Heap) (locs : List Loc), k80 nr v1 v2 v3 → lv_has ls 6 [(0, .ref (q 0)), (1, .int v1), (2, .int v2), (3, .int v3)] → va_P (dC, dI) vwCl (WM q cI cJ cZ kc kd kn kp ka kt ku kr cn xs ys x2 y2 my tl po so st nr co rg re) H → va_S (AF q 15 s.heap.size) s.heap H locs → W p l e { frames := 2, cells := 0, slots := 0, locals := 49 } s m av below meth c H locs 0 0 (MQ below (QX5_findNear dC dI cI cJ cZ q s.heap.size kc kd kn kp ka kt ku kr cn xs ys x2 y2 my tl po so st co rg re K) av s 0 0 (AF q 15 s.heap.size)) (F0 m 80 ls [])) : ∀ (n : Nat) (nr : (Nat → Int64)) (v1 : Int32) (v2 : Int32) (v3 : Int32) (v4 : Int32) (ls : Array Slot) (H : Heap) (locs : List Loc), lpX5_findNear_13 kd kn cn xs ys x2 y2 po K k80 n nr v1 v2 v3 v4 → lv_has ls 6 [(0, .ref (q 0)), (1, .int v1), (2, .int v2), (3, .int v3), (4, .int v4)] → va_P (dC, dI) vwCl (WM q cI cJ cZ kc kd kn kp ka kt ku kr cn xs ys x2 y2 my tl po so st nr co rg re) H → va_S (AF q 15 s.heap.size) s.heap H locs → W p l e { frames := 2, cells := 0, slots := 0, locals := 49 } s m av below meth c H locs 0 0 (MQ below (QX5_findNear dC dI cI cJ cZ q s.heap.size kc kd kn kp ka kt ku kr cn xs ys x2 y2 my tl po so st co rg re K) av s 0 0 (AF q 15 s.heap.size)) (F0 m 13 ls []) := by
  obtain ⟨hx, hb, hr, hml, hown, hts, hlk⟩ := id C
  intro n
  induction n with
  | zero =>
    intro nr v1 v2 v3 v4 ls H locs h
    exact h.elim
  | succ n ih =>
    intro nr v1 v2 v3 v4 ls H locs h hl hP hS
    rw [lpX5_findNear_13.eq_2] at h
    refine lv_iload hx hb dX5_findNear_13 (lv_at hl 4 rfl) ?_
    refine lv_aload_n hx hb dX5_findNear_15 rfl (lv_at hl 0 rfl) ?_
    refine va_get (D := (dC, dI)) (ci := 5) (v := .ref (q 1)) (C := RX5) (T := TX5) (N := 22) hx hb hts iwX5_findNear_X5 hown hK hP 0 rfl rfl 3 (by decide) (hts _ fwX5_findNear_13) (fun _ h9 => h9) rfl dX5_findNear_16 ?_
    refine lv_iload_n hx hb dX5_findNear_19 rfl (lv_at hl 3 rfl) ?_
    obtain ⟨b5, h⟩ := h
    refine va_iald (D := (dC, dI)) hx hb hK hP 1 0 rfl rfl b5 dX5_findNear_20 ?_
    refine lv_icmp_ge (tgt := 80) hx hb dX5_findNear_21 (by decide) (fun c6 => ?_) (fun c6 => ?_)
    · have h := h.1 c6
      exact hk80 nr v1 v2 v3 ls H locs h (lv_sub hl [0, 1, 2, 3] rfl) hP hS
    · have h := h.2 c6
      refine lv_iload_n hx hb dX5_findNear_24 rfl (lv_at hl 3 rfl) ?_
      refine lv_iload_n hx hb dX5_findNear_25 rfl (lv_at hl 1 rfl) ?_
      refine lv_icmp_eq (tgt := 80) hx hb dX5_findNear_26 (by decide) (fun c7 => ?_) (fun c7 => ?_)
      · have h := h.1 c7
        exact hk80 nr v1 v2 v3 ls H locs h (lv_sub hl [0, 1, 2, 3] rfl) hP hS
      · have h := h.2 c7
        refine lv_iconst (v := 4) hx hb dX5_findNear_29 (by decide) ?_
        refine lv_iload_n hx hb dX5_findNear_30 rfl (lv_at hl 3 rfl) ?_
        refine lv_imul hx hb dX5_findNear_31 ?_
        refine lv_iload hx hb dX5_findNear_32 (lv_at hl 4 rfl) ?_
        refine lv_iadd hx hb dX5_findNear_34 ?_
        refine lv_topi (fun i8 ei8 => ?_)
        have h := h i8 ei8
        refine lv_istore (lv' := [(5, .int i8), (0, .ref (q 0)), (1, .int v1), (2, .int v2), (3, .int v3), (4, .int v4)]) hx hb dX5_findNear_35 hl (by decide) rfl (fun ls hl => ?_)
        refine lv_aload_n hx hb dX5_findNear_37 rfl (lv_at hl 1 rfl) ?_
        refine va_get (D := (dC, dI)) (ci := 5) (v := .ref (q 11)) (C := RX5) (T := TX5) (N := 22) hx hb hts iwX5_findNear_X5 hown hK hP 0 rfl rfl 14 (by decide) (hts _ fwX5_findNear_45) (fun _ h9 => h9) rfl dX5_findNear_38 ?_
        refine lv_aload_n hx hb dX5_findNear_41 rfl (lv_at hl 1 rfl) ?_
        refine va_get (D := (dC, dI)) (ci := 5) (v := .ref (q 8)) (C := RX5) (T := TX5) (N := 22) hx hb hts iwX5_findNear_X5 hown hK hP 0 rfl rfl 11 (by decide) (hts _ fwX5_findNear_36) (fun _ h9 => h9) rfl dX5_findNear_42 ?_
        refine lv_iload_n hx hb dX5_findNear_45 rfl (lv_at hl 3 rfl) ?_
        obtain ⟨b9, h⟩ := h
        refine va_iald (D := (dC, dI)) hx hb hK hP 8 0 rfl rfl b9 dX5_findNear_46 ?_
        refine lv_dup2_11 hx hb dX5_findNear_47 rfl rfl ?_
        obtain ⟨b10, h⟩ := h
        refine va_lald (D := (dC, dI)) hx hb hK hP 11 1 rfl rfl b10 dX5_findNear_48 ?_
        refine lv_aload_n hx hb dX5_findNear_49 rfl (lv_at hl 1 rfl) ?_
        refine lv_iload_n hx hb dX5_findNear_50 rfl (lv_at hl 3 rfl) ?_
        refine lv_iload hx hb dX5_findNear_51 (lv_at hl 0 rfl) ?_
        refine cl_i (va_runV (As := [.int v2, .int i8]) (rest := [.long (nr ((po v2.toNatClampNeg) : Int32).toNatClampNeg), .int (po v2.toNatClampNeg), .ref (q 11)]) ⟨hx, hb, hml, hown, hts⟩ (ktX5_isNear l dC dI q cI cJ cZ H.size kc kd kn kp ka kt ku kr cn xs ys x2 y2 my tl po so st nr co rg re v2 i8 h) (cwV 2 hts gX5_findNear_X5_isNear rfl rfl rfl (by decide +kernel) ⟨Nat.le_of_ble_eq_true rfl, Nat.le_of_ble_eq_true rfl⟩) ⟨wd.blind, va_recv hK hP (ci := 5) (q0 := 0) rfl rfl, fun U hU hW => ⟨rfl, wd.at hP hK ha hN hU hW⟩⟩ rfl rfl hl.1 rfl (lv_room (Nat.le_of_ble_eq_true rfl)) dX5_findNear_53 ⟨Nat.le_of_ble_eq_true rfl, Nat.le_of_ble_eq_true rfl⟩) hS (fun r11 _ H locs h hP hS => ?_)
        have hP : va_P (dC, dI) vwCl (WM q cI cJ cZ kc kd kn kp ka kt ku kr cn xs ys x2 y2 my tl po so st nr co rg re) H := hP
        refine lv_if_eq (tgt := 71) hx hb dX5_findNear_56 (by decide) (fun c13 => ?_) (fun c13 => ?_)
        · have h := h.1 c13
          refine lv_lconst (v := 0) hx hb dX5_findNear_71 (by decide) ?_
          exact mX5_findNear_72 kc kd kn kp ka kt ku kr cn xs ys x2 y2 my tl po so st co rg re C hK ha hN (fun nr v1 v2 v3 v4 ls H locs h hl hP hS => ih nr v1 v2 v3 v4 ls H locs h hl hP hS) nr v1 v2 v3 v4 ((po v2.toNatClampNeg)) ((nr ((po v2.toNatClampNeg) : Int32).toNatClampNeg)) 0 ls H locs h (lv_sub hl [1, 2, 3, 4, 5] rfl) hP hS
        · have h := h.2 c13
          refine lv_lconst (v := 1) hx hb dX5_findNear_59 (by decide) ?_
          refine lv_aload_n hx hb dX5_findNear_60 rfl (lv_at hl 1 rfl) ?_
          refine va_get (D := (dC, dI)) (ci := 5) (v := .ref (q 8)) (C := RX5) (T := TX5) (N := 22) hx hb hts iwX5_findNear_X5 hown hK hP 0 rfl rfl 11 (by decide) (hts _ fwX5_findNear_36) (fun _ h9 => h9) rfl dX5_findNear_61 ?_
          refine lv_iload hx hb dX5_findNear_64 (lv_at hl 0 rfl) ?_
          obtain ⟨b14, h⟩ := h
          refine va_iald (D := (dC, dI)) hx hb hK hP 8 0 rfl rfl b14 dX5_findNear_66 ?_
          refine lv_lshl hx hb dX5_findNear_67 rfl ?_
          refine lv_goto (tgt := 72) hx hb dX5_findNear_68 (by decide) ?_
          exact mX5_findNear_72 kc kd kn kp ka kt ku kr cn xs ys x2 y2 my tl po so st co rg re C hK ha hN (fun nr v1 v2 v3 v4 ls H locs h hl hP hS => ih nr v1 v2 v3 v4 ls H locs h hl hP hS) nr v1 v2 v3 v4 ((po v2.toNatClampNeg)) ((nr ((po v2.toNatClampNeg) : Int32).toNatClampNeg)) (((1 : Int64) <<< (((po i8.toNatClampNeg) : Int32).toInt64 &&& 63))) ls H locs h (lv_sub hl [1, 2, 3, 4, 5] rfl) hP hS
def lpX5_findNear_2 (kd : Int32) (kn : Int32) (cn : (Nat → Int32)) (xs : (Nat → Int32)) (ys : (Nat → Int32)) (x2 : (Nat → Int32)) (y2 : (Nat → Int32)) (po : (Nat → Int32)) (K : (Nat → Int64) → Prop) (k86 : (Nat → Int64) → Prop) : Nat → (Nat → Int64) → Int32 → Int32 → Int32 → Prop
  | 0, _, _, _, _ => False
  | n + 1, nr, v1, v2, v3 => ((kn ≤ v3 → k86 nr) ∧ (¬ (kn ≤ v3) → (∃ z13, lpX5_findNear_13 kd kn cn xs ys x2 y2 po K (fun (nr : (Nat → Int64)) (v1 : Int32) (v2 : Int32) (v3 : Int32) => (∀ i16 : Int32, i16 = v3 + 1 → lpX5_findNear_2 kd kn cn xs ys x2 y2 po K k86 n nr v1 v2 i16)) z13 nr v1 v2 v3 0)))
set_option maxHeartbeats 4000000 in
set_option maxRecDepth 100000 in
theorem mX5_findNear_2 {p : Program} {l : Launch} {e : Env} {s : State} {m : MethodId} {av : Array Value} {below : List Frame} {meth : Method} {c : Code} {dC : Nat → ClassId} {dI : Nat → Nat → Nat} {cI cJ cZ : ClassId} {q : Nat → Nat} {K : (Nat → Int64) → Prop} {k86 : (Nat → Int64) → Prop} (kc : Int32) (kd : Int32) (kn : Int32) (kp : Int32) (ka : Int32) (kt : Int32) (ku : Int32) (kr : Int32) (cn : (Nat → Int32)) (xs : (Nat → Int32)) (ys : (Nat → Int32)) (x2 : (Nat → Int32)) (y2 : (Nat → Int32)) (my : (Nat → Int32)) (tl : (Nat → Int32)) (po : (Nat → Int32)) (so : (Nat → Int32)) (st : (Nat → Int32)) (co : (Nat → Int32)) (rg : (Nat → Int32)) (re : (Nat → Int64)) (C : CX p s m av meth c cX5_findNear 6 none RX5 wsX5_findNear) (hK : va_K (dC, dI) vwCl (TY cI cJ cZ) s) (ha : apart q 15) (hN : NX s) (hk86 : ∀ (nr : (Nat → Int64)) (ls : Array Slot) (H : Heap) (locs : List Loc), k86 nr → lv_has ls 6 [] → va_P (dC, dI) vwCl (WM q cI cJ cZ kc kd kn kp ka kt ku kr cn xs ys x2 y2 my tl po so st nr co rg re) H → va_S (AF q 15 s.heap.size) s.heap H locs → W p l e { frames := 2, cells := 0, slots := 0, locals := 49 } s m av below meth c H locs 0 0 (MQ below (QX5_findNear dC dI cI cJ cZ q s.heap.size kc kd kn kp ka kt ku kr cn xs ys x2 y2 my tl po so st co rg re K) av s 0 0 (AF q 15 s.heap.size)) (F0 m 86 ls [])) : ∀ (n : Nat) (nr : (Nat → Int64)) (v1 : Int32) (v2 : Int32) (v3 : Int32) (ls : Array Slot) (H : Heap) (locs : List Loc), lpX5_findNear_2 kd kn cn xs ys x2 y2 po K k86 n nr v1 v2 v3 → lv_has ls 6 [(0, .ref (q 0)), (1, .int v1), (2, .int v2), (3, .int v3)] → va_P (dC, dI) vwCl (WM q cI cJ cZ kc kd kn kp ka kt ku kr cn xs ys x2 y2 my tl po so st nr co rg re) H → va_S (AF q 15 s.heap.size) s.heap H locs → W p l e { frames := 2, cells := 0, slots := 0, locals := 49 } s m av below meth c H locs 0 0 (MQ below (QX5_findNear dC dI cI cJ cZ q s.heap.size kc kd kn kp ka kt ku kr cn xs ys x2 y2 my tl po so st co rg re K) av s 0 0 (AF q 15 s.heap.size)) (F0 m 2 ls []) := by
  obtain ⟨hx, hb, hr, hml, hown, hts, hlk⟩ := id C
  intro n
  induction n with
  | zero =>
    intro nr v1 v2 v3 ls H locs h
    exact h.elim
  | succ n ih =>
    intro nr v1 v2 v3 ls H locs h hl hP hS
    rw [lpX5_findNear_2.eq_2] at h
    refine lv_iload_n hx hb dX5_findNear_2 rfl (lv_at hl 3 rfl) ?_
    refine lv_aload_n hx hb dX5_findNear_3 rfl (lv_at hl 0 rfl) ?_
    refine va_get (D := (dC, dI)) (ci := 5) (v := .int kn) (C := RX5) (T := TX5) (N := 22) hx hb hts iwX5_findNear_X5 hown hK hP 0 rfl rfl 2 (by decide) (hts _ fwX5_findNear_64) (fun _ h9 => h9) rfl dX5_findNear_4 ?_
    refine lv_icmp_ge (tgt := 86) hx hb dX5_findNear_7 (by decide) (fun c15 => ?_) (fun c15 => ?_)
    · have h := h.1 c15
      exact hk86 nr ls H locs h (lv_sub hl [] rfl) hP hS
    · have h := h.2 c15
      refine lv_iconst (v := 0) hx hb dX5_findNear_10 (by decide) ?_
      refine lv_istore (lv' := [(4, .int 0), (0, .ref (q 0)), (1, .int v1), (2, .int v2), (3, .int v3)]) hx hb dX5_findNear_11 hl (by decide) rfl (fun ls hl => ?_)
      obtain ⟨n9, h⟩ := h
      exact mX5_findNear_13 kc kd kn kp ka kt ku kr cn xs ys x2 y2 my tl po so st co rg re C hK ha hN (fun nr v1 v2 v3 ls H locs h hl hP hS => by
          obtain ⟨i16, ei16⟩ : ∃ y : Int32, y = v3 + 1 := ⟨_, rfl⟩
          refine lv_iinc (v := i16) (lv' := [(3, .int i16), (0, .ref (q 0)), (1, .int v1), (2, .int v2)]) hx hb dX5_findNear_80 hl (k := 3) rfl (by rw [ei16]; rfl) (by decide) rfl (fun ls hl => ?_)
          have h := h i16 ei16
          refine lv_goto (tgt := 2) hx hb dX5_findNear_83 (by decide) ?_
          exact ih nr v1 v2 i16 ls H locs h (lv_sub hl [1, 2, 3, 0] rfl) hP hS) n9 nr v1 v2 v3 0 ls H locs h (lv_sub hl [1, 2, 3, 4, 0] rfl) hP hS
def wX5_findNear (kd : Int32) (kn : Int32) (cn : (Nat → Int32)) (xs : (Nat → Int32)) (ys : (Nat → Int32)) (x2 : (Nat → Int32)) (y2 : (Nat → Int32)) (po : (Nat → Int32)) (nr : (Nat → Int64)) (v1 : Int32) (v2 : Int32) (K : (Nat → Int64) → Prop) : Prop := (∃ z2, lpX5_findNear_2 kd kn cn xs ys x2 y2 po K (fun (nr : (Nat → Int64)) => K nr) z2 nr v1 v2 0)
set_option maxHeartbeats 4000000 in
set_option maxRecDepth 100000 in
theorem ktX5_findNear (l : Launch) (dC : Nat → ClassId) (dI : Nat → Nat → Nat) (q : Nat → Nat) (cI cJ cZ : ClassId) (sz : Nat) (kc : Int32) (kd : Int32) (kn : Int32) (kp : Int32) (ka : Int32) (kt : Int32) (ku : Int32) (kr : Int32) (cn : (Nat → Int32)) (xs : (Nat → Int32)) (ys : (Nat → Int32)) (x2 : (Nat → Int32)) (y2 : (Nat → Int32)) (my : (Nat → Int32)) (tl : (Nat → Int32)) (po : (Nat → Int32)) (so : (Nat → Int32)) (st : (Nat → Int32)) (nr : (Nat → Int64)) (co : (Nat → Int32)) (rg : (Nat → Int32)) (re : (Nat → Int64)) (v1 : Int32) (v2 : Int32) {K : (Nat → Int64) → Prop} (h : wX5_findNear kd kn cn xs ys x2 y2 po nr v1 v2 K) : Met l yX5_findNear wsX5_findNear { frames := 2, cells := 0, slots := 0, locals := 49 } (va_Pc [.ref (q 0), .int v1, .int v2] (wd dC dI cI cJ cZ q 15 sz (WM q cI cJ cZ kc kd kn kp ka kt ku kr cn xs ys x2 y2 my tl po so st nr co rg re))) (QX5_findNear dC dI cI cJ cZ q sz kc kd kn kp ka kt ku kr cn xs ys x2 y2 my tl po so st co rg re K) 0 0 (AF q 15 sz) := by
  refine met_of [.ref (q 0), .int v1, .int v2] (by decide +kernel) rfl (Nat.le_of_ble_eq_true rfl) ?_
  intro p e s m below meth c ls hsz C hK ha hN hl hP
  subst hsz
  obtain ⟨hx, hb, hr, hml, hown, hts, hlk⟩ := id C
  have hl : lv_has ls 6 [(0, .ref (q 0)), (1, .int v1), (2, .int v2)] := hl
  refine w_go (Pw := fun H => va_P (dC, dI) vwCl (WM q cI cJ cZ kc kd kn kp ka kt ku kr cn xs ys x2 y2 my tl po so st nr co rg re) H) (A := AF q 15 s.heap.size) (fun H locs hP hS => ?_) hP
  unfold wX5_findNear at h
  refine lv_iconst (v := 0) hx hb dX5_findNear_0 (by decide) ?_
  refine lv_istore_n (lv' := [(3, .int 0), (0, .ref (q 0)), (1, .int v1), (2, .int v2)]) hx hb dX5_findNear_1 rfl hl (by decide) rfl (fun ls hl => ?_)
  obtain ⟨n9, h⟩ := h
  exact mX5_findNear_2 kc kd kn kp ka kt ku kr cn xs ys x2 y2 my tl po so st co rg re C hK ha hN (fun nr ls H locs h hl hP hS => by
      exact rt_v nr hx hb hr hlk h (fun t ht => by rw [ht]; exact hP) hS dX5_findNear_86) n9 nr v1 v2 0 ls H locs h (lv_sub hl [1, 2, 3, 0] rfl) hP hS

theorem fwX5_findParts_36 : Cond.fieldLink RX5 36 "MaskPartsModel" "partOf" "[I" ∈ wsX5_findParts := by decide +kernel
set_option maxRecDepth 20000 in
theorem iwX5_findParts_X5 : ∀ w ∈ wsX50, w ∈ wsX5_findParts := by decide +kernel
theorem fwX5_findParts_102 : Cond.fieldLink RX5 102 "MaskPartsModel" "parts" "I" ∈ wsX5_findParts := by decide +kernel
theorem fwX5_findParts_45 : Cond.fieldLink RX5 45 "MaskPartsModel" "near" "[J" ∈ wsX5_findParts := by decide +kernel
theorem fwX5_findParts_39 : Cond.fieldLink RX5 39 "MaskPartsModel" "shapeOf" "[I" ∈ wsX5_findParts := by decide +kernel
theorem fwX5_findParts_42 : Cond.fieldLink RX5 42 "MaskPartsModel" "isStitched" "[Z" ∈ wsX5_findParts := by decide +kernel
theorem fwX5_findParts_13 : Cond.fieldLink RX5 13 "MaskPartsModel" "counts" "[I" ∈ wsX5_findParts := by decide +kernel
theorem fwX5_findParts_29 : Cond.fieldLink RX5 29 "MaskPartsModel" "may" "[Z" ∈ wsX5_findParts := by decide +kernel
theorem fwX5_findParts_64 : Cond.fieldLink RX5 64 "MaskPartsModel" "shapes" "I" ∈ wsX5_findParts := by decide +kernel
abbrev QX5_findParts (dC : Nat → ClassId) (dI : Nat → Nat → Nat) (cI cJ cZ : ClassId) (q : Nat → Nat) (sz : Nat) (kc : Int32) (kd : Int32) (kn : Int32) (ka : Int32) (kt : Int32) (ku : Int32) (kr : Int32) (cn : (Nat → Int32)) (xs : (Nat → Int32)) (ys : (Nat → Int32)) (x2 : (Nat → Int32)) (y2 : (Nat → Int32)) (my : (Nat → Int32)) (tl : (Nat → Int32)) (co : (Nat → Int32)) (rg : (Nat → Int32)) (re : (Nat → Int64)) (K : (Int32 × (Nat → Int32) × (Nat → Int32) × (Nat → Int32) × (Nat → Int64)) → Prop) : Array Value → State → Outcome → State → Prop := va_Qv (fun (u : Int32 × (Nat → Int32) × (Nat → Int32) × (Nat → Int32) × (Nat → Int64)) => K u) (fun (u : Int32 × (Nat → Int32) × (Nat → Int32) × (Nat → Int32) × (Nat → Int64)) t => va_P (dC, dI) vwCl (WM q cI cJ cZ kc kd kn u.1 ka kt ku kr cn xs ys x2 y2 my tl u.2.1 u.2.2.1 u.2.2.2.1 u.2.2.2.2 co rg re) t.heap) (AF q 15 sz)
def bkX5_findParts_96 (kd : Int32) (kn : Int32) (cn : (Nat → Int32)) (xs : (Nat → Int32)) (ys : (Nat → Int32)) (x2 : (Nat → Int32)) (y2 : (Nat → Int32)) (my : (Nat → Int32)) (K : (Int32 × (Nat → Int32) × (Nat → Int32) × (Nat → Int32) × (Nat → Int64)) → Prop) (k17 : Int32 → (Nat → Int32) → (Nat → Int32) → (Nat → Int32) → (Nat → Int64) → Int32 → Int32 → Prop) (kp : Int32) (po : (Nat → Int32)) (so : (Nat → Int32)) (st : (Nat → Int32)) (nr : (Nat → Int64)) (v1 : Int32) (v2 : Int32) (v3 : Int32) : Prop := (vp_in v3 40 ∧ (∀ f2 : (Nat → Int32), f2 = upd po v3.toNatClampNeg ((kp - 1)) → (∀ i3 : Int32, i3 = v2 + 1 → k17 kp f2 so st nr v1 i3)))
set_option maxHeartbeats 4000000 in
set_option maxRecDepth 100000 in
theorem mX5_findParts_96 {p : Program} {l : Launch} {e : Env} {s : State} {m : MethodId} {av : Array Value} {below : List Frame} {meth : Method} {c : Code} {dC : Nat → ClassId} {dI : Nat → Nat → Nat} {cI cJ cZ : ClassId} {q : Nat → Nat} {K : (Int32 × (Nat → Int32) × (Nat → Int32) × (Nat → Int32) × (Nat → Int64)) → Prop} {k17 : Int32 → (Nat → Int32) → (Nat → Int32) → (Nat → Int32) → (Nat → Int64) → Int32 → Int32 → Prop} (kc : Int32) (kd : Int32) (kn : Int32) (ka : Int32) (kt : Int32) (ku : Int32) (kr : Int32) (cn : (Nat → Int32)) (xs : (Nat → Int32)) (ys : (Nat → Int32)) (x2 : (Nat → Int32)) (y2 : (Nat → Int32)) (my : (Nat → Int32)) (tl : (Nat → Int32)) (co : (Nat → Int32)) (rg : (Nat → Int32)) (re : (Nat → Int64)) (C : CX p s m av meth c cX5_findParts 4 none RX5 wsX5_findParts) (hK : va_K (dC, dI) vwCl (TY cI cJ cZ) s) (ha : apart q 15) (hN : NX s) (hk17 : ∀ (kp : Int32) (po : (Nat → Int32)) (so : (Nat → Int32)) (st : (Nat → Int32)) (nr : (Nat → Int64)) (v1 : Int32) (v2 : Int32) (ls : Array Slot) (H : Heap) (locs : List Loc), k17 kp po so st nr v1 v2 → lv_has ls 4 [(0, .ref (q 0)), (1, .int v1), (2, .int v2)] → va_P (dC, dI) vwCl (WM q cI cJ cZ kc kd kn kp ka kt ku kr cn xs ys x2 y2 my tl po so st nr co rg re) H → va_S (AF q 15 s.heap.size) s.heap H locs → W p l e { frames := 3, cells := 0, slots := 0, locals := 74 } s m av below meth c H locs 0 0 (MQ below (QX5_findParts dC dI cI cJ cZ q s.heap.size kc kd kn ka kt ku kr cn xs ys x2 y2 my tl co rg re K) av s 0 0 (AF q 15 s.heap.size)) (F0 m 17 ls [])) : ∀ (kp : Int32) (po : (Nat → Int32)) (so : (Nat → Int32)) (st : (Nat → Int32)) (nr : (Nat → Int64)) (v1 : Int32) (v2 : Int32) (v3 : Int32) (ls : Array Slot) (H : Heap) (locs : List Loc), bkX5_findParts_96 kd kn cn xs ys x2 y2 my K k17 kp po so st nr v1 v2 v3 → lv_has ls 4 [(0, .ref (q 0)), (1, .int v1), (2, .int v2), (3, .int v3)] → va_P (dC, dI) vwCl (WM q cI cJ cZ kc kd kn kp ka kt ku kr cn xs ys x2 y2 my tl po so st nr co rg re) H → va_S (AF q 15 s.heap.size) s.heap H locs → W p l e { frames := 3, cells := 0, slots := 0, locals := 74 } s m av below meth c H locs 0 0 (MQ below (QX5_findParts dC dI cI cJ cZ q s.heap.size kc kd kn ka kt ku kr cn xs ys x2 y2 my tl co rg re K) av s 0 0 (AF q 15 s.heap.size)) (F0 m 96 ls []) := by
  obtain ⟨hx, hb, hr, hml, hown, hts, hlk⟩ := id C
  intro kp po so st nr v1 v2 v3 ls H locs h hl hP hS
  unfold bkX5_findParts_96 at h
  refine lv_aload_n hx hb dX5_findParts_96 rfl (lv_at hl 0 rfl) ?_
  refine va_get (D := (dC, dI)) (ci := 5) (v := .ref (q 8)) (C := RX5) (T := TX5) (N := 22) hx hb hts iwX5_findParts_X5 hown hK hP 0 rfl rfl 11 (by decide) (hts _ fwX5_findParts_36) (fun _ h9 => h9) rfl dX5_findParts_97 ?_
  refine lv_iload_n hx hb dX5_findParts_100 rfl (lv_at hl 3 rfl) ?_
  refine lv_aload_n hx hb dX5_findParts_101 rfl (lv_at hl 0 rfl) ?_
  refine va_get (D := (dC, dI)) (ci := 5) (v := .int kp) (C := RX5) (T := TX5) (N := 22) hx hb hts iwX5_findParts_X5 hown hK hP 0 rfl rfl 10 (by decide) (hts _ fwX5_findParts_102) (fun _ h9 => h9) rfl dX5_findParts_102 ?_
  refine lv_iconst (v := 1) hx hb dX5_findParts_105 (by decide) ?_
  refine lv_isub hx hb dX5_findParts_106 ?_
  obtain ⟨b1, h⟩ := h
  refine va_iast (D := (dC, dI)) hx hb hK hP (d_WM ha) hS 8 0 rfl rfl b1 dX5_findParts_107 (fun H locs hP _ hS => ?_)
  obtain ⟨f2, ef2⟩ : ∃ z : (Nat → Int32), z = upd po v3.toNatClampNeg ((kp - 1)) := ⟨_, rfl⟩
  have h := h f2 ef2
  have hP : va_P (dC, dI) vwCl (WM q cI cJ cZ kc kd kn kp ka kt ku kr cn xs ys x2 y2 my tl f2 so st nr co rg re) H := by rw [ef2]; exact hP
  obtain ⟨i3, ei3⟩ : ∃ y : Int32, y = v2 + 1 := ⟨_, rfl⟩
  refine lv_iinc (v := i3) (lv' := [(2, .int i3), (0, .ref (q 0)), (1, .int v1), (3, .int v3)]) hx hb dX5_findParts_108 hl (k := 2) rfl (by rw [ei3]; rfl) (by decide) rfl (fun ls hl => ?_)
  have h := h i3 ei3
  refine lv_goto (tgt := 17) hx hb dX5_findParts_111 (by decide) ?_
  exact hk17 kp f2 so st nr v1 i3 ls H locs h (lv_sub hl [1, 2, 0] rfl) hP hS
def bkX5_findParts_75 (kd : Int32) (kn : Int32) (cn : (Nat → Int32)) (xs : (Nat → Int32)) (ys : (Nat → Int32)) (x2 : (Nat → Int32)) (y2 : (Nat → Int32)) (my : (Nat → Int32)) (K : (Int32 × (Nat → Int32) × (Nat → Int32) × (Nat → Int32) × (Nat → Int64)) → Prop) (k17 : Int32 → (Nat → Int32) → (Nat → Int32) → (Nat → Int32) → (Nat → Int64) → Int32 → Int32 → Prop) (kp : Int32) (po : (Nat → Int32)) (so : (Nat → Int32)) (st : (Nat → Int32)) (nr : (Nat → Int64)) (v1 : Int32) (v2 : Int32) (v3 : Int32) (s1 : Int32) (s2 : Int32) : Prop := (vp_in s1 40 ∧ (∀ f5 : (Nat → Int32), f5 = upd st s1.toNatClampNeg (vp_nar .boolean s2) → (vp_in kp 40 ∧ (∀ f7 : (Nat → Int64), f7 = vp_updL nr kp.toNatClampNeg 0 → (∀ i8 : Int32, i8 = (kp + 1) → bkX5_findParts_96 kd kn cn xs ys x2 y2 my K k17 i8 po so f5 f7 v1 v2 v3)))))
set_option maxHeartbeats 4000000 in
set_option maxRecDepth 100000 in
theorem mX5_findParts_75 {p : Program} {l : Launch} {e : Env} {s : State} {m : MethodId} {av : Array Value} {below : List Frame} {meth : Method} {c : Code} {dC : Nat → ClassId} {dI : Nat → Nat → Nat} {cI cJ cZ : ClassId} {q : Nat → Nat} {K : (Int32 × (Nat → Int32) × (Nat → Int32) × (Nat → Int32) × (Nat → Int64)) → Prop} {k17 : Int32 → (Nat → Int32) → (Nat → Int32) → (Nat → Int32) → (Nat → Int64) → Int32 → Int32 → Prop} (kc : Int32) (kd : Int32) (kn : Int32) (ka : Int32) (kt : Int32) (ku : Int32) (kr : Int32) (cn : (Nat → Int32)) (xs : (Nat → Int32)) (ys : (Nat → Int32)) (x2 : (Nat → Int32)) (y2 : (Nat → Int32)) (my : (Nat → Int32)) (tl : (Nat → Int32)) (co : (Nat → Int32)) (rg : (Nat → Int32)) (re : (Nat → Int64)) (C : CX p s m av meth c cX5_findParts 4 none RX5 wsX5_findParts) (hK : va_K (dC, dI) vwCl (TY cI cJ cZ) s) (ha : apart q 15) (hN : NX s) (hk17 : ∀ (kp : Int32) (po : (Nat → Int32)) (so : (Nat → Int32)) (st : (Nat → Int32)) (nr : (Nat → Int64)) (v1 : Int32) (v2 : Int32) (ls : Array Slot) (H : Heap) (locs : List Loc), k17 kp po so st nr v1 v2 → lv_has ls 4 [(0, .ref (q 0)), (1, .int v1), (2, .int v2)] → va_P (dC, dI) vwCl (WM q cI cJ cZ kc kd kn kp ka kt ku kr cn xs ys x2 y2 my tl po so st nr co rg re) H → va_S (AF q 15 s.heap.size) s.heap H locs → W p l e { frames := 3, cells := 0, slots := 0, locals := 74 } s m av below meth c H locs 0 0 (MQ below (QX5_findParts dC dI cI cJ cZ q s.heap.size kc kd kn ka kt ku kr cn xs ys x2 y2 my tl co rg re K) av s 0 0 (AF q 15 s.heap.size)) (F0 m 17 ls [])) : ∀ (kp : Int32) (po : (Nat → Int32)) (so : (Nat → Int32)) (st : (Nat → Int32)) (nr : (Nat → Int64)) (v1 : Int32) (v2 : Int32) (v3 : Int32) (s1 : Int32) (s2 : Int32) (ls : Array Slot) (H : Heap) (locs : List Loc), bkX5_findParts_75 kd kn cn xs ys x2 y2 my K k17 kp po so st nr v1 v2 v3 s1 s2 → lv_has ls 4 [(0, .ref (q 0)), (1, .int v1), (2, .int v2), (3, .int v3)] → va_P (dC, dI) vwCl (WM q cI cJ cZ kc kd kn kp ka kt ku kr cn xs ys x2 y2 my tl po so st nr co rg re) H → va_S (AF q 15 s.heap.size) s.heap H locs → W p l e { frames := 3, cells := 0, slots := 0, locals := 74 } s m av below meth c H locs 0 0 (MQ below (QX5_findParts dC dI cI cJ cZ q s.heap.size kc kd kn ka kt ku kr cn xs ys x2 y2 my tl co rg re K) av s 0 0 (AF q 15 s.heap.size)) (F0 m 75 ls [.int s2, .int s1, .ref (q 10)]) := by
  obtain ⟨hx, hb, hr, hml, hown, hts, hlk⟩ := id C
  intro kp po so st nr v1 v2 v3 s1 s2 ls H locs h hl hP hS
  unfold bkX5_findParts_75 at h
  obtain ⟨b4, h⟩ := h
  refine va_zast (D := (dC, dI)) hx hb hK hP (d_WM ha) hS 10 2 rfl rfl b4 dX5_findParts_75 (fun H locs hP _ hS => ?_)
  obtain ⟨f5, ef5⟩ : ∃ z : (Nat → Int32), z = upd st s1.toNatClampNeg (vp_nar .boolean s2) := ⟨_, rfl⟩
  have h := h f5 ef5
  have hP : va_P (dC, dI) vwCl (WM q cI cJ cZ kc kd kn kp ka kt ku kr cn xs ys x2 y2 my tl po so f5 nr co rg re) H := by rw [ef5]; exact hP
  refine lv_aload_n hx hb dX5_findParts_76 rfl (lv_at hl 0 rfl) ?_
  refine va_get (D := (dC, dI)) (ci := 5) (v := .ref (q 11)) (C := RX5) (T := TX5) (N := 22) hx hb hts iwX5_findParts_X5 hown hK hP 0 rfl rfl 14 (by decide) (hts _ fwX5_findParts_45) (fun _ h9 => h9) rfl dX5_findParts_77 ?_
  refine lv_aload_n hx hb dX5_findParts_80 rfl (lv_at hl 0 rfl) ?_
  refine va_get (D := (dC, dI)) (ci := 5) (v := .int kp) (C := RX5) (T := TX5) (N := 22) hx hb hts iwX5_findParts_X5 hown hK hP 0 rfl rfl 10 (by decide) (hts _ fwX5_findParts_102) (fun _ h9 => h9) rfl dX5_findParts_81 ?_
  refine lv_lconst (v := 0) hx hb dX5_findParts_84 (by decide) ?_
  obtain ⟨b6, h⟩ := h
  refine va_last (D := (dC, dI)) hx hb hK hP (d_WM ha) hS 11 1 rfl rfl b6 dX5_findParts_85 (fun H locs hP _ hS => ?_)
  obtain ⟨f7, ef7⟩ : ∃ z : (Nat → Int64), z = vp_updL nr kp.toNatClampNeg 0 := ⟨_, rfl⟩
  have h := h f7 ef7
  have hP : va_P (dC, dI) vwCl (WM q cI cJ cZ kc kd kn kp ka kt ku kr cn xs ys x2 y2 my tl po so f5 f7 co rg re) H := by rw [ef7]; exact hP
  refine lv_aload_n hx hb dX5_findParts_86 rfl (lv_at hl 0 rfl) ?_
  refine lv_dup hx hb dX5_findParts_87 rfl ?_
  refine va_get (D := (dC, dI)) (ci := 5) (v := .int kp) (C := RX5) (T := TX5) (N := 22) hx hb hts iwX5_findParts_X5 hown hK hP 0 rfl rfl 10 (by decide) (hts _ fwX5_findParts_102) (fun _ h9 => h9) rfl dX5_findParts_88 ?_
  refine lv_iconst (v := 1) hx hb dX5_findParts_91 (by decide) ?_
  refine lv_iadd hx hb dX5_findParts_92 ?_
  refine lv_topi (fun i8 ei8 => ?_)
  have h := h i8 ei8
  refine va_put (D := (dC, dI)) (ci := 5) (v := .int i8) (ty := .int) (C := RX5) (T := TX5) (N := 22) hx hb hts iwX5_findParts_X5 tyX5 tyX5_ok nmX5 hown hK hP (d_WM ha) hS 0 rfl rfl 10 (by decide) (hts _ fwX5_findParts_102) (fun _ h9 => h9) rfl (by decide +kernel) rfl rfl (Nat.le_of_ble_eq_true rfl) dX5_findParts_93 (fun H locs hP _ hS => ?_)
  have hP : va_P (dC, dI) vwCl (WM q cI cJ cZ kc kd kn i8 ka kt ku kr cn xs ys x2 y2 my tl po so f5 f7 co rg re) H := hP
  exact mX5_findParts_96 kc kd kn ka kt ku kr cn xs ys x2 y2 my tl co rg re C hK ha hN hk17 i8 po so f5 f7 v1 v2 v3 ls H locs h (lv_sub hl [0, 1, 2, 3] rfl) hP hS
def bkX5_findParts_48 (kd : Int32) (kn : Int32) (cn : (Nat → Int32)) (xs : (Nat → Int32)) (ys : (Nat → Int32)) (x2 : (Nat → Int32)) (y2 : (Nat → Int32)) (my : (Nat → Int32)) (K : (Int32 × (Nat → Int32) × (Nat → Int32) × (Nat → Int32) × (Nat → Int64)) → Prop) (k17 : Int32 → (Nat → Int32) → (Nat → Int32) → (Nat → Int32) → (Nat → Int64) → Int32 → Int32 → Prop) (kp : Int32) (po : (Nat → Int32)) (so : (Nat → Int32)) (st : (Nat → Int32)) (nr : (Nat → Int64)) (v1 : Int32) (v2 : Int32) (v3 : Int32) : Prop := (vp_in kp 40 ∧ (∀ f10 : (Nat → Int32), f10 = upd so kp.toNatClampNeg v1 → ((v2 ≤ 0 → bkX5_findParts_75 kd kn cn xs ys x2 y2 my K k17 kp po f10 st nr v1 v2 v3 kp 0) ∧ (¬ (v2 ≤ 0) → bkX5_findParts_75 kd kn cn xs ys x2 y2 my K k17 kp po f10 st nr v1 v2 v3 kp 1))))
set_option maxHeartbeats 4000000 in
set_option maxRecDepth 100000 in
theorem mX5_findParts_48 {p : Program} {l : Launch} {e : Env} {s : State} {m : MethodId} {av : Array Value} {below : List Frame} {meth : Method} {c : Code} {dC : Nat → ClassId} {dI : Nat → Nat → Nat} {cI cJ cZ : ClassId} {q : Nat → Nat} {K : (Int32 × (Nat → Int32) × (Nat → Int32) × (Nat → Int32) × (Nat → Int64)) → Prop} {k17 : Int32 → (Nat → Int32) → (Nat → Int32) → (Nat → Int32) → (Nat → Int64) → Int32 → Int32 → Prop} (kc : Int32) (kd : Int32) (kn : Int32) (ka : Int32) (kt : Int32) (ku : Int32) (kr : Int32) (cn : (Nat → Int32)) (xs : (Nat → Int32)) (ys : (Nat → Int32)) (x2 : (Nat → Int32)) (y2 : (Nat → Int32)) (my : (Nat → Int32)) (tl : (Nat → Int32)) (co : (Nat → Int32)) (rg : (Nat → Int32)) (re : (Nat → Int64)) (C : CX p s m av meth c cX5_findParts 4 none RX5 wsX5_findParts) (hK : va_K (dC, dI) vwCl (TY cI cJ cZ) s) (ha : apart q 15) (hN : NX s) (hk17 : ∀ (kp : Int32) (po : (Nat → Int32)) (so : (Nat → Int32)) (st : (Nat → Int32)) (nr : (Nat → Int64)) (v1 : Int32) (v2 : Int32) (ls : Array Slot) (H : Heap) (locs : List Loc), k17 kp po so st nr v1 v2 → lv_has ls 4 [(0, .ref (q 0)), (1, .int v1), (2, .int v2)] → va_P (dC, dI) vwCl (WM q cI cJ cZ kc kd kn kp ka kt ku kr cn xs ys x2 y2 my tl po so st nr co rg re) H → va_S (AF q 15 s.heap.size) s.heap H locs → W p l e { frames := 3, cells := 0, slots := 0, locals := 74 } s m av below meth c H locs 0 0 (MQ below (QX5_findParts dC dI cI cJ cZ q s.heap.size kc kd kn ka kt ku kr cn xs ys x2 y2 my tl co rg re K) av s 0 0 (AF q 15 s.heap.size)) (F0 m 17 ls [])) : ∀ (kp : Int32) (po : (Nat → Int32)) (so : (Nat → Int32)) (st : (Nat → Int32)) (nr : (Nat → Int64)) (v1 : Int32) (v2 : Int32) (v3 : Int32) (ls : Array Slot) (H : Heap) (locs : List Loc), bkX5_findParts_48 kd kn cn xs ys x2 y2 my K k17 kp po so st nr v1 v2 v3 → lv_has ls 4 [(0, .ref (q 0)), (1, .int v1), (2, .int v2), (3, .int v3)] → va_P (dC, dI) vwCl (WM q cI cJ cZ kc kd kn kp ka kt ku kr cn xs ys x2 y2 my tl po so st nr co rg re) H → va_S (AF q 15 s.heap.size) s.heap H locs → W p l e { frames := 3, cells := 0, slots := 0, locals := 74 } s m av below meth c H locs 0 0 (MQ below (QX5_findParts dC dI cI cJ cZ q s.heap.size kc kd kn ka kt ku kr cn xs ys x2 y2 my tl co rg re K) av s 0 0 (AF q 15 s.heap.size)) (F0 m 48 ls []) := by
  obtain ⟨hx, hb, hr, hml, hown, hts, hlk⟩ := id C
  intro kp po so st nr v1 v2 v3 ls H locs h hl hP hS
  unfold bkX5_findParts_48 at h
  refine lv_aload_n hx hb dX5_findParts_48 rfl (lv_at hl 0 rfl) ?_
  refine va_get (D := (dC, dI)) (ci := 5) (v := .ref (q 9)) (C := RX5) (T := TX5) (N := 22) hx hb hts iwX5_findParts_X5 hown hK hP 0 rfl rfl 12 (by decide) (hts _ fwX5_findParts_39) (fun _ h9 => h9) rfl dX5_findParts_49 ?_
  refine lv_aload_n hx hb dX5_findParts_52 rfl (lv_at hl 0 rfl) ?_
  refine va_get (D := (dC, dI)) (ci := 5) (v := .int kp) (C := RX5) (T := TX5) (N := 22) hx hb hts iwX5_findParts_X5 hown hK hP 0 rfl rfl 10 (by decide) (hts _ fwX5_findParts_102) (fun _ h9 => h9) rfl dX5_findParts_53 ?_
  refine lv_iload_n hx hb dX5_findParts_56 rfl (lv_at hl 1 rfl) ?_
  obtain ⟨b9, h⟩ := h
  refine va_iast (D := (dC, dI)) hx hb hK hP (d_WM ha) hS 9 0 rfl rfl b9 dX5_findParts_57 (fun H locs hP _ hS => ?_)
  obtain ⟨f10, ef10⟩ : ∃ z : (Nat → Int32), z = upd so kp.toNatClampNeg v1 := ⟨_, rfl⟩
  have h := h f10 ef10
  have hP : va_P (dC, dI) vwCl (WM q cI cJ cZ kc kd kn kp ka kt ku kr cn xs ys x2 y2 my tl po f10 st nr co rg re) H := by rw [ef10]; exact hP
  refine lv_aload_n hx hb dX5_findParts_58 rfl (lv_at hl 0 rfl) ?_
  refine va_get (D := (dC, dI)) (ci := 5) (v := .ref (q 10)) (C := RX5) (T := TX5) (N := 22) hx hb hts iwX5_findParts_X5 hown hK hP 0 rfl rfl 13 (by decide) (hts _ fwX5_findParts_42) (fun _ h9 => h9) rfl dX5_findParts_59 ?_
  refine lv_aload_n hx hb dX5_findParts_62 rfl (lv_at hl 0 rfl) ?_
  refine va_get (D := (dC, dI)) (ci := 5) (v := .int kp) (C := RX5) (T := TX5) (N := 22) hx hb hts iwX5_findParts_X5 hown hK hP 0 rfl rfl 10 (by decide) (hts _ fwX5_findParts_102) (fun _ h9 => h9) rfl dX5_findParts_63 ?_
  refine lv_iload_n hx hb dX5_findParts_66 rfl (lv_at hl 2 rfl) ?_
  refine lv_if_le (tgt := 74) hx hb dX5_findParts_67 (by decide) (fun c11 => ?_) (fun c11 => ?_)
  · have h := h.1 c11
    refine lv_iconst (v := 0) hx hb dX5_findParts_74 (by decide) ?_
    exact mX5_findParts_75 kc kd kn ka kt ku kr cn xs ys x2 y2 my tl co rg re C hK ha hN hk17 kp po f10 st nr v1 v2 v3 kp 0 ls H locs h (lv_sub hl [0, 1, 2, 3] rfl) hP hS
  · have h := h.2 c11
    refine lv_iconst (v := 1) hx hb dX5_findParts_70 (by decide) ?_
    refine lv_goto (tgt := 75) hx hb dX5_findParts_71 (by decide) ?_
    exact mX5_findParts_75 kc kd kn ka kt ku kr cn xs ys x2 y2 my tl co rg re C hK ha hN hk17 kp po f10 st nr v1 v2 v3 kp 1 ls H locs h (lv_sub hl [0, 1, 2, 3] rfl) hP hS
def lpX5_findParts_17 (kd : Int32) (kn : Int32) (cn : (Nat → Int32)) (xs : (Nat → Int32)) (ys : (Nat → Int32)) (x2 : (Nat → Int32)) (y2 : (Nat → Int32)) (my : (Nat → Int32)) (K : (Int32 × (Nat → Int32) × (Nat → Int32) × (Nat → Int32) × (Nat → Int64)) → Prop) (k114 : Int32 → (Nat → Int32) → (Nat → Int32) → (Nat → Int32) → (Nat → Int64) → Int32 → Prop) : Nat → Int32 → (Nat → Int32) → (Nat → Int32) → (Nat → Int32) → (Nat → Int64) → Int32 → Int32 → Prop
  | 0, _, _, _, _, _, _, _ => False
  | n + 1, kp, po, so, st, nr, v1, v2 => (vp_in v1 10 ∧ (((cn v1.toNatClampNeg) ≤ v2 → k114 kp po so st nr v1) ∧ (¬ ((cn v1.toNatClampNeg) ≤ v2) → (∀ i14 : Int32, i14 = ((4 * v1) + v2) → ((v2 = 0 → bkX5_findParts_48 kd kn cn xs ys x2 y2 my K (fun kp po so st nr v1 v2 => lpX5_findParts_17 kd kn cn xs ys x2 y2 my K k114 n kp po so st nr v1 v2) kp po so st nr v1 v2 i14) ∧ (¬ (v2 = 0) → (vp_in ((i14 - 1)) 40 ∧ (((my ((i14 - 1) : Int32).toNatClampNeg) = 0 → bkX5_findParts_96 kd kn cn xs ys x2 y2 my K (fun kp po so st nr v1 v2 => lpX5_findParts_17 kd kn cn xs ys x2 y2 my K k114 n kp po so st nr v1 v2) kp po so st nr v1 v2 i14) ∧ (¬ ((my ((i14 - 1) : Int32).toNatClampNeg) = 0) → bkX5_findParts_48 kd kn cn xs ys x2 y2 my K (fun kp po so st nr v1 v2 => lpX5_findParts_17 kd kn cn xs ys x2 y2 my K k114 n kp po so st nr v1 v2) kp po so st nr v1 v2 i14)))))))))
set_option maxHeartbeats 4000000 in
set_option maxRecDepth 100000 in
theorem mX5_findParts_17 {p : Program} {l : Launch} {e : Env} {s : State} {m : MethodId} {av : Array Value} {below : List Frame} {meth : Method} {c : Code} {dC : Nat → ClassId} {dI : Nat → Nat → Nat} {cI cJ cZ : ClassId} {q : Nat → Nat} {K : (Int32 × (Nat → Int32) × (Nat → Int32) × (Nat → Int32) × (Nat → Int64)) → Prop} {k114 : Int32 → (Nat → Int32) → (Nat → Int32) → (Nat → Int32) → (Nat → Int64) → Int32 → Prop} (kc : Int32) (kd : Int32) (kn : Int32) (ka : Int32) (kt : Int32) (ku : Int32) (kr : Int32) (cn : (Nat → Int32)) (xs : (Nat → Int32)) (ys : (Nat → Int32)) (x2 : (Nat → Int32)) (y2 : (Nat → Int32)) (my : (Nat → Int32)) (tl : (Nat → Int32)) (co : (Nat → Int32)) (rg : (Nat → Int32)) (re : (Nat → Int64)) (C : CX p s m av meth c cX5_findParts 4 none RX5 wsX5_findParts) (hK : va_K (dC, dI) vwCl (TY cI cJ cZ) s) (ha : apart q 15) (hN : NX s) (hk114 : ∀ (kp : Int32) (po : (Nat → Int32)) (so : (Nat → Int32)) (st : (Nat → Int32)) (nr : (Nat → Int64)) (v1 : Int32) (ls : Array Slot) (H : Heap) (locs : List Loc), k114 kp po so st nr v1 → lv_has ls 4 [(0, .ref (q 0)), (1, .int v1)] → va_P (dC, dI) vwCl (WM q cI cJ cZ kc kd kn kp ka kt ku kr cn xs ys x2 y2 my tl po so st nr co rg re) H → va_S (AF q 15 s.heap.size) s.heap H locs → W p l e { frames := 3, cells := 0, slots := 0, locals := 74 } s m av below meth c H locs 0 0 (MQ below (QX5_findParts dC dI cI cJ cZ q s.heap.size kc kd kn ka kt ku kr cn xs ys x2 y2 my tl co rg re K) av s 0 0 (AF q 15 s.heap.size)) (F0 m 114 ls [])) : ∀ (n : Nat) (kp : Int32) (po : (Nat → Int32)) (so : (Nat → Int32)) (st : (Nat → Int32)) (nr : (Nat → Int64)) (v1 : Int32) (v2 : Int32) (ls : Array Slot) (H : Heap) (locs : List Loc), lpX5_findParts_17 kd kn cn xs ys x2 y2 my K k114 n kp po so st nr v1 v2 → lv_has ls 4 [(0, .ref (q 0)), (1, .int v1), (2, .int v2)] → va_P (dC, dI) vwCl (WM q cI cJ cZ kc kd kn kp ka kt ku kr cn xs ys x2 y2 my tl po so st nr co rg re) H → va_S (AF q 15 s.heap.size) s.heap H locs → W p l e { frames := 3, cells := 0, slots := 0, locals := 74 } s m av below meth c H locs 0 0 (MQ below (QX5_findParts dC dI cI cJ cZ q s.heap.size kc kd kn ka kt ku kr cn xs ys x2 y2 my tl co rg re K) av s 0 0 (AF q 15 s.heap.size)) (F0 m 17 ls []) := by
  obtain ⟨hx, hb, hr, hml, hown, hts, hlk⟩ := id C
  intro n
  induction n with
  | zero =>
    intro kp po so st nr v1 v2 ls H locs h
    exact h.elim
  | succ n ih =>
    intro kp po so st nr v1 v2 ls H locs h hl hP hS
    rw [lpX5_findParts_17.eq_2] at h
    refine lv_iload_n hx hb dX5_findParts_17 rfl (lv_at hl 2 rfl) ?_
    refine lv_aload_n hx hb dX5_findParts_18 rfl (lv_at hl 0 rfl) ?_
    refine va_get (D := (dC, dI)) (ci := 5) (v := .ref (q 1)) (C := RX5) (T := TX5) (N := 22) hx hb hts iwX5_findParts_X5 hown hK hP 0 rfl rfl 3 (by decide) (hts _ fwX5_findParts_13) (fun _ h9 => h9) rfl dX5_findParts_19 ?_
    refine lv_iload_n hx hb dX5_findParts_22 rfl (lv_at hl 1 rfl) ?_
    obtain ⟨b12, h⟩ := h
    refine va_iald (D := (dC, dI)) hx hb hK hP 1 0 rfl rfl b12 dX5_findParts_23 ?_
    refine lv_icmp_ge (tgt := 114) hx hb dX5_findParts_24 (by decide) (fun c13 => ?_) (fun c13 => ?_)
    · have h := h.1 c13
      exact hk114 kp po so st nr v1 ls H locs h (lv_sub hl [0, 1] rfl) hP hS
    · have h := h.2 c13
      refine lv_iconst (v := 4) hx hb dX5_findParts_27 (by decide) ?_
      refine lv_iload_n hx hb dX5_findParts_28 rfl (lv_at hl 1 rfl) ?_
      refine lv_imul hx hb dX5_findParts_29 ?_
      refine lv_iload_n hx hb dX5_findParts_30 rfl (lv_at hl 2 rfl) ?_
      refine lv_iadd hx hb dX5_findParts_31 ?_
      refine lv_topi (fun i14 ei14 => ?_)
      have h := h i14 ei14
      refine lv_istore_n (lv' := [(3, .int i14), (0, .ref (q 0)), (1, .int v1), (2, .int v2)]) hx hb dX5_findParts_32 rfl hl (by decide) rfl (fun ls hl => ?_)
      refine lv_iload_n hx hb dX5_findParts_33 rfl (lv_at hl 3 rfl) ?_
      refine lv_if_eq (tgt := 48) hx hb dX5_findParts_34 (by decide) (fun c15 => ?_) (fun c15 => ?_)
      · have h := h.1 c15
        exact mX5_findParts_48 kc kd kn ka kt ku kr cn xs ys x2 y2 my tl co rg re C hK ha hN (fun kp po so st nr v1 v2 ls H locs h hl hP hS => ih kp po so st nr v1 v2 ls H locs h hl hP hS) kp po so st nr v1 v2 i14 ls H locs h (lv_sub hl [1, 2, 3, 0] rfl) hP hS
      · have h := h.2 c15
        refine lv_aload_n hx hb dX5_findParts_37 rfl (lv_at hl 1 rfl) ?_
        refine va_get (D := (dC, dI)) (ci := 5) (v := .ref (q 6)) (C := RX5) (T := TX5) (N := 22) hx hb hts iwX5_findParts_X5 hown hK hP 0 rfl rfl 8 (by decide) (hts _ fwX5_findParts_29) (fun _ h9 => h9) rfl dX5_findParts_38 ?_
        refine lv_iload_n hx hb dX5_findParts_41 rfl (lv_at hl 0 rfl) ?_
        refine lv_iconst (v := 1) hx hb dX5_findParts_42 (by decide) ?_
        refine lv_isub hx hb dX5_findParts_43 ?_
        obtain ⟨b16, h⟩ := h
        refine va_zald (D := (dC, dI)) hx hb hK hP 6 2 rfl rfl b16 dX5_findParts_44 ?_
        refine lv_if_eq (tgt := 96) hx hb dX5_findParts_45 (by decide) (fun c17 => ?_) (fun c17 => ?_)
        · have h := h.1 c17
          exact mX5_findParts_96 kc kd kn ka kt ku kr cn xs ys x2 y2 my tl co rg re C hK ha hN (fun kp po so st nr v1 v2 ls H locs h hl hP hS => ih kp po so st nr v1 v2 ls H locs h hl hP hS) kp po so st nr v1 v2 i14 ls H locs h (lv_sub hl [1, 2, 3, 0] rfl) hP hS
        · have h := h.2 c17
          exact mX5_findParts_48 kc kd kn ka kt ku kr cn xs ys x2 y2 my tl co rg re C hK ha hN (fun kp po so st nr v1 v2 ls H locs h hl hP hS => ih kp po so st nr v1 v2 ls H locs h hl hP hS) kp po so st nr v1 v2 i14 ls H locs h (lv_sub hl [1, 2, 3, 0] rfl) hP hS
def lpX5_findParts_132 (kd : Int32) (kn : Int32) (cn : (Nat → Int32)) (xs : (Nat → Int32)) (ys : (Nat → Int32)) (x2 : (Nat → Int32)) (y2 : (Nat → Int32)) (my : (Nat → Int32)) (K : (Int32 × (Nat → Int32) × (Nat → Int32) × (Nat → Int32) × (Nat → Int64)) → Prop) (k158 : Int32 → (Nat → Int32) → (Nat → Int32) → (Nat → Int32) → (Nat → Int64) → Int32 → Prop) : Nat → Int32 → (Nat → Int32) → (Nat → Int32) → (Nat → Int32) → (Nat → Int64) → Int32 → Int32 → Prop
  | 0, _, _, _, _, _, _, _ => False
  | n + 1, kp, po, so, st, nr, v1, v2 => (vp_in v1 10 ∧ (((cn v1.toNatClampNeg) ≤ v2 → k158 kp po so st nr v1) ∧ (¬ ((cn v1.toNatClampNeg) ≤ v2) → (wX5_findNear kd kn cn xs ys x2 y2 po nr v1 (((4 * v1) + v2)) (fun (u21 : (Nat → Int64)) => (∀ i22 : Int32, i22 = v2 + 1 → lpX5_findParts_132 kd kn cn xs ys x2 y2 my K k158 n kp po so st u21 v1 i22))))))
set_option maxHeartbeats 4000000 in
set_option maxRecDepth 100000 in
theorem mX5_findParts_132 {p : Program} {l : Launch} {e : Env} {s : State} {m : MethodId} {av : Array Value} {below : List Frame} {meth : Method} {c : Code} {dC : Nat → ClassId} {dI : Nat → Nat → Nat} {cI cJ cZ : ClassId} {q : Nat → Nat} {K : (Int32 × (Nat → Int32) × (Nat → Int32) × (Nat → Int32) × (Nat → Int64)) → Prop} {k158 : Int32 → (Nat → Int32) → (Nat → Int32) → (Nat → Int32) → (Nat → Int64) → Int32 → Prop} (kc : Int32) (kd : Int32) (kn : Int32) (ka : Int32) (kt : Int32) (ku : Int32) (kr : Int32) (cn : (Nat → Int32)) (xs : (Nat → Int32)) (ys : (Nat → Int32)) (x2 : (Nat → Int32)) (y2 : (Nat → Int32)) (my : (Nat → Int32)) (tl : (Nat → Int32)) (co : (Nat → Int32)) (rg : (Nat → Int32)) (re : (Nat → Int64)) (C : CX p s m av meth c cX5_findParts 4 none RX5 wsX5_findParts) (hK : va_K (dC, dI) vwCl (TY cI cJ cZ) s) (ha : apart q 15) (hN : NX s) (hk158 : ∀ (kp : Int32) (po : (Nat → Int32)) (so : (Nat → Int32)) (st : (Nat → Int32)) (nr : (Nat → Int64)) (v1 : Int32) (ls : Array Slot) (H : Heap) (locs : List Loc), k158 kp po so st nr v1 → lv_has ls 4 [(0, .ref (q 0)), (1, .int v1)] → va_P (dC, dI) vwCl (WM q cI cJ cZ kc kd kn kp ka kt ku kr cn xs ys x2 y2 my tl po so st nr co rg re) H → va_S (AF q 15 s.heap.size) s.heap H locs → W p l e { frames := 3, cells := 0, slots := 0, locals := 74 } s m av below meth c H locs 0 0 (MQ below (QX5_findParts dC dI cI cJ cZ q s.heap.size kc kd kn ka kt ku kr cn xs ys x2 y2 my tl co rg re K) av s 0 0 (AF q 15 s.heap.size)) (F0 m 158 ls [])) : ∀ (n : Nat) (kp : Int32) (po : (Nat → Int32)) (so : (Nat → Int32)) (st : (Nat → Int32)) (nr : (Nat → Int64)) (v1 : Int32) (v2 : Int32) (ls : Array Slot) (H : Heap) (locs : List Loc), lpX5_findParts_132 kd kn cn xs ys x2 y2 my K k158 n kp po so st nr v1 v2 → lv_has ls 4 [(0, .ref (q 0)), (1, .int v1), (2, .int v2)] → va_P (dC, dI) vwCl (WM q cI cJ cZ kc kd kn kp ka kt ku kr cn xs ys x2 y2 my tl po so st nr co rg re) H → va_S (AF q 15 s.heap.size) s.heap H locs → W p l e { frames := 3, cells := 0, slots := 0, locals := 74 } s m av below meth c H locs 0 0 (MQ below (QX5_findParts dC dI cI cJ cZ q s.heap.size kc kd kn ka kt ku kr cn xs ys x2 y2 my tl co rg re K) av s 0 0 (AF q 15 s.heap.size)) (F0 m 132 ls []) := by
  obtain ⟨hx, hb, hr, hml, hown, hts, hlk⟩ := id C
  intro n
  induction n with
  | zero =>
    intro kp po so st nr v1 v2 ls H locs h
    exact h.elim
  | succ n ih =>
    intro kp po so st nr v1 v2 ls H locs h hl hP hS
    rw [lpX5_findParts_132.eq_2] at h
    refine lv_iload_n hx hb dX5_findParts_132 rfl (lv_at hl 2 rfl) ?_
    refine lv_aload_n hx hb dX5_findParts_133 rfl (lv_at hl 0 rfl) ?_
    refine va_get (D := (dC, dI)) (ci := 5) (v := .ref (q 1)) (C := RX5) (T := TX5) (N := 22) hx hb hts iwX5_findParts_X5 hown hK hP 0 rfl rfl 3 (by decide) (hts _ fwX5_findParts_13) (fun _ h9 => h9) rfl dX5_findParts_134 ?_
    refine lv_iload_n hx hb dX5_findParts_137 rfl (lv_at hl 1 rfl) ?_
    obtain ⟨b18, h⟩ := h
    refine va_iald (D := (dC, dI)) hx hb hK hP 1 0 rfl rfl b18 dX5_findParts_138 ?_
    refine lv_icmp_ge (tgt := 158) hx hb dX5_findParts_139 (by decide) (fun c19 => ?_) (fun c19 => ?_)
    · have h := h.1 c19
      exact hk158 kp po so st nr v1 ls H locs h (lv_sub hl [0, 1] rfl) hP hS
    · have h := h.2 c19
      refine lv_aload_n hx hb dX5_findParts_142 rfl (lv_at hl 0 rfl) ?_
      refine lv_iload_n hx hb dX5_findParts_143 rfl (lv_at hl 1 rfl) ?_
      refine lv_iconst (v := 4) hx hb dX5_findParts_144 (by decide) ?_
      refine lv_iload_n hx hb dX5_findParts_145 rfl (lv_at hl 1 rfl) ?_
      refine lv_imul hx hb dX5_findParts_146 ?_
      refine lv_iload_n hx hb dX5_findParts_147 rfl (lv_at hl 2 rfl) ?_
      refine lv_iadd hx hb dX5_findParts_148 ?_
      refine cl_v (va_runV (As := [.int v1, .int (((4 * v1) + v2))]) (rest := []) ⟨hx, hb, hml, hown, hts⟩ (ktX5_findNear l dC dI q cI cJ cZ H.size kc kd kn kp ka kt ku kr cn xs ys x2 y2 my tl po so st nr co rg re v1 (((4 * v1) + v2)) h) (cwV 2 hts gX5_findParts_X5_findNear rfl rfl rfl (by decide +kernel) ⟨Nat.le_of_ble_eq_true rfl, Nat.le_of_ble_eq_true rfl⟩) ⟨wd.blind, va_recv hK hP (ci := 5) (q0 := 0) rfl rfl, fun U hU hW => ⟨rfl, wd.at hP hK ha hN hU hW⟩⟩ rfl rfl hl.1 rfl (lv_room (Nat.le_of_ble_eq_true rfl)) dX5_findParts_149 ⟨Nat.le_of_ble_eq_true rfl, Nat.le_of_ble_eq_true rfl⟩) hS (fun u21 H locs h hP hS => ?_)
      have hP : va_P (dC, dI) vwCl (WM q cI cJ cZ kc kd kn kp ka kt ku kr cn xs ys x2 y2 my tl po so st u21 co rg re) H := hP
      obtain ⟨i22, ei22⟩ : ∃ y : Int32, y = v2 + 1 := ⟨_, rfl⟩
      refine lv_iinc (v := i22) (lv' := [(2, .int i22), (0, .ref (q 0)), (1, .int v1)]) hx hb dX5_findParts_152 hl (k := 2) rfl (by rw [ei22]; rfl) (by decide) rfl (fun ls hl => ?_)
      have h := h i22 ei22
      refine lv_goto (tgt := 132) hx hb dX5_findParts_155 (by decide) ?_
      exact ih kp po so st u21 v1 i22 ls H locs h (lv_sub hl [1, 2, 0] rfl) hP hS
def lpX5_findParts_122 (kd : Int32) (kn : Int32) (cn : (Nat → Int32)) (xs : (Nat → Int32)) (ys : (Nat → Int32)) (x2 : (Nat → Int32)) (y2 : (Nat → Int32)) (my : (Nat → Int32)) (K : (Int32 × (Nat → Int32) × (Nat → Int32) × (Nat → Int32) × (Nat → Int64)) → Prop) (k164 : Int32 → (Nat → Int32) → (Nat → Int32) → (Nat → Int32) → (Nat → Int64) → Prop) : Nat → Int32 → (Nat → Int32) → (Nat → Int32) → (Nat → Int32) → (Nat → Int64) → Int32 → Prop
  | 0, _, _, _, _, _, _ => False
  | n + 1, kp, po, so, st, nr, v1 => ((kn ≤ v1 → k164 kp po so st nr) ∧ (¬ (kn ≤ v1) → (∃ z132, lpX5_findParts_132 kd kn cn xs ys x2 y2 my K (fun (kp : Int32) (po : (Nat → Int32)) (so : (Nat → Int32)) (st : (Nat → Int32)) (nr : (Nat → Int64)) (v1 : Int32) => (∀ i24 : Int32, i24 = v1 + 1 → lpX5_findParts_122 kd kn cn xs ys x2 y2 my K k164 n kp po so st nr i24)) z132 kp po so st nr v1 0)))
set_option maxHeartbeats 4000000 in
set_option maxRecDepth 100000 in
theorem mX5_findParts_122 {p : Program} {l : Launch} {e : Env} {s : State} {m : MethodId} {av : Array Value} {below : List Frame} {meth : Method} {c : Code} {dC : Nat → ClassId} {dI : Nat → Nat → Nat} {cI cJ cZ : ClassId} {q : Nat → Nat} {K : (Int32 × (Nat → Int32) × (Nat → Int32) × (Nat → Int32) × (Nat → Int64)) → Prop} {k164 : Int32 → (Nat → Int32) → (Nat → Int32) → (Nat → Int32) → (Nat → Int64) → Prop} (kc : Int32) (kd : Int32) (kn : Int32) (ka : Int32) (kt : Int32) (ku : Int32) (kr : Int32) (cn : (Nat → Int32)) (xs : (Nat → Int32)) (ys : (Nat → Int32)) (x2 : (Nat → Int32)) (y2 : (Nat → Int32)) (my : (Nat → Int32)) (tl : (Nat → Int32)) (co : (Nat → Int32)) (rg : (Nat → Int32)) (re : (Nat → Int64)) (C : CX p s m av meth c cX5_findParts 4 none RX5 wsX5_findParts) (hK : va_K (dC, dI) vwCl (TY cI cJ cZ) s) (ha : apart q 15) (hN : NX s) (hk164 : ∀ (kp : Int32) (po : (Nat → Int32)) (so : (Nat → Int32)) (st : (Nat → Int32)) (nr : (Nat → Int64)) (ls : Array Slot) (H : Heap) (locs : List Loc), k164 kp po so st nr → lv_has ls 4 [] → va_P (dC, dI) vwCl (WM q cI cJ cZ kc kd kn kp ka kt ku kr cn xs ys x2 y2 my tl po so st nr co rg re) H → va_S (AF q 15 s.heap.size) s.heap H locs → W p l e { frames := 3, cells := 0, slots := 0, locals := 74 } s m av below meth c H locs 0 0 (MQ below (QX5_findParts dC dI cI cJ cZ q s.heap.size kc kd kn ka kt ku kr cn xs ys x2 y2 my tl co rg re K) av s 0 0 (AF q 15 s.heap.size)) (F0 m 164 ls [])) : ∀ (n : Nat) (kp : Int32) (po : (Nat → Int32)) (so : (Nat → Int32)) (st : (Nat → Int32)) (nr : (Nat → Int64)) (v1 : Int32) (ls : Array Slot) (H : Heap) (locs : List Loc), lpX5_findParts_122 kd kn cn xs ys x2 y2 my K k164 n kp po so st nr v1 → lv_has ls 4 [(0, .ref (q 0)), (1, .int v1)] → va_P (dC, dI) vwCl (WM q cI cJ cZ kc kd kn kp ka kt ku kr cn xs ys x2 y2 my tl po so st nr co rg re) H → va_S (AF q 15 s.heap.size) s.heap H locs → W p l e { frames := 3, cells := 0, slots := 0, locals := 74 } s m av below meth c H locs 0 0 (MQ below (QX5_findParts dC dI cI cJ cZ q s.heap.size kc kd kn ka kt ku kr cn xs ys x2 y2 my tl co rg re K) av s 0 0 (AF q 15 s.heap.size)) (F0 m 122 ls []) := by
  obtain ⟨hx, hb, hr, hml, hown, hts, hlk⟩ := id C
  intro n
  induction n with
  | zero =>
    intro kp po so st nr v1 ls H locs h
    exact h.elim
  | succ n ih =>
    intro kp po so st nr v1 ls H locs h hl hP hS
    rw [lpX5_findParts_122.eq_2] at h
    refine lv_iload_n hx hb dX5_findParts_122 rfl (lv_at hl 1 rfl) ?_
    refine lv_aload_n hx hb dX5_findParts_123 rfl (lv_at hl 0 rfl) ?_
    refine va_get (D := (dC, dI)) (ci := 5) (v := .int kn) (C := RX5) (T := TX5) (N := 22) hx hb hts iwX5_findParts_X5 hown hK hP 0 rfl rfl 2 (by decide) (hts _ fwX5_findParts_64) (fun _ h9 => h9) rfl dX5_findParts_124 ?_
    refine lv_icmp_ge (tgt := 164) hx hb dX5_findParts_127 (by decide) (fun c23 => ?_) (fun c23 => ?_)
    · have h := h.1 c23
      exact hk164 kp po so st nr ls H locs h (lv_sub hl [] rfl) hP hS
    · have h := h.2 c23
      refine lv_iconst (v := 0) hx hb dX5_findParts_130 (by decide) ?_
      refine lv_istore_n (lv' := [(2, .int 0), (0, .ref (q 0)), (1, .int v1)]) hx hb dX5_findParts_131 rfl hl (by decide) rfl (fun ls hl => ?_)
      obtain ⟨n9, h⟩ := h
      exact mX5_findParts_132 kc kd kn ka kt ku kr cn xs ys x2 y2 my tl co rg re C hK ha hN (fun kp po so st nr v1 ls H locs h hl hP hS => by
          obtain ⟨i24, ei24⟩ : ∃ y : Int32, y = v1 + 1 := ⟨_, rfl⟩
          refine lv_iinc (v := i24) (lv' := [(1, .int i24), (0, .ref (q 0))]) hx hb dX5_findParts_158 hl (k := 1) rfl (by rw [ei24]; rfl) (by decide) rfl (fun ls hl => ?_)
          have h := h i24 ei24
          refine lv_goto (tgt := 122) hx hb dX5_findParts_161 (by decide) ?_
          exact ih kp po so st nr i24 ls H locs h (lv_sub hl [1, 0] rfl) hP hS) n9 kp po so st nr v1 0 ls H locs h (lv_sub hl [1, 2, 0] rfl) hP hS
def lpX5_findParts_7 (kd : Int32) (kn : Int32) (cn : (Nat → Int32)) (xs : (Nat → Int32)) (ys : (Nat → Int32)) (x2 : (Nat → Int32)) (y2 : (Nat → Int32)) (my : (Nat → Int32)) (K : (Int32 × (Nat → Int32) × (Nat → Int32) × (Nat → Int32) × (Nat → Int64)) → Prop) (k120 : Int32 → (Nat → Int32) → (Nat → Int32) → (Nat → Int32) → (Nat → Int64) → Prop) : Nat → Int32 → (Nat → Int32) → (Nat → Int32) → (Nat → Int32) → (Nat → Int64) → Int32 → Prop
  | 0, _, _, _, _, _, _ => False
  | n + 1, kp, po, so, st, nr, v1 => ((kn ≤ v1 → k120 kp po so st nr) ∧ (¬ (kn ≤ v1) → (∃ z17, lpX5_findParts_17 kd kn cn xs ys x2 y2 my K (fun (kp : Int32) (po : (Nat → Int32)) (so : (Nat → Int32)) (st : (Nat → Int32)) (nr : (Nat → Int64)) (v1 : Int32) => (∀ i26 : Int32, i26 = v1 + 1 → lpX5_findParts_7 kd kn cn xs ys x2 y2 my K k120 n kp po so st nr i26)) z17 kp po so st nr v1 0)))
set_option maxHeartbeats 4000000 in
set_option maxRecDepth 100000 in
theorem mX5_findParts_7 {p : Program} {l : Launch} {e : Env} {s : State} {m : MethodId} {av : Array Value} {below : List Frame} {meth : Method} {c : Code} {dC : Nat → ClassId} {dI : Nat → Nat → Nat} {cI cJ cZ : ClassId} {q : Nat → Nat} {K : (Int32 × (Nat → Int32) × (Nat → Int32) × (Nat → Int32) × (Nat → Int64)) → Prop} {k120 : Int32 → (Nat → Int32) → (Nat → Int32) → (Nat → Int32) → (Nat → Int64) → Prop} (kc : Int32) (kd : Int32) (kn : Int32) (ka : Int32) (kt : Int32) (ku : Int32) (kr : Int32) (cn : (Nat → Int32)) (xs : (Nat → Int32)) (ys : (Nat → Int32)) (x2 : (Nat → Int32)) (y2 : (Nat → Int32)) (my : (Nat → Int32)) (tl : (Nat → Int32)) (co : (Nat → Int32)) (rg : (Nat → Int32)) (re : (Nat → Int64)) (C : CX p s m av meth c cX5_findParts 4 none RX5 wsX5_findParts) (hK : va_K (dC, dI) vwCl (TY cI cJ cZ) s) (ha : apart q 15) (hN : NX s) (hk120 : ∀ (kp : Int32) (po : (Nat → Int32)) (so : (Nat → Int32)) (st : (Nat → Int32)) (nr : (Nat → Int64)) (ls : Array Slot) (H : Heap) (locs : List Loc), k120 kp po so st nr → lv_has ls 4 [(0, .ref (q 0))] → va_P (dC, dI) vwCl (WM q cI cJ cZ kc kd kn kp ka kt ku kr cn xs ys x2 y2 my tl po so st nr co rg re) H → va_S (AF q 15 s.heap.size) s.heap H locs → W p l e { frames := 3, cells := 0, slots := 0, locals := 74 } s m av below meth c H locs 0 0 (MQ below (QX5_findParts dC dI cI cJ cZ q s.heap.size kc kd kn ka kt ku kr cn xs ys x2 y2 my tl co rg re K) av s 0 0 (AF q 15 s.heap.size)) (F0 m 120 ls [])) : ∀ (n : Nat) (kp : Int32) (po : (Nat → Int32)) (so : (Nat → Int32)) (st : (Nat → Int32)) (nr : (Nat → Int64)) (v1 : Int32) (ls : Array Slot) (H : Heap) (locs : List Loc), lpX5_findParts_7 kd kn cn xs ys x2 y2 my K k120 n kp po so st nr v1 → lv_has ls 4 [(0, .ref (q 0)), (1, .int v1)] → va_P (dC, dI) vwCl (WM q cI cJ cZ kc kd kn kp ka kt ku kr cn xs ys x2 y2 my tl po so st nr co rg re) H → va_S (AF q 15 s.heap.size) s.heap H locs → W p l e { frames := 3, cells := 0, slots := 0, locals := 74 } s m av below meth c H locs 0 0 (MQ below (QX5_findParts dC dI cI cJ cZ q s.heap.size kc kd kn ka kt ku kr cn xs ys x2 y2 my tl co rg re K) av s 0 0 (AF q 15 s.heap.size)) (F0 m 7 ls []) := by
  obtain ⟨hx, hb, hr, hml, hown, hts, hlk⟩ := id C
  intro n
  induction n with
  | zero =>
    intro kp po so st nr v1 ls H locs h
    exact h.elim
  | succ n ih =>
    intro kp po so st nr v1 ls H locs h hl hP hS
    rw [lpX5_findParts_7.eq_2] at h
    refine lv_iload_n hx hb dX5_findParts_7 rfl (lv_at hl 1 rfl) ?_
    refine lv_aload_n hx hb dX5_findParts_8 rfl (lv_at hl 0 rfl) ?_
    refine va_get (D := (dC, dI)) (ci := 5) (v := .int kn) (C := RX5) (T := TX5) (N := 22) hx hb hts iwX5_findParts_X5 hown hK hP 0 rfl rfl 2 (by decide) (hts _ fwX5_findParts_64) (fun _ h9 => h9) rfl dX5_findParts_9 ?_
    refine lv_icmp_ge (tgt := 120) hx hb dX5_findParts_12 (by decide) (fun c25 => ?_) (fun c25 => ?_)
    · have h := h.1 c25
      exact hk120 kp po so st nr ls H locs h (lv_sub hl [0] rfl) hP hS
    · have h := h.2 c25
      refine lv_iconst (v := 0) hx hb dX5_findParts_15 (by decide) ?_
      refine lv_istore_n (lv' := [(2, .int 0), (0, .ref (q 0)), (1, .int v1)]) hx hb dX5_findParts_16 rfl hl (by decide) rfl (fun ls hl => ?_)
      obtain ⟨n9, h⟩ := h
      exact mX5_findParts_17 kc kd kn ka kt ku kr cn xs ys x2 y2 my tl co rg re C hK ha hN (fun kp po so st nr v1 ls H locs h hl hP hS => by
          obtain ⟨i26, ei26⟩ : ∃ y : Int32, y = v1 + 1 := ⟨_, rfl⟩
          refine lv_iinc (v := i26) (lv' := [(1, .int i26), (0, .ref (q 0))]) hx hb dX5_findParts_114 hl (k := 1) rfl (by rw [ei26]; rfl) (by decide) rfl (fun ls hl => ?_)
          have h := h i26 ei26
          refine lv_goto (tgt := 7) hx hb dX5_findParts_117 (by decide) ?_
          exact ih kp po so st nr i26 ls H locs h (lv_sub hl [1, 0] rfl) hP hS) n9 kp po so st nr v1 0 ls H locs h (lv_sub hl [1, 2, 0] rfl) hP hS
def wX5_findParts (kd : Int32) (kn : Int32) (cn : (Nat → Int32)) (xs : (Nat → Int32)) (ys : (Nat → Int32)) (x2 : (Nat → Int32)) (y2 : (Nat → Int32)) (my : (Nat → Int32)) (kp : Int32) (po : (Nat → Int32)) (so : (Nat → Int32)) (st : (Nat → Int32)) (nr : (Nat → Int64))  (K : (Int32 × (Nat → Int32) × (Nat → Int32) × (Nat → Int32) × (Nat → Int64)) → Prop) : Prop := (∃ z7, lpX5_findParts_7 kd kn cn xs ys x2 y2 my K (fun (kp : Int32) (po : (Nat → Int32)) (so : (Nat → Int32)) (st : (Nat → Int32)) (nr : (Nat → Int64)) => (∃ z122, lpX5_findParts_122 kd kn cn xs ys x2 y2 my K (fun (kp : Int32) (po : (Nat → Int32)) (so : (Nat → Int32)) (st : (Nat → Int32)) (nr : (Nat → Int64)) => K (kp, po, so, st, nr)) z122 kp po so st nr 0)) z7 0 po so st nr 0)
set_option maxHeartbeats 4000000 in
set_option maxRecDepth 100000 in
theorem ktX5_findParts (l : Launch) (dC : Nat → ClassId) (dI : Nat → Nat → Nat) (q : Nat → Nat) (cI cJ cZ : ClassId) (sz : Nat) (kc : Int32) (kd : Int32) (kn : Int32) (kp : Int32) (ka : Int32) (kt : Int32) (ku : Int32) (kr : Int32) (cn : (Nat → Int32)) (xs : (Nat → Int32)) (ys : (Nat → Int32)) (x2 : (Nat → Int32)) (y2 : (Nat → Int32)) (my : (Nat → Int32)) (tl : (Nat → Int32)) (po : (Nat → Int32)) (so : (Nat → Int32)) (st : (Nat → Int32)) (nr : (Nat → Int64)) (co : (Nat → Int32)) (rg : (Nat → Int32)) (re : (Nat → Int64))  {K : (Int32 × (Nat → Int32) × (Nat → Int32) × (Nat → Int32) × (Nat → Int64)) → Prop} (h : wX5_findParts kd kn cn xs ys x2 y2 my kp po so st nr K) : Met l yX5_findParts wsX5_findParts { frames := 3, cells := 0, slots := 0, locals := 74 } (va_Pc [.ref (q 0)] (wd dC dI cI cJ cZ q 15 sz (WM q cI cJ cZ kc kd kn kp ka kt ku kr cn xs ys x2 y2 my tl po so st nr co rg re))) (QX5_findParts dC dI cI cJ cZ q sz kc kd kn ka kt ku kr cn xs ys x2 y2 my tl co rg re K) 0 0 (AF q 15 sz) := by
  refine met_of [.ref (q 0)] (by decide +kernel) rfl (Nat.le_of_ble_eq_true rfl) ?_
  intro p e s m below meth c ls hsz C hK ha hN hl hP
  subst hsz
  obtain ⟨hx, hb, hr, hml, hown, hts, hlk⟩ := id C
  have hl : lv_has ls 4 [(0, .ref (q 0))] := hl
  refine w_go (Pw := fun H => va_P (dC, dI) vwCl (WM q cI cJ cZ kc kd kn kp ka kt ku kr cn xs ys x2 y2 my tl po so st nr co rg re) H) (A := AF q 15 s.heap.size) (fun H locs hP hS => ?_) hP
  unfold wX5_findParts at h
  refine lv_aload_n hx hb dX5_findParts_0 rfl (lv_at hl 0 rfl) ?_
  refine lv_iconst (v := 0) hx hb dX5_findParts_1 (by decide) ?_
  refine va_put (D := (dC, dI)) (ci := 5) (v := .int 0) (ty := .int) (C := RX5) (T := TX5) (N := 22) hx hb hts iwX5_findParts_X5 tyX5 tyX5_ok nmX5 hown hK hP (d_WM ha) hS 0 rfl rfl 10 (by decide) (hts _ fwX5_findParts_102) (fun _ h9 => h9) rfl (by decide +kernel) rfl rfl (Nat.le_of_ble_eq_true rfl) dX5_findParts_2 (fun H locs hP _ hS => ?_)
  have hP : va_P (dC, dI) vwCl (WM q cI cJ cZ kc kd kn 0 ka kt ku kr cn xs ys x2 y2 my tl po so st nr co rg re) H := hP
  refine lv_iconst (v := 0) hx hb dX5_findParts_5 (by decide) ?_
  refine lv_istore_n (lv' := [(1, .int 0), (0, .ref (q 0))]) hx hb dX5_findParts_6 rfl hl (by decide) rfl (fun ls hl => ?_)
  obtain ⟨n9, h⟩ := h
  exact mX5_findParts_7 kc kd kn ka kt ku kr cn xs ys x2 y2 my tl co rg re C hK ha hN (fun kp po so st nr ls H locs h hl hP hS => by
      refine lv_iconst (v := 0) hx hb dX5_findParts_120 (by decide) ?_
      refine lv_istore_n (lv' := [(1, .int 0), (0, .ref (q 0))]) hx hb dX5_findParts_121 rfl hl (by decide) rfl (fun ls hl => ?_)
      obtain ⟨n9, h⟩ := h
      exact mX5_findParts_122 kc kd kn ka kt ku kr cn xs ys x2 y2 my tl co rg re C hK ha hN (fun kp po so st nr ls H locs h hl hP hS => by
          exact rt_v (kp, po, so, st, nr) hx hb hr hlk h (fun t ht => by rw [ht]; exact hP) hS dX5_findParts_164) n9 kp po so st nr 0 ls H locs h (lv_sub hl [1, 0] rfl) hP hS) n9 0 po so st nr 0 ls H locs h (lv_sub hl [1, 0] rfl) hP hS
