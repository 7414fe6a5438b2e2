abbrev WA (q : Nat → Nat) (cI cJ cZ : ClassId) (fa : (Nat → Int32)) : va_W := [(q 0, .inl (cI, 40, .inl fa))]
theorem d_WA {q : Nat → Nat} {cI cJ cZ : ClassId} {sz : Nat} {fa : (Nat → Int32)} (ha : apart q 1) : va_D (AF q 1 sz) (WA q cI cJ cZ fa) := d_of rfl ha
def wc (dC : Nat → ClassId) (dI : Nat → Nat → Nat) (cI cJ cZ : ClassId) (sz : Nat) (ws : va_W) (U : State) : Prop :=
  U.heap.size = sz ∧ va_P (dC, dI) vwCl ws U.heap ∧ va_K (dC, dI) vwCl (TY cI cJ cZ) U ∧ va_D (fun _ => True) ws ∧ NX U
theorem wc.blind {dC : Nat → ClassId} {dI : Nat → Nat → Nat} {cI cJ cZ : ClassId} {sz : Nat} {ws : va_W} {av : List Value} : FrameBlind (va_Pc av (wc dC dI cI cJ cZ sz ws)) := by
  intro a U g mk h
  obtain ⟨h0, h1, h2, h3, h4, h5⟩ := h
  exact ⟨h0, h1, h2, va_K.moved (u := U) (U := U.calling g mk a) (Vm.Alike.refl U.vm) h3, h4, NX.same (u := U) rfl h5⟩
theorem wc.at {dC : Nat → ClassId} {dI : Nat → Nat → Nat} {cI cJ cZ : ClassId} {ws : va_W} {s U : State} {H : Heap} {A : Nat → Prop} (hP : va_P (dC, dI) vwCl ws H) (hK : va_K (dC, dI) vwCl (TY cI cJ cZ) s) (hD : va_D A ws) (hN : NX s) (hU : U.heap = H) (hW : s.WarmedH U.vm) : wc dC dI cI cJ cZ H.size ws U :=
  ⟨by rw [hU], by rw [hU]; exact hP, va_K.moved hW.alike hK, hD.weaken (fun _ _ _ _ => trivial), hN.warm hW⟩
theorem cmet_of {l : Launch} {y : MethodName} {ws ws' : List Cond} {rm : Room} {cc : ByteArray} {maxL : Nat} {ret : Option FieldType} {dC : Nat → ClassId} {dI : Nat → Nat → Nat} {cI cJ cZ : ClassId} {sz mc ms : Nat} {W0 : va_W} {B : (Nat → Prop) → State → Prop} (av : List Value)
    (hy : plainName y.cls = true) (hy2 : y.name = "<init>") (hw : ws = Cond.code y cc maxL ret :: ws') (hn : (lg_sl av).length ≤ maxL)
    (body : ∀ (p : Program) (e : Env) (s : State) (m : MethodId) (below : List Frame) (meth : Method) (c : Code) (ls : Array Slot) (A : Nat → Prop), (∀ x : Nat, s.heap.size ≤ x → A x) → CX p s m av.toArray meth c cc maxL ret y.cls ws → meth.name = "<init>" → va_K (dC, dI) vwCl (TY cI cJ cZ) s → NX s → lv_has ls maxL (lv_args 0 av) → va_P (dC, dI) vwCl W0 s.heap → va_D A W0 →
      W p l e rm s m av.toArray below meth c s.heap [] 0 0 (MQ below (va_Qv (fun _ : Unit => True) (fun _ t => B A t) A) av.toArray s mc ms A) (F0 m 0 ls [])) :
    Met l y ws rm (va_Pc av (wc dC dI cI cJ cZ sz W0)) (va_Qv (fun _ : Unit => True) (fun _ t => B (va_A W0 sz) t) (va_A W0 sz)) mc ms (va_A W0 sz) := by
  refine Met.ofW (cc := cc) (maxL := maxL) (ret := ret) hy hw ?_
  intro p e s m args below meth c s₁ B9 hml hv
  obtain ⟨rfl, hsz, hP, hK, hD0, hN⟩ := hv
  subst hsz
  rw [lg_entry_eq]
  exact body p e s m below meth c _ (va_A W0 s.heap.size) (fun x h => Or.inr h) ⟨B9.exec, B9.bytes, B9.returns, hml, findClass_of_methodNamed B9.named, atoms_spec (ws := ws) B9.pre, B9.notSynchronized⟩ ((name_of_methodNamed B9.named B9.method).1.trans hy2) hK hN (lv_entry av hn) hP (hD0.self (sz := s.heap.size))
theorem arr_I {D : va_G} {cI cJ cZ cA : ClassId} {s : State} (h : va_K D vwCl (TY cI cJ cZ) s) (h1 : va_K D vwCl (TY cI cJ cZ ++ [(cA, .int)]) s) : cA = cI := by
  have a := (h.2 0 _ rfl).2
  have b := (h1.2 3 _ rfl).2
  exact Option.some.inj (Eq.trans (Eq.symm b) a)
theorem arr_J {D : va_G} {cI cJ cZ cA : ClassId} {s : State} (h : va_K D vwCl (TY cI cJ cZ) s) (h1 : va_K D vwCl (TY cI cJ cZ ++ [(cA, .long)]) s) : cA = cJ := by
  have a := (h.2 1 _ rfl).2
  have b := (h1.2 3 _ rfl).2
  exact Option.some.inj (Eq.trans (Eq.symm b) a)
theorem arr_Z {D : va_G} {cI cJ cZ cA : ClassId} {s : State} (h : va_K D vwCl (TY cI cJ cZ) s) (h1 : va_K D vwCl (TY cI cJ cZ ++ [(cA, .boolean)]) s) : cA = cZ := by
  have a := (h.2 2 _ rfl).2
  have b := (h1.2 3 _ rfl).2
  exact Option.some.inj (Eq.trans (Eq.symm b) a)
theorem AF1 {a sz x : Nat} {e : va_E} : AF (fun _ => a) 1 sz x ↔ va_A [(a, e)] sz x := by
  constructor
  · rintro (⟨k, _, rfl⟩ | h)
    · exact Or.inl ⟨0, e, rfl⟩
    · exact Or.inr h
  · rintro (⟨k, e', h⟩ | h)
    · left
      have hk : k < 1 := (List.getElem?_eq_some_iff.mp h).1
      have : k = 0 := by omega
      subst this
      cases h
      exact ⟨0, Nat.zero_lt_one, rfl⟩
    · exact Or.inr h
theorem one_D {a sz : Nat} {e e' : va_E} : va_D (va_A [(a, e)] sz) [(a, e')] := by
  refine ⟨fun i j p q hi hj _ => ?_, fun i q hi => ?_⟩
  · have h1 : i < 1 := (List.getElem?_eq_some_iff.mp hi).1
    have h2 : j < 1 := (List.getElem?_eq_some_iff.mp hj).1
    omega
  · have h1 : i < 1 := (List.getElem?_eq_some_iff.mp hi).1
    have h2 : i = 0 := by omega
    subst h2
    cases hi
    exact Or.inl ⟨0, _, rfl⟩

abbrev QJ7_fill_53178 (dC : Nat → ClassId) (dI : Nat → Nat → Nat) (cI cJ cZ : ClassId) (q : Nat → Nat) (sz : Nat)  (K : (Nat → Int32) → Prop) : Array Value → State → Outcome → State → Prop := va_Qv (fun (u : (Nat → Int32)) => K u) (fun (u : (Nat → Int32)) t => va_P (dC, dI) vwCl (WA q cI cJ cZ u) t.heap) (AF q 1 sz)
def lpJ7_fill_53178_5 (K : (Nat → Int32) → Prop) (k20 : (Nat → Int32) → Prop) : Nat → (Nat → Int32) → Int32 → Int32 → Int32 → Prop
  | 0, _, _, _, _ => False
  | n + 1, fa, v1, v2, v3 => ((v3 ≤ v2 → k20 fa) ∧ (¬ (v3 ≤ v2) → (vp_in v2 40 ∧ (∀ f3 : (Nat → Int32), f3 = upd fa v2.toNatClampNeg v1 → (∀ i4 : Int32, i4 = v2 + 1 → lpJ7_fill_53178_5 K k20 n f3 v1 i4 v3)))))
set_option maxHeartbeats 4000000 in
set_option maxRecDepth 100000 in
theorem mJ7_fill_53178_5 {p : Program} {l : Launch} {e : Env} {s : State} {m : MethodId} {av : Array Value} {below : List Frame} {meth : Method} {c : Code} {dC : Nat → ClassId} {dI : Nat → Nat → Nat} {cI cJ cZ : ClassId} {q : Nat → Nat} {K : (Nat → Int32) → Prop} {k20 : (Nat → Int32) → Prop}  (C : CX p s m av meth c cJ7_fill_53178 4 none RJ7 wsJ7_fill_53178) (hK : va_K (dC, dI) vwCl (TY cI cJ cZ) s) (ha : apart q 1) (hN : NX s) (hk20 : ∀ (fa : (Nat → Int32)) (ls : Array Slot) (H : Heap) (locs : List Loc), k20 fa → lv_has ls 4 [] → va_P (dC, dI) vwCl (WA q cI cJ cZ fa) H → va_S (AF q 1 s.heap.size) s.heap H locs → W p l e { frames := 0, cells := 0, slots := 0, locals := 0 } s m av below meth c H locs 0 0 (MQ below (QJ7_fill_53178 dC dI cI cJ cZ q s.heap.size  K) av s 0 0 (AF q 1 s.heap.size)) (F0 m 20 ls [])) : ∀ (n : Nat) (fa : (Nat → Int32)) (v1 : Int32) (v2 : Int32) (v3 : Int32) (ls : Array Slot) (H : Heap) (locs : List Loc), lpJ7_fill_53178_5 K k20 n fa v1 v2 v3 → lv_has ls 4 [(0, .ref (q 0)), (1, .int v1), (2, .int v2), (3, .int v3)] → va_P (dC, dI) vwCl (WA q cI cJ cZ fa) H → va_S (AF q 1 s.heap.size) s.heap H locs → W p l e { frames := 0, cells := 0, slots := 0, locals := 0 } s m av below meth c H locs 0 0 (MQ below (QJ7_fill_53178 dC dI cI cJ cZ q s.heap.size  K) av s 0 0 (AF q 1 s.heap.size)) (F0 m 5 ls []) := by
  obtain ⟨hx, hb, hr, hml, hown, hts, hlk⟩ := id C
  intro n
  induction n with
  | zero =>
    intro fa v1 v2 v3 ls H locs h
    exact h.elim
  | succ n ih =>
    intro fa v1 v2 v3 ls H locs h hl hP hS
    rw [lpJ7_fill_53178_5.eq_2] at h
    refine lv_iload_n hx hb dJ7_fill_53178_5 rfl (lv_at hl 2 rfl) ?_
    refine lv_iload_n hx hb dJ7_fill_53178_6 rfl (lv_at hl 3 rfl) ?_
    refine lv_icmp_ge (tgt := 20) hx hb dJ7_fill_53178_7 (by decide) (fun c1 => ?_) (fun c1 => ?_)
    · have h := h.1 c1
      exact hk20 fa ls H locs h (lv_sub hl [] rfl) hP hS
    · have h := h.2 c1
      refine lv_aload_n hx hb dJ7_fill_53178_10 rfl (lv_at hl 0 rfl) ?_
      refine lv_iload_n hx hb dJ7_fill_53178_11 rfl (lv_at hl 2 rfl) ?_
      refine lv_iload_n hx hb dJ7_fill_53178_12 rfl (lv_at hl 1 rfl) ?_
      obtain ⟨b2, h⟩ := h
      refine va_iast (D := (dC, dI)) hx hb hK hP (d_WA ha) hS 0 0 rfl rfl b2 dJ7_fill_53178_13 (fun H locs hP _ hS => ?_)
      obtain ⟨f3, ef3⟩ : ∃ z : (Nat → Int32), z = upd fa v2.toNatClampNeg v1 := ⟨_, rfl⟩
      have h := h f3 ef3
      have hP : va_P (dC, dI) vwCl (WA q cI cJ cZ f3) H := by rw [ef3]; exact hP
      obtain ⟨i4, ei4⟩ : ∃ y : Int32, y = v2 + 1 := ⟨_, rfl⟩
      refine lv_iinc (v := i4) (lv' := [(2, .int i4), (0, .ref (q 0)), (1, .int v1), (3, .int v3)]) hx hb dJ7_fill_53178_14 hl (k := 2) rfl (by rw [ei4]; rfl) (by decide) rfl (fun ls hl => ?_)
      have h := h i4 ei4
      refine lv_goto (tgt := 5) hx hb dJ7_fill_53178_17 (by decide) ?_
      exact ih f3 v1 i4 v3 ls H locs h (lv_sub hl [1, 2, 0, 3] rfl) hP hS
def wJ7_fill_53178 (fa : (Nat → Int32)) (v1 : Int32) (K : (Nat → Int32) → Prop) : Prop := (∃ z5, lpJ7_fill_53178_5 K (fun (fa : (Nat → Int32)) => K fa) z5 fa v1 0 40)
set_option maxHeartbeats 4000000 in
set_option maxRecDepth 100000 in
theorem ktJ7_fill_53178 (l : Launch) (dC : Nat → ClassId) (dI : Nat → Nat → Nat) (q : Nat → Nat) (cI cJ cZ : ClassId) (sz : Nat) (fa : (Nat → Int32)) (v1 : Int32) {K : (Nat → Int32) → Prop} (h : wJ7_fill_53178 fa v1 K) : Met l yJ7_fill_53178 wsJ7_fill_53178 { frames := 0, cells := 0, slots := 0, locals := 0 } (va_Pc [.ref (q 0), .int v1] (wd dC dI cI cJ cZ q 1 sz (WA q cI cJ cZ fa))) (QJ7_fill_53178 dC dI cI cJ cZ q sz  K) 0 0 (AF q 1 sz) := by
  refine met_of [.ref (q 0), .int v1] (by decide +kernel) rfl (Nat.le_of_ble_eq_true rfl) ?_
  intro p e s m below meth c ls hsz C hK ha hN hl hP
  subst hsz
  obtain ⟨hx, hb, hr, hml, hown, hts, hlk⟩ := id C
  have hl : lv_has ls 4 [(0, .ref (q 0)), (1, .int v1)] := hl
  refine w_go (Pw := fun H => va_P (dC, dI) vwCl (WA q cI cJ cZ fa) H) (A := AF q 1 s.heap.size) (fun H locs hP hS => ?_) hP
  unfold wJ7_fill_53178 at h
  refine lv_iconst (v := 0) hx hb dJ7_fill_53178_0 (by decide) ?_
  refine lv_istore_n (lv' := [(2, .int 0), (0, .ref (q 0)), (1, .int v1)]) hx hb dJ7_fill_53178_1 rfl hl (by decide) rfl (fun ls hl => ?_)
  refine lv_aload_n hx hb dJ7_fill_53178_2 rfl (lv_at hl 1 rfl) ?_
  refine va_alen (D := (dC, dI)) (v := 40) hx hb hK hP 0 0 rfl rfl rfl dJ7_fill_53178_3 ?_
  refine lv_istore_n (lv' := [(3, .int 40), (2, .int 0), (0, .ref (q 0)), (1, .int v1)]) hx hb dJ7_fill_53178_4 rfl hl (by decide) rfl (fun ls hl => ?_)
  obtain ⟨n9, h⟩ := h
  exact mJ7_fill_53178_5  C hK ha hN (fun fa ls H locs h hl hP hS => by
      exact rt_v fa hx hb hr hlk h (fun t ht => by rw [ht]; exact hP) hS dJ7_fill_53178_20) n9 fa v1 0 40 ls H locs h (lv_sub hl [2, 3, 1, 0] rfl) hP hS

theorem s_fillI (f : Nat → Int32) (v : Int32) : wJ7_fill_53178 f v (fun g => ∀ j, j < 40 → g j = v) := by
  refine ⟨41, ?_⟩
  have key : ∀ (n i : Nat) (g : Nat → Int32), i ≤ 40 → 40 - i < n → (∀ j, j < i → g j = v) → lpJ7_fill_53178_5 (fun g => ∀ j, j < 40 → g j = v) (fun g => ∀ j, j < 40 → g j = v) n g v (nI i) 40 := by
    intro n
    induction n with
    | zero => intro i g h1 h2; omega
    | succ n ih =>
      intro i g h1 h2 h3
      rw [lpJ7_fill_53178_5.eq_2]
      refine pk_le 40 i (fun h j hj => h3 j (by omega)) (fun h => ⟨vp_in_nI (by omega) (by omega), ?_⟩)
      rintro _ rfl _ rfl
      rw [nI_1, nI_clamp (by omega)]
      refine ih (i + 1) _ (by omega) (by omega) (fun j hj => ?_)
      unfold upd
      split
      · rfl
      · exact h3 j (by omega)
  exact key 41 0 f (by omega) (by omega) (fun j hj => absurd hj (Nat.not_lt_zero j))

set_option maxRecDepth 20000 in
theorem owX2_init_a : Cond.methodLink RX2 3 objectInit ∈ wsX2_init := by decide +kernel
set_option maxRecDepth 20000 in
theorem owX2_init_b : Cond.instanceMethod objectInit ∈ wsX2_init := by decide +kernel
set_option maxRecDepth 20000 in
theorem owX2_init_c : Cond.code objectInit ⟨#[0xb1]⟩ 1 none ∈ wsX2_init := by decide +kernel
set_option maxRecDepth 20000 in
theorem fwX2_init_9 : Cond.fieldLink RX2 9 "MaskParts$Plan" "leastGap" "I" ∈ wsX2_init := by decide +kernel
set_option maxRecDepth 20000 in
theorem iwX2_init_X2 : ∀ w ∈ wsX20, w ∈ wsX2_init := by decide +kernel
set_option maxRecDepth 20000 in
theorem fwX2_init_15 : Cond.fieldLink RX2 15 "MaskParts$Plan" "shapes" "I" ∈ wsX2_init := by decide +kernel
set_option maxRecDepth 20000 in
theorem awX2_init_I : Cond.arrayClass .int ∈ wsX2_init := by decide +kernel
set_option maxRecDepth 20000 in
theorem fwX2_init_18 : Cond.fieldLink RX2 18 "MaskParts$Plan" "boxes" "[I" ∈ wsX2_init := by decide +kernel
set_option maxRecDepth 20000 in
theorem fwX2_init_22 : Cond.fieldLink RX2 22 "MaskParts$Plan" "left" "[I" ∈ wsX2_init := by decide +kernel
set_option maxRecDepth 20000 in
theorem fwX2_init_25 : Cond.fieldLink RX2 25 "MaskParts$Plan" "right" "[I" ∈ wsX2_init := by decide +kernel
set_option maxRecDepth 20000 in
theorem fwX2_init_28 : Cond.fieldLink RX2 28 "MaskParts$Plan" "low" "[I" ∈ wsX2_init := by decide +kernel
set_option maxRecDepth 20000 in
theorem fwX2_init_31 : Cond.fieldLink RX2 31 "MaskParts$Plan" "high" "[I" ∈ wsX2_init := by decide +kernel
set_option maxRecDepth 20000 in
theorem awX2_init_Z : Cond.arrayClass .boolean ∈ wsX2_init := by decide +kernel
set_option maxRecDepth 20000 in
theorem fwX2_init_34 : Cond.fieldLink RX2 34 "MaskParts$Plan" "mayStitch" "[Z" ∈ wsX2_init := by decide +kernel
set_option maxRecDepth 20000 in
theorem fwX2_init_38 : Cond.fieldLink RX2 38 "MaskParts$Plan" "wanted" "[I" ∈ wsX2_init := by decide +kernel
def BX2 (dC : Nat → ClassId) (dI : Nat → Nat → Nat) (cI cJ cZ : ClassId) (h0 : Nat) (A : Nat → Prop) (t : State) : Prop := ∃ a1 a2 a3 a4 a5 a6 a7 : Nat, ∃ z8 : Nat → Int32, (∀ j, j < 40 → z8 j = (-1)) ∧ va_P (dC, dI) vwCl [(h0, .inr (2, [.int 10, .int 0, .ref a1, .ref a2, .ref a3, .ref a4, .ref a5, .ref a6, .ref a7])), (a1, .inl (cI, 10, .inl (fun _ => 0))), (a2, .inl (cI, 40, .inl (fun _ => 0))), (a3, .inl (cI, 40, .inl (fun _ => 0))), (a4, .inl (cI, 40, .inl (fun _ => 0))), (a5, .inl (cI, 40, .inl (fun _ => 0))), (a6, .inl (cZ, 40, .inl (fun _ => 0))), (a7, .inl (cI, 40, .inl z8))] t.heap ∧ va_D A [(h0, .inr (2, [.int 10, .int 0, .ref a1, .ref a2, .ref a3, .ref a4, .ref a5, .ref a6, .ref a7])), (a1, .inl (cI, 10, .inl (fun _ => 0))), (a2, .inl (cI, 40, .inl (fun _ => 0))), (a3, .inl (cI, 40, .inl (fun _ => 0))), (a4, .inl (cI, 40, .inl (fun _ => 0))), (a5, .inl (cI, 40, .inl (fun _ => 0))), (a6, .inl (cZ, 40, .inl (fun _ => 0))), (a7, .inl (cI, 40, .inl z8))]
set_option maxHeartbeats 4000000 in
set_option maxRecDepth 100000 in
theorem kiX2 (l : Launch) (dC : Nat → ClassId) (dI : Nat → Nat → Nat) (cI cJ cZ : ClassId) (sz h0 : Nat) : Met l yX2_init wsX2_init { frames := 1, cells := 7, slots := 250, locals := 24 } (va_Pc [.ref h0] (wc dC dI cI cJ cZ sz [(h0, .inr (2, [.int 0, .int 0, .null, .null, .null, .null, .null, .null, .null]))])) (va_Qv (fun _ : Unit => True) (fun _ t => BX2 dC dI cI cJ cZ h0 (va_A [(h0, .inr (2, [.int 0, .int 0, .null, .null, .null, .null, .null, .null, .null]))] sz) t) (va_A [(h0, .inr (2, [.int 0, .int 0, .null, .null, .null, .null, .null, .null, .null]))] sz)) 7 250 (va_A [(h0, .inr (2, [.int 0, .int 0, .null, .null, .null, .null, .null, .null, .null]))] sz) := by
  refine cmet_of (B := fun A t => BX2 dC dI cI cJ cZ h0 A t) [.ref h0] (by decide +kernel) rfl rfl (Nat.le_of_ble_eq_true rfl) ?_
  intro p e s m below meth c ls A hA C hin hK hN hl hP hD
  obtain ⟨hx, hb, hr, hml, hown, hts, hlk⟩ := id C
  have hl : lv_has ls 1 [(0, .ref h0)] := hl
  refine w_go (Pw := fun H => va_P (dC, dI) vwCl [(h0, .inr (2, [.int 0, .int 0, .null, .null, .null, .null, .null, .null, .null]))] H) (A := A) (fun H locs hP hS => ?_) hP
  refine lv_aload_n hx hb dX2_init_0 rfl (lv_at hl 0 rfl) ?_
  refine W.objInit hx hb hown (hts _ owX2_init_a) (hts _ owX2_init_b) (hts _ owX2_init_c) rfl (by rw [hml]; exact hl.1) rfl dX2_init_1 (Nat.le_of_ble_eq_true rfl) (Nat.le_of_ble_eq_true rfl) ?_
  refine W.eq (g2 := F0 m 4 ls []) rfl ?_
  refine lv_aload_n hx hb dX2_init_4 rfl (lv_at hl 0 rfl) ?_
  refine lv_bipush (v := 10) hx hb dX2_init_5 (by decide) ?_
  refine va_put (D := (dC, dI)) (ci := 2) (v := .int 10) (ty := .int) (C := RX2) (T := TX2) (N := 9) hx hb hts iwX2_init_X2 tyX2 tyX2_ok nmX2 hown hK hP hD hS 0 rfl rfl 0 (by decide) (hts _ fwX2_init_9) (fun _ h9 => h9) rfl (by decide +kernel) rfl rfl (Nat.le_of_ble_eq_true rfl) dX2_init_7 (fun H locs hP hD hS => ?_)
  have hP : va_P (dC, dI) vwCl [(h0, .inr (2, [.int 10, .int 0, .null, .null, .null, .null, .null, .null, .null]))] H := hP
  have hD : va_D A [(h0, .inr (2, [.int 10, .int 0, .null, .null, .null, .null, .null, .null, .null]))] := hD
  refine lv_aload_n hx hb dX2_init_10 rfl (lv_at hl 0 rfl) ?_
  refine lv_iconst (v := 0) hx hb dX2_init_11 (by decide) ?_
  refine va_put (D := (dC, dI)) (ci := 2) (v := .int 0) (ty := .int) (C := RX2) (T := TX2) (N := 9) hx hb hts iwX2_init_X2 tyX2 tyX2_ok nmX2 hown hK hP hD hS 0 rfl rfl 1 (by decide) (hts _ fwX2_init_15) (fun _ h9 => h9) rfl (by decide +kernel) rfl rfl (Nat.le_of_ble_eq_true rfl) dX2_init_12 (fun H locs hP hD hS => ?_)
  have hP : va_P (dC, dI) vwCl [(h0, .inr (2, [.int 10, .int 0, .null, .null, .null, .null, .null, .null, .null]))] H := hP
  have hD : va_D A [(h0, .inr (2, [.int 10, .int 0, .null, .null, .null, .null, .null, .null, .null]))] := hD
  refine lv_aload_n hx hb dX2_init_15 rfl (lv_at hl 0 rfl) ?_
  refine lv_bipush (v := 10) hx hb dX2_init_16 (by decide) ?_
  refine va_newa (D := (dC, dI)) (atype := .int) (ty := .int) (N' := 10) (a0 := (10, .inl (fun _ => 0))) hx hb (hts _ awX2_init_I) rfl hK hP hD hS hA (fun _ => rfl) (by decide) (by decide) (by decide) (Nat.le_of_ble_eq_true rfl) (Nat.le_of_ble_eq_true rfl) dX2_init_18 (fun a1 cA H hK1 hP hD hS => ?_)
  have hcA : cI = cA := (arr_I hK hK1).symm
  subst hcA
  refine W.widen (k := 1) (n := 10) (by decide) (by decide) ?_
  have hP : va_P (dC, dI) vwCl [(h0, .inr (2, [.int 10, .int 0, .null, .null, .null, .null, .null, .null, .null])), (a1, .inl (cI, 10, .inl (fun _ => 0)))] H := hP
  have hD : va_D A [(h0, .inr (2, [.int 10, .int 0, .null, .null, .null, .null, .null, .null, .null])), (a1, .inl (cI, 10, .inl (fun _ => 0)))] := hD
  refine va_putF (D := (dC, dI)) (ci := 2) (v := .ref a1) (ty := .array .int) (C := RX2) (T := TX2) (N := 9) hx hb hts iwX2_init_X2 tyX2 tyX2_ok nmX2 hown hK hP hD hS 0 rfl rfl 2 (by decide) (hts _ fwX2_init_18) (fun _ h9 => h9) rfl hin rfl (by decide +kernel) rfl rfl (Nat.le_of_ble_eq_true rfl) dX2_init_20 (fun H locs hP hD hS => ?_)
  have hP : va_P (dC, dI) vwCl [(h0, .inr (2, [.int 10, .int 0, .ref a1, .null, .null, .null, .null, .null, .null])), (a1, .inl (cI, 10, .inl (fun _ => 0)))] H := hP
  have hD : va_D A [(h0, .inr (2, [.int 10, .int 0, .ref a1, .null, .null, .null, .null, .null, .null])), (a1, .inl (cI, 10, .inl (fun _ => 0)))] := hD
  refine lv_aload_n hx hb dX2_init_23 rfl (lv_at hl 0 rfl) ?_
  refine lv_bipush (v := 40) hx hb dX2_init_24 (by decide) ?_
  refine va_newa (D := (dC, dI)) (atype := .int) (ty := .int) (N' := 40) (a0 := (40, .inl (fun _ => 0))) hx hb (hts _ awX2_init_I) rfl hK hP hD hS hA (fun _ => rfl) (by decide) (by decide) (by decide) (Nat.le_of_ble_eq_true rfl) (Nat.le_of_ble_eq_true rfl) dX2_init_26 (fun a2 cA H hK1 hP hD hS => ?_)
  have hcA : cI = cA := (arr_I hK hK1).symm
  subst hcA
  refine W.widen (k := 2) (n := 50) (by decide) (by decide) ?_
  have hP : va_P (dC, dI) vwCl [(h0, .inr (2, [.int 10, .int 0, .ref a1, .null, .null, .null, .null, .null, .null])), (a1, .inl (cI, 10, .inl (fun _ => 0))), (a2, .inl (cI, 40, .inl (fun _ => 0)))] H := hP
  have hD : va_D A [(h0, .inr (2, [.int 10, .int 0, .ref a1, .null, .null, .null, .null, .null, .null])), (a1, .inl (cI, 10, .inl (fun _ => 0))), (a2, .inl (cI, 40, .inl (fun _ => 0)))] := hD
  refine va_putF (D := (dC, dI)) (ci := 2) (v := .ref a2) (ty := .array .int) (C := RX2) (T := TX2) (N := 9) hx hb hts iwX2_init_X2 tyX2 tyX2_ok nmX2 hown hK hP hD hS 0 rfl rfl 3 (by decide) (hts _ fwX2_init_22) (fun _ h9 => h9) rfl hin rfl (by decide +kernel) rfl rfl (Nat.le_of_ble_eq_true rfl) dX2_init_28 (fun H locs hP hD hS => ?_)
  have hP : va_P (dC, dI) vwCl [(h0, .inr (2, [.int 10, .int 0, .ref a1, .ref a2, .null, .null, .null, .null, .null])), (a1, .inl (cI, 10, .inl (fun _ => 0))), (a2, .inl (cI, 40, .inl (fun _ => 0)))] H := hP
  have hD : va_D A [(h0, .inr (2, [.int 10, .int 0, .ref a1, .ref a2, .null, .null, .null, .null, .null])), (a1, .inl (cI, 10, .inl (fun _ => 0))), (a2, .inl (cI, 40, .inl (fun _ => 0)))] := hD
  refine lv_aload_n hx hb dX2_init_31 rfl (lv_at hl 0 rfl) ?_
  refine lv_bipush (v := 40) hx hb dX2_init_32 (by decide) ?_
  refine va_newa (D := (dC, dI)) (atype := .int) (ty := .int) (N' := 40) (a0 := (40, .inl (fun _ => 0))) hx hb (hts _ awX2_init_I) rfl hK hP hD hS hA (fun _ => rfl) (by decide) (by decide) (by decide) (Nat.le_of_ble_eq_true rfl) (Nat.le_of_ble_eq_true rfl) dX2_init_34 (fun a3 cA H hK1 hP hD hS => ?_)
  have hcA : cI = cA := (arr_I hK hK1).symm
  subst hcA
  refine W.widen (k := 3) (n := 90) (by decide) (by decide) ?_
  have hP : va_P (dC, dI) vwCl [(h0, .inr (2, [.int 10, .int 0, .ref a1, .ref a2, .null, .null, .null, .null, .null])), (a1, .inl (cI, 10, .inl (fun _ => 0))), (a2, .inl (cI, 40, .inl (fun _ => 0))), (a3, .inl (cI, 40, .inl (fun _ => 0)))] H := hP
  have hD : va_D A [(h0, .inr (2, [.int 10, .int 0, .ref a1, .ref a2, .null, .null, .null, .null, .null])), (a1, .inl (cI, 10, .inl (fun _ => 0))), (a2, .inl (cI, 40, .inl (fun _ => 0))), (a3, .inl (cI, 40, .inl (fun _ => 0)))] := hD
  refine va_putF (D := (dC, dI)) (ci := 2) (v := .ref a3) (ty := .array .int) (C := RX2) (T := TX2) (N := 9) hx hb hts iwX2_init_X2 tyX2 tyX2_ok nmX2 hown hK hP hD hS 0 rfl rfl 4 (by decide) (hts _ fwX2_init_25) (fun _ h9 => h9) rfl hin rfl (by decide +kernel) rfl rfl (Nat.le_of_ble_eq_true rfl) dX2_init_36 (fun H locs hP hD hS => ?_)
  have hP : va_P (dC, dI) vwCl [(h0, .inr (2, [.int 10, .int 0, .ref a1, .ref a2, .ref a3, .null, .null, .null, .null])), (a1, .inl (cI, 10, .inl (fun _ => 0))), (a2, .inl (cI, 40, .inl (fun _ => 0))), (a3, .inl (cI, 40, .inl (fun _ => 0)))] H := hP
  have hD : va_D A [(h0, .inr (2, [.int 10, .int 0, .ref a1, .ref a2, .ref a3, .null, .null, .null, .null])), (a1, .inl (cI, 10, .inl (fun _ => 0))), (a2, .inl (cI, 40, .inl (fun _ => 0))), (a3, .inl (cI, 40, .inl (fun _ => 0)))] := hD
  refine lv_aload_n hx hb dX2_init_39 rfl (lv_at hl 0 rfl) ?_
  refine lv_bipush (v := 40) hx hb dX2_init_40 (by decide) ?_
  refine va_newa (D := (dC, dI)) (atype := .int) (ty := .int) (N' := 40) (a0 := (40, .inl (fun _ => 0))) hx hb (hts _ awX2_init_I) rfl hK hP hD hS hA (fun _ => rfl) (by decide) (by decide) (by decide) (Nat.le_of_ble_eq_true rfl) (Nat.le_of_ble_eq_true rfl) dX2_init_42 (fun a4 cA H hK1 hP hD hS => ?_)
  have hcA : cI = cA := (arr_I hK hK1).symm
  subst hcA
  refine W.widen (k := 4) (n := 130) (by decide) (by decide) ?_
  have hP : va_P (dC, dI) vwCl [(h0, .inr (2, [.int 10, .int 0, .ref a1, .ref a2, .ref a3, .null, .null, .null, .null])), (a1, .inl (cI, 10, .inl (fun _ => 0))), (a2, .inl (cI, 40, .inl (fun _ => 0))), (a3, .inl (cI, 40, .inl (fun _ => 0))), (a4, .inl (cI, 40, .inl (fun _ => 0)))] H := hP
  have hD : va_D A [(h0, .inr (2, [.int 10, .int 0, .ref a1, .ref a2, .ref a3, .null, .null, .null, .null])), (a1, .inl (cI, 10, .inl (fun _ => 0))), (a2, .inl (cI, 40, .inl (fun _ => 0))), (a3, .inl (cI, 40, .inl (fun _ => 0))), (a4, .inl (cI, 40, .inl (fun _ => 0)))] := hD
  refine va_putF (D := (dC, dI)) (ci := 2) (v := .ref a4) (ty := .array .int) (C := RX2) (T := TX2) (N := 9) hx hb hts iwX2_init_X2 tyX2 tyX2_ok nmX2 hown hK hP hD hS 0 rfl rfl 5 (by decide) (hts _ fwX2_init_28) (fun _ h9 => h9) rfl hin rfl (by decide +kernel) rfl rfl (Nat.le_of_ble_eq_true rfl) dX2_init_44 (fun H locs hP hD hS => ?_)
  have hP : va_P (dC, dI) vwCl [(h0, .inr (2, [.int 10, .int 0, .ref a1, .ref a2, .ref a3, .ref a4, .null, .null, .null])), (a1, .inl (cI, 10, .inl (fun _ => 0))), (a2, .inl (cI, 40, .inl (fun _ => 0))), (a3, .inl (cI, 40, .inl (fun _ => 0))), (a4, .inl (cI, 40, .inl (fun _ => 0)))] H := hP
  have hD : va_D A [(h0, .inr (2, [.int 10, .int 0, .ref a1, .ref a2, .ref a3, .ref a4, .null, .null, .null])), (a1, .inl (cI, 10, .inl (fun _ => 0))), (a2, .inl (cI, 40, .inl (fun _ => 0))), (a3, .inl (cI, 40, .inl (fun _ => 0))), (a4, .inl (cI, 40, .inl (fun _ => 0)))] := hD
  refine lv_aload_n hx hb dX2_init_47 rfl (lv_at hl 0 rfl) ?_
  refine lv_bipush (v := 40) hx hb dX2_init_48 (by decide) ?_
  refine va_newa (D := (dC, dI)) (atype := .int) (ty := .int) (N' := 40) (a0 := (40, .inl (fun _ => 0))) hx hb (hts _ awX2_init_I) rfl hK hP hD hS hA (fun _ => rfl) (by decide) (by decide) (by decide) (Nat.le_of_ble_eq_true rfl) (Nat.le_of_ble_eq_true rfl) dX2_init_50 (fun a5 cA H hK1 hP hD hS => ?_)
  have hcA : cI = cA := (arr_I hK hK1).symm
  subst hcA
  refine W.widen (k := 5) (n := 170) (by decide) (by decide) ?_
  have hP : va_P (dC, dI) vwCl [(h0, .inr (2, [.int 10, .int 0, .ref a1, .ref a2, .ref a3, .ref a4, .null, .null, .null])), (a1, .inl (cI, 10, .inl (fun _ => 0))), (a2, .inl (cI, 40, .inl (fun _ => 0))), (a3, .inl (cI, 40, .inl (fun _ => 0))), (a4, .inl (cI, 40, .inl (fun _ => 0))), (a5, .inl (cI, 40, .inl (fun _ => 0)))] H := hP
  have hD : va_D A [(h0, .inr (2, [.int 10, .int 0, .ref a1, .ref a2, .ref a3, .ref a4, .null, .null, .null])), (a1, .inl (cI, 10, .inl (fun _ => 0))), (a2, .inl (cI, 40, .inl (fun _ => 0))), (a3, .inl (cI, 40, .inl (fun _ => 0))), (a4, .inl (cI, 40, .inl (fun _ => 0))), (a5, .inl (cI, 40, .inl (fun _ => 0)))] := hD
  refine va_putF (D := (dC, dI)) (ci := 2) (v := .ref a5) (ty := .array .int) (C := RX2) (T := TX2) (N := 9) hx hb hts iwX2_init_X2 tyX2 tyX2_ok nmX2 hown hK hP hD hS 0 rfl rfl 6 (by decide) (hts _ fwX2_init_31) (fun _ h9 => h9) rfl hin rfl (by decide +kernel) rfl rfl (Nat.le_of_ble_eq_true rfl) dX2_init_52 (fun H locs hP hD hS => ?_)
  have hP : va_P (dC, dI) vwCl [(h0, .inr (2, [.int 10, .int 0, .ref a1, .ref a2, .ref a3, .ref a4, .ref a5, .null, .null])), (a1, .inl (cI, 10, .inl (fun _ => 0))), (a2, .inl (cI, 40, .inl (fun _ => 0))), (a3, .inl (cI, 40, .inl (fun _ => 0))), (a4, .inl (cI, 40, .inl (fun _ => 0))), (a5, .inl (cI, 40, .inl (fun _ => 0)))] H := hP
  have hD : va_D A [(h0, .inr (2, [.int 10, .int 0, .ref a1, .ref a2, .ref a3, .ref a4, .ref a5, .null, .null])), (a1, .inl (cI, 10, .inl (fun _ => 0))), (a2, .inl (cI, 40, .inl (fun _ => 0))), (a3, .inl (cI, 40, .inl (fun _ => 0))), (a4, .inl (cI, 40, .inl (fun _ => 0))), (a5, .inl (cI, 40, .inl (fun _ => 0)))] := hD
  refine lv_aload_n hx hb dX2_init_55 rfl (lv_at hl 0 rfl) ?_
  refine lv_bipush (v := 40) hx hb dX2_init_56 (by decide) ?_
  refine va_newa (D := (dC, dI)) (atype := .boolean) (ty := .boolean) (N' := 40) (a0 := (40, .inl (fun _ => 0))) hx hb (hts _ awX2_init_Z) rfl hK hP hD hS hA (fun _ => rfl) (by decide) (by decide) (by decide) (Nat.le_of_ble_eq_true rfl) (Nat.le_of_ble_eq_true rfl) dX2_init_58 (fun a6 cA H hK1 hP hD hS => ?_)
  have hcA : cZ = cA := (arr_Z hK hK1).symm
  subst hcA
  refine W.widen (k := 6) (n := 210) (by decide) (by decide) ?_
  have hP : va_P (dC, dI) vwCl [(h0, .inr (2, [.int 10, .int 0, .ref a1, .ref a2, .ref a3, .ref a4, .ref a5, .null, .null])), (a1, .inl (cI, 10, .inl (fun _ => 0))), (a2, .inl (cI, 40, .inl (fun _ => 0))), (a3, .inl (cI, 40, .inl (fun _ => 0))), (a4, .inl (cI, 40, .inl (fun _ => 0))), (a5, .inl (cI, 40, .inl (fun _ => 0))), (a6, .inl (cZ, 40, .inl (fun _ => 0)))] H := hP
  have hD : va_D A [(h0, .inr (2, [.int 10, .int 0, .ref a1, .ref a2, .ref a3, .ref a4, .ref a5, .null, .null])), (a1, .inl (cI, 10, .inl (fun _ => 0))), (a2, .inl (cI, 40, .inl (fun _ => 0))), (a3, .inl (cI, 40, .inl (fun _ => 0))), (a4, .inl (cI, 40, .inl (fun _ => 0))), (a5, .inl (cI, 40, .inl (fun _ => 0))), (a6, .inl (cZ, 40, .inl (fun _ => 0)))] := hD
  refine va_putF (D := (dC, dI)) (ci := 2) (v := .ref a6) (ty := .array .boolean) (C := RX2) (T := TX2) (N := 9) hx hb hts iwX2_init_X2 tyX2 tyX2_ok nmX2 hown hK hP hD hS 0 rfl rfl 7 (by decide) (hts _ fwX2_init_34) (fun _ h9 => h9) rfl hin rfl (by decide +kernel) rfl rfl (Nat.le_of_ble_eq_true rfl) dX2_init_60 (fun H locs hP hD hS => ?_)
  have hP : va_P (dC, dI) vwCl [(h0, .inr (2, [.int 10, .int 0, .ref a1, .ref a2, .ref a3, .ref a4, .ref a5, .ref a6, .null])), (a1, .inl (cI, 10, .inl (fun _ => 0))), (a2, .inl (cI, 40, .inl (fun _ => 0))), (a3, .inl (cI, 40, .inl (fun _ => 0))), (a4, .inl (cI, 40, .inl (fun _ => 0))), (a5, .inl (cI, 40, .inl (fun _ => 0))), (a6, .inl (cZ, 40, .inl (fun _ => 0)))] H := hP
  have hD : va_D A [(h0, .inr (2, [.int 10, .int 0, .ref a1, .ref a2, .ref a3, .ref a4, .ref a5, .ref a6, .null])), (a1, .inl (cI, 10, .inl (fun _ => 0))), (a2, .inl (cI, 40, .inl (fun _ => 0))), (a3, .inl (cI, 40, .inl (fun _ => 0))), (a4, .inl (cI, 40, .inl (fun _ => 0))), (a5, .inl (cI, 40, .inl (fun _ => 0))), (a6, .inl (cZ, 40, .inl (fun _ => 0)))] := hD
  refine lv_aload_n hx hb dX2_init_63 rfl (lv_at hl 0 rfl) ?_
  refine lv_bipush (v := 40) hx hb dX2_init_64 (by decide) ?_
  refine va_newa (D := (dC, dI)) (atype := .int) (ty := .int) (N' := 40) (a0 := (40, .inl (fun _ => 0))) hx hb (hts _ awX2_init_I) rfl hK hP hD hS hA (fun _ => rfl) (by decide) (by decide) (by decide) (Nat.le_of_ble_eq_true rfl) (Nat.le_of_ble_eq_true rfl) dX2_init_66 (fun a7 cA H hK1 hP hD hS => ?_)
  have hcA : cI = cA := (arr_I hK hK1).symm
  subst hcA
  refine W.widen (k := 7) (n := 250) (by decide) (by decide) ?_
  have hP : va_P (dC, dI) vwCl [(h0, .inr (2, [.int 10, .int 0, .ref a1, .ref a2, .ref a3, .ref a4, .ref a5, .ref a6, .null])), (a1, .inl (cI, 10, .inl (fun _ => 0))), (a2, .inl (cI, 40, .inl (fun _ => 0))), (a3, .inl (cI, 40, .inl (fun _ => 0))), (a4, .inl (cI, 40, .inl (fun _ => 0))), (a5, .inl (cI, 40, .inl (fun _ => 0))), (a6, .inl (cZ, 40, .inl (fun _ => 0))), (a7, .inl (cI, 40, .inl (fun _ => 0)))] H := hP
  have hD : va_D A [(h0, .inr (2, [.int 10, .int 0, .ref a1, .ref a2, .ref a3, .ref a4, .ref a5, .ref a6, .null])), (a1, .inl (cI, 10, .inl (fun _ => 0))), (a2, .inl (cI, 40, .inl (fun _ => 0))), (a3, .inl (cI, 40, .inl (fun _ => 0))), (a4, .inl (cI, 40, .inl (fun _ => 0))), (a5, .inl (cI, 40, .inl (fun _ => 0))), (a6, .inl (cZ, 40, .inl (fun _ => 0))), (a7, .inl (cI, 40, .inl (fun _ => 0)))] := hD
  refine va_putF (D := (dC, dI)) (ci := 2) (v := .ref a7) (ty := .array .int) (C := RX2) (T := TX2) (N := 9) hx hb hts iwX2_init_X2 tyX2 tyX2_ok nmX2 hown hK hP hD hS 0 rfl rfl 8 (by decide) (hts _ fwX2_init_38) (fun _ h9 => h9) rfl hin rfl (by decide +kernel) rfl rfl (Nat.le_of_ble_eq_true rfl) dX2_init_68 (fun H locs hP hD hS => ?_)
  have hP : va_P (dC, dI) vwCl [(h0, .inr (2, [.int 10, .int 0, .ref a1, .ref a2, .ref a3, .ref a4, .ref a5, .ref a6, .ref a7])), (a1, .inl (cI, 10, .inl (fun _ => 0))), (a2, .inl (cI, 40, .inl (fun _ => 0))), (a3, .inl (cI, 40, .inl (fun _ => 0))), (a4, .inl (cI, 40, .inl (fun _ => 0))), (a5, .inl (cI, 40, .inl (fun _ => 0))), (a6, .inl (cZ, 40, .inl (fun _ => 0))), (a7, .inl (cI, 40, .inl (fun _ => 0)))] H := hP
  have hD : va_D A [(h0, .inr (2, [.int 10, .int 0, .ref a1, .ref a2, .ref a3, .ref a4, .ref a5, .ref a6, .ref a7])), (a1, .inl (cI, 10, .inl (fun _ => 0))), (a2, .inl (cI, 40, .inl (fun _ => 0))), (a3, .inl (cI, 40, .inl (fun _ => 0))), (a4, .inl (cI, 40, .inl (fun _ => 0))), (a5, .inl (cI, 40, .inl (fun _ => 0))), (a6, .inl (cZ, 40, .inl (fun _ => 0))), (a7, .inl (cI, 40, .inl (fun _ => 0)))] := hD
  refine lv_aload_n hx hb dX2_init_71 rfl (lv_at hl 0 rfl) ?_
  refine va_get (D := (dC, dI)) (ci := 2) (v := .ref a7) (C := RX2) (T := TX2) (N := 9) hx hb hts iwX2_init_X2 hown hK hP 0 rfl rfl 8 (by decide) (hts _ fwX2_init_38) (fun _ h9 => h9) rfl dX2_init_72 ?_
  refine lv_iconst (v := (-1)) hx hb dX2_init_75 (by decide) ?_
  have hPc := hP.sub (ws' := [(a7, .inl (cI, 40, .inl (fun _ => 0)))]) [7] rfl
  have hFc := va_free (wc := [(a7, .inl (cI, 40, .inl (fun _ => 0)))]) hD hS hA [7] rfl
  have hDc := hD.sub (ws' := [(a7, .inl (cI, 40, .inl (fun _ => 0)))]) [7] (by decide) rfl
  refine va_callv (va_runS (As := [.ref a7, .int (-1)]) (rest := []) ⟨hx, hb, hml, hown, hts⟩ (ktJ7_fill_53178 l dC dI (fun _ => a7) cI cJ cZ H.size (fun _ => 0) (-1) (s_fillI (fun _ => 0) (-1))) (va_cwS 2 hts gX2_init_J7_fill_53178 rfl rfl rfl (by decide +kernel) ⟨Nat.le_of_ble_eq_true rfl, Nat.le_of_ble_eq_true rfl⟩) ⟨wd.blind, fun U hU hW => ⟨rfl, wd.at hPc hK (fun i j hi hj _ => by omega) hN hU hW⟩⟩ rfl rfl hl.1 rfl (lv_room (Nat.le_of_ble_eq_true rfl)) dX2_init_76 ⟨Nat.le_of_ble_eq_true rfl, Nat.le_of_ble_eq_true rfl⟩) hS (fun q _ h => hFc q (AF1.mp h)) (fun q h => hFc q (AF1.mp h)) (fun z8 t H1 locs ht hvm ez8 hB hz1 hk1 hS => ?_)
  rw [ht] at hB
  have hDn : va_D (va_A [(a7, .inl (cI, 40, .inl (fun _ => 0)))] H.size) [(a7, .inl (cI, 40, .inl z8))] := one_D
  obtain ⟨hP, hD⟩ := va_join (wr := [(h0, .inr (2, [.int 10, .int 0, .ref a1, .ref a2, .ref a3, .ref a4, .ref a5, .ref a6, .ref a7])), (a1, .inl (cI, 10, .inl (fun _ => 0))), (a2, .inl (cI, 40, .inl (fun _ => 0))), (a3, .inl (cI, 40, .inl (fun _ => 0))), (a4, .inl (cI, 40, .inl (fun _ => 0))), (a5, .inl (cI, 40, .inl (fun _ => 0))), (a6, .inl (cZ, 40, .inl (fun _ => 0)))]) (w1 := [(a7, .inl (cI, 40, .inl z8))]) hP hD [7] [0, 1, 2, 3, 4, 5, 6] rfl rfl (by decide) (by decide) (fun q h1 h2 => hk1 q h1 (fun h3 => h2 (AF1.mp h3))) hFc hB hDn
  generalize H1 = H at hP hS ⊢
  have hP : va_P (dC, dI) vwCl [(h0, .inr (2, [.int 10, .int 0, .ref a1, .ref a2, .ref a3, .ref a4, .ref a5, .ref a6, .ref a7])), (a1, .inl (cI, 10, .inl (fun _ => 0))), (a2, .inl (cI, 40, .inl (fun _ => 0))), (a3, .inl (cI, 40, .inl (fun _ => 0))), (a4, .inl (cI, 40, .inl (fun _ => 0))), (a5, .inl (cI, 40, .inl (fun _ => 0))), (a6, .inl (cZ, 40, .inl (fun _ => 0))), (a7, .inl (cI, 40, .inl z8))] H := hP
  have hD : va_D A [(h0, .inr (2, [.int 10, .int 0, .ref a1, .ref a2, .ref a3, .ref a4, .ref a5, .ref a6, .ref a7])), (a1, .inl (cI, 10, .inl (fun _ => 0))), (a2, .inl (cI, 40, .inl (fun _ => 0))), (a3, .inl (cI, 40, .inl (fun _ => 0))), (a4, .inl (cI, 40, .inl (fun _ => 0))), (a5, .inl (cI, 40, .inl (fun _ => 0))), (a6, .inl (cZ, 40, .inl (fun _ => 0))), (a7, .inl (cI, 40, .inl z8))] := hD
  exact rt_v () hx hb hr hlk trivial (fun t ht => ⟨a1, a2, a3, a4, a5, a6, a7, z8, ez8, by rw [ht]; exact hP, hD⟩) hS dX2_init_79

set_option maxRecDepth 20000 in
theorem owX0_init_a : Cond.methodLink RX0 3 objectInit ∈ wsX0_init := by decide +kernel
set_option maxRecDepth 20000 in
theorem owX0_init_b : Cond.instanceMethod objectInit ∈ wsX0_init := by decide +kernel
set_option maxRecDepth 20000 in
theorem owX0_init_c : Cond.code objectInit ⟨#[0xb1]⟩ 1 none ∈ wsX0_init := by decide +kernel
set_option maxRecDepth 20000 in
theorem fwX0_init_9 : Cond.fieldLink RX0 9 "MaskParts$Net" "fresh" "Z" ∈ wsX0_init := by decide +kernel
set_option maxRecDepth 20000 in
theorem iwX0_init_X0 : ∀ w ∈ wsX00, w ∈ wsX0_init := by decide +kernel
set_option maxRecDepth 20000 in
theorem fwX0_init_15 : Cond.fieldLink RX0 15 "MaskParts$Net" "parts" "I" ∈ wsX0_init := by decide +kernel
set_option maxRecDepth 20000 in
theorem fwX0_init_19 : Cond.fieldLink RX0 19 "MaskParts$Net" "pairs" "I" ∈ wsX0_init := by decide +kernel
set_option maxRecDepth 20000 in
theorem fwX0_init_22 : Cond.fieldLink RX0 22 "MaskParts$Net" "stitches" "I" ∈ wsX0_init := by decide +kernel
set_option maxRecDepth 20000 in
theorem awX0_init_I : Cond.arrayClass .int ∈ wsX0_init := by decide +kernel
set_option maxRecDepth 20000 in
theorem fwX0_init_25 : Cond.fieldLink RX0 25 "MaskParts$Net" "partOf" "[I" ∈ wsX0_init := by decide +kernel
set_option maxRecDepth 20000 in
theorem awX0_init_J : Cond.arrayClass .long ∈ wsX0_init := by decide +kernel
set_option maxRecDepth 20000 in
theorem fwX0_init_29 : Cond.fieldLink RX0 29 "MaskParts$Net" "near" "[J" ∈ wsX0_init := by decide +kernel
set_option maxRecDepth 20000 in
theorem awX0_init_Z : Cond.arrayClass .boolean ∈ wsX0_init := by decide +kernel
set_option maxRecDepth 20000 in
theorem fwX0_init_33 : Cond.fieldLink RX0 33 "MaskParts$Net" "stitchedToLast" "[Z" ∈ wsX0_init := by decide +kernel
set_option maxRecDepth 20000 in
theorem fwX0_init_37 : Cond.fieldLink RX0 37 "MaskParts$Net" "coloursLeft" "[I" ∈ wsX0_init := by decide +kernel
set_option maxRecDepth 20000 in
theorem fwX0_init_40 : Cond.fieldLink RX0 40 "MaskParts$Net" "plan" "LMaskParts$Plan;" ∈ wsX0_init := by decide +kernel
def BX0 (dC : Nat → ClassId) (dI : Nat → Nat → Nat) (cI cJ cZ : ClassId) (h0 : Nat) (p1 : Nat) (A : Nat → Prop) (t : State) : Prop := ∃ a1 a2 a3 a4 : Nat, va_P (dC, dI) vwCl [(h0, .inr (0, [.ref p1, .int 0, .int 0, .int 0, .int 0, .ref a1, .ref a2, .ref a3, .ref a4])), (a1, .inl (cI, 40, .inl (fun _ => 0))), (a2, .inl (cJ, 40, .inr (.inl (fun _ => 0)))), (a3, .inl (cZ, 40, .inl (fun _ => 0))), (a4, .inl (cI, 40, .inl (fun _ => 0)))] t.heap ∧ va_D A [(h0, .inr (0, [.ref p1, .int 0, .int 0, .int 0, .int 0, .ref a1, .ref a2, .ref a3, .ref a4])), (a1, .inl (cI, 40, .inl (fun _ => 0))), (a2, .inl (cJ, 40, .inr (.inl (fun _ => 0)))), (a3, .inl (cZ, 40, .inl (fun _ => 0))), (a4, .inl (cI, 40, .inl (fun _ => 0)))]
set_option maxHeartbeats 4000000 in
set_option maxRecDepth 100000 in
theorem kiX0 (l : Launch) (dC : Nat → ClassId) (dI : Nat → Nat → Nat) (cI cJ cZ : ClassId) (sz h0 : Nat) (p1 : Nat) : Met l yX0_init wsX0_init { frames := 1, cells := 4, slots := 160, locals := 24 } (va_Pc [.ref h0, .ref p1] (wc dC dI cI cJ cZ sz [(h0, .inr (0, [.null, .int 0, .int 0, .int 0, .int 0, .null, .null, .null, .null]))])) (va_Qv (fun _ : Unit => True) (fun _ t => BX0 dC dI cI cJ cZ h0 p1 (va_A [(h0, .inr (0, [.null, .int 0, .int 0, .int 0, .int 0, .null, .null, .null, .null]))] sz) t) (va_A [(h0, .inr (0, [.null, .int 0, .int 0, .int 0, .int 0, .null, .null, .null, .null]))] sz)) 4 160 (va_A [(h0, .inr (0, [.null, .int 0, .int 0, .int 0, .int 0, .null, .null, .null, .null]))] sz) := by
  refine cmet_of (B := fun A t => BX0 dC dI cI cJ cZ h0 p1 A t) [.ref h0, .ref p1] (by decide +kernel) rfl rfl (Nat.le_of_ble_eq_true rfl) ?_
  intro p e s m below meth c ls A hA C hin hK hN hl hP hD
  obtain ⟨hx, hb, hr, hml, hown, hts, hlk⟩ := id C
  have hl : lv_has ls 2 [(0, .ref h0), (1, .ref p1)] := hl
  refine w_go (Pw := fun H => va_P (dC, dI) vwCl [(h0, .inr (0, [.null, .int 0, .int 0, .int 0, .int 0, .null, .null, .null, .null]))] H) (A := A) (fun H locs hP hS => ?_) hP
  refine lv_aload_n hx hb dX0_init_0 rfl (lv_at hl 0 rfl) ?_
  refine W.objInit hx hb hown (hts _ owX0_init_a) (hts _ owX0_init_b) (hts _ owX0_init_c) rfl (by rw [hml]; exact hl.1) rfl dX0_init_1 (Nat.le_of_ble_eq_true rfl) (Nat.le_of_ble_eq_true rfl) ?_
  refine W.eq (g2 := F0 m 4 ls []) rfl ?_
  refine lv_aload_n hx hb dX0_init_4 rfl (lv_at hl 0 rfl) ?_
  refine lv_iconst (v := 0) hx hb dX0_init_5 (by decide) ?_
  refine va_put (D := (dC, dI)) (ci := 0) (v := .int 0) (ty := .boolean) (C := RX0) (T := TX0) (N := 9) hx hb hts iwX0_init_X0 tyX0 tyX0_ok nmX0 hown hK hP hD hS 0 rfl rfl 1 (by decide) (hts _ fwX0_init_9) (fun _ h9 => h9) rfl (by decide +kernel) rfl rfl (Nat.le_of_ble_eq_true rfl) dX0_init_6 (fun H locs hP hD hS => ?_)
  have hP : va_P (dC, dI) vwCl [(h0, .inr (0, [.null, .int 0, .int 0, .int 0, .int 0, .null, .null, .null, .null]))] H := hP
  have hD : va_D A [(h0, .inr (0, [.null, .int 0, .int 0, .int 0, .int 0, .null, .null, .null, .null]))] := hD
  refine lv_aload_n hx hb dX0_init_9 rfl (lv_at hl 0 rfl) ?_
  refine lv_iconst (v := 0) hx hb dX0_init_10 (by decide) ?_
  refine va_put (D := (dC, dI)) (ci := 0) (v := .int 0) (ty := .int) (C := RX0) (T := TX0) (N := 9) hx hb hts iwX0_init_X0 tyX0 tyX0_ok nmX0 hown hK hP hD hS 0 rfl rfl 2 (by decide) (hts _ fwX0_init_15) (fun _ h9 => h9) rfl (by decide +kernel) rfl rfl (Nat.le_of_ble_eq_true rfl) dX0_init_11 (fun H locs hP hD hS => ?_)
  have hP : va_P (dC, dI) vwCl [(h0, .inr (0, [.null, .int 0, .int 0, .int 0, .int 0, .null, .null, .null, .null]))] H := hP
  have hD : va_D A [(h0, .inr (0, [.null, .int 0, .int 0, .int 0, .int 0, .null, .null, .null, .null]))] := hD
  refine lv_aload_n hx hb dX0_init_14 rfl (lv_at hl 0 rfl) ?_
  refine lv_iconst (v := 0) hx hb dX0_init_15 (by decide) ?_
  refine va_put (D := (dC, dI)) (ci := 0) (v := .int 0) (ty := .int) (C := RX0) (T := TX0) (N := 9) hx hb hts iwX0_init_X0 tyX0 tyX0_ok nmX0 hown hK hP hD hS 0 rfl rfl 3 (by decide) (hts _ fwX0_init_19) (fun _ h9 => h9) rfl (by decide +kernel) rfl rfl (Nat.le_of_ble_eq_true rfl) dX0_init_16 (fun H locs hP hD hS => ?_)
  have hP : va_P (dC, dI) vwCl [(h0, .inr (0, [.null, .int 0, .int 0, .int 0, .int 0, .null, .null, .null, .null]))] H := hP
  have hD : va_D A [(h0, .inr (0, [.null, .int 0, .int 0, .int 0, .int 0, .null, .null, .null, .null]))] := hD
  refine lv_aload_n hx hb dX0_init_19 rfl (lv_at hl 0 rfl) ?_
  refine lv_iconst (v := 0) hx hb dX0_init_20 (by decide) ?_
  refine va_put (D := (dC, dI)) (ci := 0) (v := .int 0) (ty := .int) (C := RX0) (T := TX0) (N := 9) hx hb hts iwX0_init_X0 tyX0 tyX0_ok nmX0 hown hK hP hD hS 0 rfl rfl 4 (by decide) (hts _ fwX0_init_22) (fun _ h9 => h9) rfl (by decide +kernel) rfl rfl (Nat.le_of_ble_eq_true rfl) dX0_init_21 (fun H locs hP hD hS => ?_)
  have hP : va_P (dC, dI) vwCl [(h0, .inr (0, [.null, .int 0, .int 0, .int 0, .int 0, .null, .null, .null, .null]))] H := hP
  have hD : va_D A [(h0, .inr (0, [.null, .int 0, .int 0, .int 0, .int 0, .null, .null, .null, .null]))] := hD
  refine lv_aload_n hx hb dX0_init_24 rfl (lv_at hl 0 rfl) ?_
  refine lv_bipush (v := 40) hx hb dX0_init_25 (by decide) ?_
  refine va_newa (D := (dC, dI)) (atype := .int) (ty := .int) (N' := 40) (a0 := (40, .inl (fun _ => 0))) hx hb (hts _ awX0_init_I) rfl hK hP hD hS hA (fun _ => rfl) (by decide) (by decide) (by decide) (Nat.le_of_ble_eq_true rfl) (Nat.le_of_ble_eq_true rfl) dX0_init_27 (fun a1 cA H hK1 hP hD hS => ?_)
  have hcA : cI = cA := (arr_I hK hK1).symm
  subst hcA
  refine W.widen (k := 1) (n := 40) (by decide) (by decide) ?_
  have hP : va_P (dC, dI) vwCl [(h0, .inr (0, [.null, .int 0, .int 0, .int 0, .int 0, .null, .null, .null, .null])), (a1, .inl (cI, 40, .inl (fun _ => 0)))] H := hP
  have hD : va_D A [(h0, .inr (0, [.null, .int 0, .int 0, .int 0, .int 0, .null, .null, .null, .null])), (a1, .inl (cI, 40, .inl (fun _ => 0)))] := hD
  refine va_putF (D := (dC, dI)) (ci := 0) (v := .ref a1) (ty := .array .int) (C := RX0) (T := TX0) (N := 9) hx hb hts iwX0_init_X0 tyX0 tyX0_ok nmX0 hown hK hP hD hS 0 rfl rfl 5 (by decide) (hts _ fwX0_init_25) (fun _ h9 => h9) rfl hin rfl (by decide +kernel) rfl rfl (Nat.le_of_ble_eq_true rfl) dX0_init_29 (fun H locs hP hD hS => ?_)
  have hP : va_P (dC, dI) vwCl [(h0, .inr (0, [.null, .int 0, .int 0, .int 0, .int 0, .ref a1, .null, .null, .null])), (a1, .inl (cI, 40, .inl (fun _ => 0)))] H := hP
  have hD : va_D A [(h0, .inr (0, [.null, .int 0, .int 0, .int 0, .int 0, .ref a1, .null, .null, .null])), (a1, .inl (cI, 40, .inl (fun _ => 0)))] := hD
  refine lv_aload_n hx hb dX0_init_32 rfl (lv_at hl 0 rfl) ?_
  refine lv_bipush (v := 40) hx hb dX0_init_33 (by decide) ?_
  refine va_newa (D := (dC, dI)) (atype := .long) (ty := .long) (N' := 40) (a0 := (40, .inr (.inl (fun _ => 0)))) hx hb (hts _ awX0_init_J) rfl hK hP hD hS hA (fun _ => rfl) (by decide) (by decide) (by decide) (Nat.le_of_ble_eq_true rfl) (Nat.le_of_ble_eq_true rfl) dX0_init_35 (fun a2 cA H hK1 hP hD hS => ?_)
  have hcA : cJ = cA := (arr_J hK hK1).symm
  subst hcA
  refine W.widen (k := 2) (n := 80) (by decide) (by decide) ?_
  have hP : va_P (dC, dI) vwCl [(h0, .inr (0, [.null, .int 0, .int 0, .int 0, .int 0, .ref a1, .null, .null, .null])), (a1, .inl (cI, 40, .inl (fun _ => 0))), (a2, .inl (cJ, 40, .inr (.inl (fun _ => 0))))] H := hP
  have hD : va_D A [(h0, .inr (0, [.null, .int 0, .int 0, .int 0, .int 0, .ref a1, .null, .null, .null])), (a1, .inl (cI, 40, .inl (fun _ => 0))), (a2, .inl (cJ, 40, .inr (.inl (fun _ => 0))))] := hD
  refine va_putF (D := (dC, dI)) (ci := 0) (v := .ref a2) (ty := .array .long) (C := RX0) (T := TX0) (N := 9) hx hb hts iwX0_init_X0 tyX0 tyX0_ok nmX0 hown hK hP hD hS 0 rfl rfl 6 (by decide) (hts _ fwX0_init_29) (fun _ h9 => h9) rfl hin rfl (by decide +kernel) rfl rfl (Nat.le_of_ble_eq_true rfl) dX0_init_37 (fun H locs hP hD hS => ?_)
  have hP : va_P (dC, dI) vwCl [(h0, .inr (0, [.null, .int 0, .int 0, .int 0, .int 0, .ref a1, .ref a2, .null, .null])), (a1, .inl (cI, 40, .inl (fun _ => 0))), (a2, .inl (cJ, 40, .inr (.inl (fun _ => 0))))] H := hP
  have hD : va_D A [(h0, .inr (0, [.null, .int 0, .int 0, .int 0, .int 0, .ref a1, .ref a2, .null, .null])), (a1, .inl (cI, 40, .inl (fun _ => 0))), (a2, .inl (cJ, 40, .inr (.inl (fun _ => 0))))] := hD
  refine lv_aload_n hx hb dX0_init_40 rfl (lv_at hl 0 rfl) ?_
  refine lv_bipush (v := 40) hx hb dX0_init_41 (by decide) ?_
  refine va_newa (D := (dC, dI)) (atype := .boolean) (ty := .boolean) (N' := 40) (a0 := (40, .inl (fun _ => 0))) hx hb (hts _ awX0_init_Z) rfl hK hP hD hS hA (fun _ => rfl) (by decide) (by decide) (by decide) (Nat.le_of_ble_eq_true rfl) (Nat.le_of_ble_eq_true rfl) dX0_init_43 (fun a3 cA H hK1 hP hD hS => ?_)
  have hcA : cZ = cA := (arr_Z hK hK1).symm
  subst hcA
  refine W.widen (k := 3) (n := 120) (by decide) (by decide) ?_
  have hP : va_P (dC, dI) vwCl [(h0, .inr (0, [.null, .int 0, .int 0, .int 0, .int 0, .ref a1, .ref a2, .null, .null])), (a1, .inl (cI, 40, .inl (fun _ => 0))), (a2, .inl (cJ, 40, .inr (.inl (fun _ => 0)))), (a3, .inl (cZ, 40, .inl (fun _ => 0)))] H := hP
  have hD : va_D A [(h0, .inr (0, [.null, .int 0, .int 0, .int 0, .int 0, .ref a1, .ref a2, .null, .null])), (a1, .inl (cI, 40, .inl (fun _ => 0))), (a2, .inl (cJ, 40, .inr (.inl (fun _ => 0)))), (a3, .inl (cZ, 40, .inl (fun _ => 0)))] := hD
  refine va_putF (D := (dC, dI)) (ci := 0) (v := .ref a3) (ty := .array .boolean) (C := RX0) (T := TX0) (N := 9) hx hb hts iwX0_init_X0 tyX0 tyX0_ok nmX0 hown hK hP hD hS 0 rfl rfl 7 (by decide) (hts _ fwX0_init_33) (fun _ h9 => h9) rfl hin rfl (by decide +kernel) rfl rfl (Nat.le_of_ble_eq_true rfl) dX0_init_45 (fun H locs hP hD hS => ?_)
  have hP : va_P (dC, dI) vwCl [(h0, .inr (0, [.null, .int 0, .int 0, .int 0, .int 0, .ref a1, .ref a2, .ref a3, .null])), (a1, .inl (cI, 40, .inl (fun _ => 0))), (a2, .inl (cJ, 40, .inr (.inl (fun _ => 0)))), (a3, .inl (cZ, 40, .inl (fun _ => 0)))] H := hP
  have hD : va_D A [(h0, .inr (0, [.null, .int 0, .int 0, .int 0, .int 0, .ref a1, .ref a2, .ref a3, .null])), (a1, .inl (cI, 40, .inl (fun _ => 0))), (a2, .inl (cJ, 40, .inr (.inl (fun _ => 0)))), (a3, .inl (cZ, 40, .inl (fun _ => 0)))] := hD
  refine lv_aload_n hx hb dX0_init_48 rfl (lv_at hl 0 rfl) ?_
  refine lv_bipush (v := 40) hx hb dX0_init_49 (by decide) ?_
  refine va_newa (D := (dC, dI)) (atype := .int) (ty := .int) (N' := 40) (a0 := (40, .inl (fun _ => 0))) hx hb (hts _ awX0_init_I) rfl hK hP hD hS hA (fun _ => rfl) (by decide) (by decide) (by decide) (Nat.le_of_ble_eq_true rfl) (Nat.le_of_ble_eq_true rfl) dX0_init_51 (fun a4 cA H hK1 hP hD hS => ?_)
  have hcA : cI = cA := (arr_I hK hK1).symm
  subst hcA
  refine W.widen (k := 4) (n := 160) (by decide) (by decide) ?_
  have hP : va_P (dC, dI) vwCl [(h0, .inr (0, [.null, .int 0, .int 0, .int 0, .int 0, .ref a1, .ref a2, .ref a3, .null])), (a1, .inl (cI, 40, .inl (fun _ => 0))), (a2, .inl (cJ, 40, .inr (.inl (fun _ => 0)))), (a3, .inl (cZ, 40, .inl (fun _ => 0))), (a4, .inl (cI, 40, .inl (fun _ => 0)))] H := hP
  have hD : va_D A [(h0, .inr (0, [.null, .int 0, .int 0, .int 0, .int 0, .ref a1, .ref a2, .ref a3, .null])), (a1, .inl (cI, 40, .inl (fun _ => 0))), (a2, .inl (cJ, 40, .inr (.inl (fun _ => 0)))), (a3, .inl (cZ, 40, .inl (fun _ => 0))), (a4, .inl (cI, 40, .inl (fun _ => 0)))] := hD
  refine va_putF (D := (dC, dI)) (ci := 0) (v := .ref a4) (ty := .array .int) (C := RX0) (T := TX0) (N := 9) hx hb hts iwX0_init_X0 tyX0 tyX0_ok nmX0 hown hK hP hD hS 0 rfl rfl 8 (by decide) (hts _ fwX0_init_37) (fun _ h9 => h9) rfl hin rfl (by decide +kernel) rfl rfl (Nat.le_of_ble_eq_true rfl) dX0_init_53 (fun H locs hP hD hS => ?_)
  have hP : va_P (dC, dI) vwCl [(h0, .inr (0, [.null, .int 0, .int 0, .int 0, .int 0, .ref a1, .ref a2, .ref a3, .ref a4])), (a1, .inl (cI, 40, .inl (fun _ => 0))), (a2, .inl (cJ, 40, .inr (.inl (fun _ => 0)))), (a3, .inl (cZ, 40, .inl (fun _ => 0))), (a4, .inl (cI, 40, .inl (fun _ => 0)))] H := hP
  have hD : va_D A [(h0, .inr (0, [.null, .int 0, .int 0, .int 0, .int 0, .ref a1, .ref a2, .ref a3, .ref a4])), (a1, .inl (cI, 40, .inl (fun _ => 0))), (a2, .inl (cJ, 40, .inr (.inl (fun _ => 0)))), (a3, .inl (cZ, 40, .inl (fun _ => 0))), (a4, .inl (cI, 40, .inl (fun _ => 0)))] := hD
  refine lv_aload_n hx hb dX0_init_56 rfl (lv_at hl 0 rfl) ?_
  refine lv_aload_n hx hb dX0_init_57 rfl (lv_at hl 1 rfl) ?_
  refine va_putF (D := (dC, dI)) (ci := 0) (v := .ref p1) (ty := .object "MaskParts$Plan") (C := RX0) (T := TX0) (N := 9) hx hb hts iwX0_init_X0 tyX0 tyX0_ok nmX0 hown hK hP hD hS 0 rfl rfl 0 (by decide) (hts _ fwX0_init_40) (fun _ h9 => h9) rfl hin rfl (by decide +kernel) rfl rfl (Nat.le_of_ble_eq_true rfl) dX0_init_58 (fun H locs hP hD hS => ?_)
  have hP : va_P (dC, dI) vwCl [(h0, .inr (0, [.ref p1, .int 0, .int 0, .int 0, .int 0, .ref a1, .ref a2, .ref a3, .ref a4])), (a1, .inl (cI, 40, .inl (fun _ => 0))), (a2, .inl (cJ, 40, .inr (.inl (fun _ => 0)))), (a3, .inl (cZ, 40, .inl (fun _ => 0))), (a4, .inl (cI, 40, .inl (fun _ => 0)))] H := hP
  have hD : va_D A [(h0, .inr (0, [.ref p1, .int 0, .int 0, .int 0, .int 0, .ref a1, .ref a2, .ref a3, .ref a4])), (a1, .inl (cI, 40, .inl (fun _ => 0))), (a2, .inl (cJ, 40, .inr (.inl (fun _ => 0)))), (a3, .inl (cZ, 40, .inl (fun _ => 0))), (a4, .inl (cI, 40, .inl (fun _ => 0)))] := hD
  exact rt_v () hx hb hr hlk trivial (fun t ht => ⟨a1, a2, a3, a4, by rw [ht]; exact hP, hD⟩) hS dX0_init_61

set_option maxRecDepth 20000 in
theorem owX1_init_a : Cond.methodLink RX1 3 objectInit ∈ wsX1_init := by decide +kernel
set_option maxRecDepth 20000 in
theorem owX1_init_b : Cond.instanceMethod objectInit ∈ wsX1_init := by decide +kernel
set_option maxRecDepth 20000 in
theorem owX1_init_c : Cond.code objectInit ⟨#[0xb1]⟩ 1 none ∈ wsX1_init := by decide +kernel
set_option maxRecDepth 20000 in
theorem fwX1_init_9 : Cond.fieldLink RX1 9 "MaskParts$Painter" "outcome" "I" ∈ wsX1_init := by decide +kernel
set_option maxRecDepth 20000 in
theorem iwX1_init_X1 : ∀ w ∈ wsX10, w ∈ wsX1_init := by decide +kernel
set_option maxRecDepth 20000 in
theorem fwX1_init_15 : Cond.fieldLink RX1 15 "MaskParts$Painter" "taken" "I" ∈ wsX1_init := by decide +kernel
set_option maxRecDepth 20000 in
theorem awX1_init_I : Cond.arrayClass .int ∈ wsX1_init := by decide +kernel
set_option maxRecDepth 20000 in
theorem fwX1_init_18 : Cond.fieldLink RX1 18 "MaskParts$Painter" "hue" "[I" ∈ wsX1_init := by decide +kernel
set_option maxRecDepth 20000 in
theorem fwX1_init_22 : Cond.fieldLink RX1 22 "MaskParts$Painter" "usedUpTo" "[I" ∈ wsX1_init := by decide +kernel
set_option maxRecDepth 20000 in
theorem awX1_init_J : Cond.arrayClass .long ∈ wsX1_init := by decide +kernel
set_option maxRecDepth 20000 in
theorem fwX1_init_25 : Cond.fieldLink RX1 25 "MaskParts$Painter" "painted" "[J" ∈ wsX1_init := by decide +kernel
set_option maxRecDepth 20000 in
theorem fwX1_init_29 : Cond.fieldLink RX1 29 "MaskParts$Painter" "net" "LMaskParts$Net;" ∈ wsX1_init := by decide +kernel
def BX1 (dC : Nat → ClassId) (dI : Nat → Nat → Nat) (cI cJ cZ : ClassId) (h0 : Nat) (p1 : Nat) (A : Nat → Prop) (t : State) : Prop := ∃ a1 a2 a3 : Nat, va_P (dC, dI) vwCl [(h0, .inr (1, [.ref p1, .int (-1), .int 0, .ref a1, .ref a2, .ref a3])), (a1, .inl (cI, 40, .inl (fun _ => 0))), (a2, .inl (cI, 40, .inl (fun _ => 0))), (a3, .inl (cJ, 4, .inr (.inl (fun _ => 0))))] t.heap ∧ va_D A [(h0, .inr (1, [.ref p1, .int (-1), .int 0, .ref a1, .ref a2, .ref a3])), (a1, .inl (cI, 40, .inl (fun _ => 0))), (a2, .inl (cI, 40, .inl (fun _ => 0))), (a3, .inl (cJ, 4, .inr (.inl (fun _ => 0))))]
set_option maxHeartbeats 4000000 in
set_option maxRecDepth 100000 in
theorem kiX1 (l : Launch) (dC : Nat → ClassId) (dI : Nat → Nat → Nat) (cI cJ cZ : ClassId) (sz h0 : Nat) (p1 : Nat) : Met l yX1_init wsX1_init { frames := 1, cells := 3, slots := 84, locals := 24 } (va_Pc [.ref h0, .ref p1] (wc dC dI cI cJ cZ sz [(h0, .inr (1, [.null, .int 0, .int 0, .null, .null, .null]))])) (va_Qv (fun _ : Unit => True) (fun _ t => BX1 dC dI cI cJ cZ h0 p1 (va_A [(h0, .inr (1, [.null, .int 0, .int 0, .null, .null, .null]))] sz) t) (va_A [(h0, .inr (1, [.null, .int 0, .int 0, .null, .null, .null]))] sz)) 3 84 (va_A [(h0, .inr (1, [.null, .int 0, .int 0, .null, .null, .null]))] sz) := by
  refine cmet_of (B := fun A t => BX1 dC dI cI cJ cZ h0 p1 A t) [.ref h0, .ref p1] (by decide +kernel) rfl rfl (Nat.le_of_ble_eq_true rfl) ?_
  intro p e s m below meth c ls A hA C hin hK hN hl hP hD
  obtain ⟨hx, hb, hr, hml, hown, hts, hlk⟩ := id C
  have hl : lv_has ls 2 [(0, .ref h0), (1, .ref p1)] := hl
  refine w_go (Pw := fun H => va_P (dC, dI) vwCl [(h0, .inr (1, [.null, .int 0, .int 0, .null, .null, .null]))] H) (A := A) (fun H locs hP hS => ?_) hP
  refine lv_aload_n hx hb dX1_init_0 rfl (lv_at hl 0 rfl) ?_
  refine W.objInit hx hb hown (hts _ owX1_init_a) (hts _ owX1_init_b) (hts _ owX1_init_c) rfl (by rw [hml]; exact hl.1) rfl dX1_init_1 (Nat.le_of_ble_eq_true rfl) (Nat.le_of_ble_eq_true rfl) ?_
  refine W.eq (g2 := F0 m 4 ls []) rfl ?_
  refine lv_aload_n hx hb dX1_init_4 rfl (lv_at hl 0 rfl) ?_
  refine lv_iconst (v := (-1)) hx hb dX1_init_5 (by decide) ?_
  refine va_put (D := (dC, dI)) (ci := 1) (v := .int (-1)) (ty := .int) (C := RX1) (T := TX1) (N := 6) hx hb hts iwX1_init_X1 tyX1 tyX1_ok nmX1 hown hK hP hD hS 0 rfl rfl 1 (by decide) (hts _ fwX1_init_9) (fun _ h9 => h9) rfl (by decide +kernel) rfl rfl (Nat.le_of_ble_eq_true rfl) dX1_init_6 (fun H locs hP hD hS => ?_)
  have hP : va_P (dC, dI) vwCl [(h0, .inr (1, [.null, .int (-1), .int 0, .null, .null, .null]))] H := hP
  have hD : va_D A [(h0, .inr (1, [.null, .int (-1), .int 0, .null, .null, .null]))] := hD
  refine lv_aload_n hx hb dX1_init_9 rfl (lv_at hl 0 rfl) ?_
  refine lv_iconst (v := 0) hx hb dX1_init_10 (by decide) ?_
  refine va_put (D := (dC, dI)) (ci := 1) (v := .int 0) (ty := .int) (C := RX1) (T := TX1) (N := 6) hx hb hts iwX1_init_X1 tyX1 tyX1_ok nmX1 hown hK hP hD hS 0 rfl rfl 2 (by decide) (hts _ fwX1_init_15) (fun _ h9 => h9) rfl (by decide +kernel) rfl rfl (Nat.le_of_ble_eq_true rfl) dX1_init_11 (fun H locs hP hD hS => ?_)
  have hP : va_P (dC, dI) vwCl [(h0, .inr (1, [.null, .int (-1), .int 0, .null, .null, .null]))] H := hP
  have hD : va_D A [(h0, .inr (1, [.null, .int (-1), .int 0, .null, .null, .null]))] := hD
  refine lv_aload_n hx hb dX1_init_14 rfl (lv_at hl 0 rfl) ?_
  refine lv_bipush (v := 40) hx hb dX1_init_15 (by decide) ?_
  refine va_newa (D := (dC, dI)) (atype := .int) (ty := .int) (N' := 40) (a0 := (40, .inl (fun _ => 0))) hx hb (hts _ awX1_init_I) rfl hK hP hD hS hA (fun _ => rfl) (by decide) (by decide) (by decide) (Nat.le_of_ble_eq_true rfl) (Nat.le_of_ble_eq_true rfl) dX1_init_17 (fun a1 cA H hK1 hP hD hS => ?_)
  have hcA : cI = cA := (arr_I hK hK1).symm
  subst hcA
  refine W.widen (k := 1) (n := 40) (by decide) (by decide) ?_
  have hP : va_P (dC, dI) vwCl [(h0, .inr (1, [.null, .int (-1), .int 0, .null, .null, .null])), (a1, .inl (cI, 40, .inl (fun _ => 0)))] H := hP
  have hD : va_D A [(h0, .inr (1, [.null, .int (-1), .int 0, .null, .null, .null])), (a1, .inl (cI, 40, .inl (fun _ => 0)))] := hD
  refine va_putF (D := (dC, dI)) (ci := 1) (v := .ref a1) (ty := .array .int) (C := RX1) (T := TX1) (N := 6) hx hb hts iwX1_init_X1 tyX1 tyX1_ok nmX1 hown hK hP hD hS 0 rfl rfl 3 (by decide) (hts _ fwX1_init_18) (fun _ h9 => h9) rfl hin rfl (by decide +kernel) rfl rfl (Nat.le_of_ble_eq_true rfl) dX1_init_19 (fun H locs hP hD hS => ?_)
  have hP : va_P (dC, dI) vwCl [(h0, .inr (1, [.null, .int (-1), .int 0, .ref a1, .null, .null])), (a1, .inl (cI, 40, .inl (fun _ => 0)))] H := hP
  have hD : va_D A [(h0, .inr (1, [.null, .int (-1), .int 0, .ref a1, .null, .null])), (a1, .inl (cI, 40, .inl (fun _ => 0)))] := hD
  refine lv_aload_n hx hb dX1_init_22 rfl (lv_at hl 0 rfl) ?_
  refine lv_bipush (v := 40) hx hb dX1_init_23 (by decide) ?_
  refine va_newa (D := (dC, dI)) (atype := .int) (ty := .int) (N' := 40) (a0 := (40, .inl (fun _ => 0))) hx hb (hts _ awX1_init_I) rfl hK hP hD hS hA (fun _ => rfl) (by decide) (by decide) (by decide) (Nat.le_of_ble_eq_true rfl) (Nat.le_of_ble_eq_true rfl) dX1_init_25 (fun a2 cA H hK1 hP hD hS => ?_)
  have hcA : cI = cA := (arr_I hK hK1).symm
  subst hcA
  refine W.widen (k := 2) (n := 80) (by decide) (by decide) ?_
  have hP : va_P (dC, dI) vwCl [(h0, .inr (1, [.null, .int (-1), .int 0, .ref a1, .null, .null])), (a1, .inl (cI, 40, .inl (fun _ => 0))), (a2, .inl (cI, 40, .inl (fun _ => 0)))] H := hP
  have hD : va_D A [(h0, .inr (1, [.null, .int (-1), .int 0, .ref a1, .null, .null])), (a1, .inl (cI, 40, .inl (fun _ => 0))), (a2, .inl (cI, 40, .inl (fun _ => 0)))] := hD
  refine va_putF (D := (dC, dI)) (ci := 1) (v := .ref a2) (ty := .array .int) (C := RX1) (T := TX1) (N := 6) hx hb hts iwX1_init_X1 tyX1 tyX1_ok nmX1 hown hK hP hD hS 0 rfl rfl 4 (by decide) (hts _ fwX1_init_22) (fun _ h9 => h9) rfl hin rfl (by decide +kernel) rfl rfl (Nat.le_of_ble_eq_true rfl) dX1_init_27 (fun H locs hP hD hS => ?_)
  have hP : va_P (dC, dI) vwCl [(h0, .inr (1, [.null, .int (-1), .int 0, .ref a1, .ref a2, .null])), (a1, .inl (cI, 40, .inl (fun _ => 0))), (a2, .inl (cI, 40, .inl (fun _ => 0)))] H := hP
  have hD : va_D A [(h0, .inr (1, [.null, .int (-1), .int 0, .ref a1, .ref a2, .null])), (a1, .inl (cI, 40, .inl (fun _ => 0))), (a2, .inl (cI, 40, .inl (fun _ => 0)))] := hD
  refine lv_aload_n hx hb dX1_init_30 rfl (lv_at hl 0 rfl) ?_
  refine lv_iconst (v := 4) hx hb dX1_init_31 (by decide) ?_
  refine va_newa (D := (dC, dI)) (atype := .long) (ty := .long) (N' := 4) (a0 := (4, .inr (.inl (fun _ => 0)))) hx hb (hts _ awX1_init_J) rfl hK hP hD hS hA (fun _ => rfl) (by decide) (by decide) (by decide) (Nat.le_of_ble_eq_true rfl) (Nat.le_of_ble_eq_true rfl) dX1_init_32 (fun a3 cA H hK1 hP hD hS => ?_)
  have hcA : cJ = cA := (arr_J hK hK1).symm
  subst hcA
  refine W.widen (k := 3) (n := 84) (by decide) (by decide) ?_
  have hP : va_P (dC, dI) vwCl [(h0, .inr (1, [.null, .int (-1), .int 0, .ref a1, .ref a2, .null])), (a1, .inl (cI, 40, .inl (fun _ => 0))), (a2, .inl (cI, 40, .inl (fun _ => 0))), (a3, .inl (cJ, 4, .inr (.inl (fun _ => 0))))] H := hP
  have hD : va_D A [(h0, .inr (1, [.null, .int (-1), .int 0, .ref a1, .ref a2, .null])), (a1, .inl (cI, 40, .inl (fun _ => 0))), (a2, .inl (cI, 40, .inl (fun _ => 0))), (a3, .inl (cJ, 4, .inr (.inl (fun _ => 0))))] := hD
  refine va_putF (D := (dC, dI)) (ci := 1) (v := .ref a3) (ty := .array .long) (C := RX1) (T := TX1) (N := 6) hx hb hts iwX1_init_X1 tyX1 tyX1_ok nmX1 hown hK hP hD hS 0 rfl rfl 5 (by decide) (hts _ fwX1_init_25) (fun _ h9 => h9) rfl hin rfl (by decide +kernel) rfl rfl (Nat.le_of_ble_eq_true rfl) dX1_init_34 (fun H locs hP hD hS => ?_)
  have hP : va_P (dC, dI) vwCl [(h0, .inr (1, [.null, .int (-1), .int 0, .ref a1, .ref a2, .ref a3])), (a1, .inl (cI, 40, .inl (fun _ => 0))), (a2, .inl (cI, 40, .inl (fun _ => 0))), (a3, .inl (cJ, 4, .inr (.inl (fun _ => 0))))] H := hP
  have hD : va_D A [(h0, .inr (1, [.null, .int (-1), .int 0, .ref a1, .ref a2, .ref a3])), (a1, .inl (cI, 40, .inl (fun _ => 0))), (a2, .inl (cI, 40, .inl (fun _ => 0))), (a3, .inl (cJ, 4, .inr (.inl (fun _ => 0))))] := hD
  refine lv_aload_n hx hb dX1_init_37 rfl (lv_at hl 0 rfl) ?_
  refine lv_aload_n hx hb dX1_init_38 rfl (lv_at hl 1 rfl) ?_
  refine va_putF (D := (dC, dI)) (ci := 1) (v := .ref p1) (ty := .object "MaskParts$Net") (C := RX1) (T := TX1) (N := 6) hx hb hts iwX1_init_X1 tyX1 tyX1_ok nmX1 hown hK hP hD hS 0 rfl rfl 0 (by decide) (hts _ fwX1_init_29) (fun _ h9 => h9) rfl hin rfl (by decide +kernel) rfl rfl (Nat.le_of_ble_eq_true rfl) dX1_init_39 (fun H locs hP hD hS => ?_)
  have hP : va_P (dC, dI) vwCl [(h0, .inr (1, [.ref p1, .int (-1), .int 0, .ref a1, .ref a2, .ref a3])), (a1, .inl (cI, 40, .inl (fun _ => 0))), (a2, .inl (cI, 40, .inl (fun _ => 0))), (a3, .inl (cJ, 4, .inr (.inl (fun _ => 0))))] H := hP
  have hD : va_D A [(h0, .inr (1, [.ref p1, .int (-1), .int 0, .ref a1, .ref a2, .ref a3])), (a1, .inl (cI, 40, .inl (fun _ => 0))), (a2, .inl (cI, 40, .inl (fun _ => 0))), (a3, .inl (cJ, 4, .inr (.inl (fun _ => 0))))] := hD
  exact rt_v () hx hb hr hlk trivial (fun t ht => ⟨a1, a2, a3, by rw [ht]; exact hP, hD⟩) hS dX1_init_42

set_option maxRecDepth 20000 in
theorem owX3_init_a : Cond.methodLink RX3 3 objectInit ∈ wsX3_init := by decide +kernel
set_option maxRecDepth 20000 in
theorem owX3_init_b : Cond.instanceMethod objectInit ∈ wsX3_init := by decide +kernel
set_option maxRecDepth 20000 in
theorem owX3_init_c : Cond.code objectInit ⟨#[0xb1]⟩ 1 none ∈ wsX3_init := by decide +kernel
set_option maxRecDepth 20000 in
theorem fwX3_init_9 : Cond.fieldLink RX3 9 "MaskParts$Ring" "fresh" "Z" ∈ wsX3_init := by decide +kernel
set_option maxRecDepth 20000 in
theorem iwX3_init_X3 : ∀ w ∈ wsX30, w ∈ wsX3_init := by decide +kernel
set_option maxRecDepth 20000 in
theorem fwX3_init_15 : Cond.fieldLink RX3 15 "MaskParts$Ring" "length" "I" ∈ wsX3_init := by decide +kernel
set_option maxRecDepth 20000 in
theorem awX3_init_I : Cond.arrayClass .int ∈ wsX3_init := by decide +kernel
set_option maxRecDepth 20000 in
theorem fwX3_init_19 : Cond.fieldLink RX3 19 "MaskParts$Ring" "row" "[I" ∈ wsX3_init := by decide +kernel
set_option maxRecDepth 20000 in
theorem awX3_init_J : Cond.arrayClass .long ∈ wsX3_init := by decide +kernel
set_option maxRecDepth 20000 in
theorem fwX3_init_23 : Cond.fieldLink RX3 23 "MaskParts$Ring" "reached" "[J" ∈ wsX3_init := by decide +kernel
set_option maxRecDepth 20000 in
theorem fwX3_init_27 : Cond.fieldLink RX3 27 "MaskParts$Ring" "net" "LMaskParts$Net;" ∈ wsX3_init := by decide +kernel
def BX3 (dC : Nat → ClassId) (dI : Nat → Nat → Nat) (cI cJ cZ : ClassId) (h0 : Nat) (p1 : Nat) (A : Nat → Prop) (t : State) : Prop := ∃ a1 a2 : Nat, va_P (dC, dI) vwCl [(h0, .inr (3, [.ref p1, .int 0, .int 0, .ref a1, .ref a2])), (a1, .inl (cI, 40, .inl (fun _ => 0))), (a2, .inl (cJ, 81, .inr (.inl (fun _ => 0))))] t.heap ∧ va_D A [(h0, .inr (3, [.ref p1, .int 0, .int 0, .ref a1, .ref a2])), (a1, .inl (cI, 40, .inl (fun _ => 0))), (a2, .inl (cJ, 81, .inr (.inl (fun _ => 0))))]
set_option maxHeartbeats 4000000 in
set_option maxRecDepth 100000 in
theorem kiX3 (l : Launch) (dC : Nat → ClassId) (dI : Nat → Nat → Nat) (cI cJ cZ : ClassId) (sz h0 : Nat) (p1 : Nat) : Met l yX3_init wsX3_init { frames := 1, cells := 2, slots := 121, locals := 24 } (va_Pc [.ref h0, .ref p1] (wc dC dI cI cJ cZ sz [(h0, .inr (3, [.null, .int 0, .int 0, .null, .null]))])) (va_Qv (fun _ : Unit => True) (fun _ t => BX3 dC dI cI cJ cZ h0 p1 (va_A [(h0, .inr (3, [.null, .int 0, .int 0, .null, .null]))] sz) t) (va_A [(h0, .inr (3, [.null, .int 0, .int 0, .null, .null]))] sz)) 2 121 (va_A [(h0, .inr (3, [.null, .int 0, .int 0, .null, .null]))] sz) := by
  refine cmet_of (B := fun A t => BX3 dC dI cI cJ cZ h0 p1 A t) [.ref h0, .ref p1] (by decide +kernel) rfl rfl (Nat.le_of_ble_eq_true rfl) ?_
  intro p e s m below meth c ls A hA C hin hK hN hl hP hD
  obtain ⟨hx, hb, hr, hml, hown, hts, hlk⟩ := id C
  have hl : lv_has ls 2 [(0, .ref h0), (1, .ref p1)] := hl
  refine w_go (Pw := fun H => va_P (dC, dI) vwCl [(h0, .inr (3, [.null, .int 0, .int 0, .null, .null]))] H) (A := A) (fun H locs hP hS => ?_) hP
  refine lv_aload_n hx hb dX3_init_0 rfl (lv_at hl 0 rfl) ?_
  refine W.objInit hx hb hown (hts _ owX3_init_a) (hts _ owX3_init_b) (hts _ owX3_init_c) rfl (by rw [hml]; exact hl.1) rfl dX3_init_1 (Nat.le_of_ble_eq_true rfl) (Nat.le_of_ble_eq_true rfl) ?_
  refine W.eq (g2 := F0 m 4 ls []) rfl ?_
  refine lv_aload_n hx hb dX3_init_4 rfl (lv_at hl 0 rfl) ?_
  refine lv_iconst (v := 0) hx hb dX3_init_5 (by decide) ?_
  refine va_put (D := (dC, dI)) (ci := 3) (v := .int 0) (ty := .boolean) (C := RX3) (T := TX3) (N := 5) hx hb hts iwX3_init_X3 tyX3 tyX3_ok nmX3 hown hK hP hD hS 0 rfl rfl 1 (by decide) (hts _ fwX3_init_9) (fun _ h9 => h9) rfl (by decide +kernel) rfl rfl (Nat.le_of_ble_eq_true rfl) dX3_init_6 (fun H locs hP hD hS => ?_)
  have hP : va_P (dC, dI) vwCl [(h0, .inr (3, [.null, .int 0, .int 0, .null, .null]))] H := hP
  have hD : va_D A [(h0, .inr (3, [.null, .int 0, .int 0, .null, .null]))] := hD
  refine lv_aload_n hx hb dX3_init_9 rfl (lv_at hl 0 rfl) ?_
  refine lv_iconst (v := 0) hx hb dX3_init_10 (by decide) ?_
  refine va_put (D := (dC, dI)) (ci := 3) (v := .int 0) (ty := .int) (C := RX3) (T := TX3) (N := 5) hx hb hts iwX3_init_X3 tyX3 tyX3_ok nmX3 hown hK hP hD hS 0 rfl rfl 2 (by decide) (hts _ fwX3_init_15) (fun _ h9 => h9) rfl (by decide +kernel) rfl rfl (Nat.le_of_ble_eq_true rfl) dX3_init_11 (fun H locs hP hD hS => ?_)
  have hP : va_P (dC, dI) vwCl [(h0, .inr (3, [.null, .int 0, .int 0, .null, .null]))] H := hP
  have hD : va_D A [(h0, .inr (3, [.null, .int 0, .int 0, .null, .null]))] := hD
  refine lv_aload_n hx hb dX3_init_14 rfl (lv_at hl 0 rfl) ?_
  refine lv_bipush (v := 40) hx hb dX3_init_15 (by decide) ?_
  refine va_newa (D := (dC, dI)) (atype := .int) (ty := .int) (N' := 40) (a0 := (40, .inl (fun _ => 0))) hx hb (hts _ awX3_init_I) rfl hK hP hD hS hA (fun _ => rfl) (by decide) (by decide) (by decide) (Nat.le_of_ble_eq_true rfl) (Nat.le_of_ble_eq_true rfl) dX3_init_17 (fun a1 cA H hK1 hP hD hS => ?_)
  have hcA : cI = cA := (arr_I hK hK1).symm
  subst hcA
  refine W.widen (k := 1) (n := 40) (by decide) (by decide) ?_
  have hP : va_P (dC, dI) vwCl [(h0, .inr (3, [.null, .int 0, .int 0, .null, .null])), (a1, .inl (cI, 40, .inl (fun _ => 0)))] H := hP
  have hD : va_D A [(h0, .inr (3, [.null, .int 0, .int 0, .null, .null])), (a1, .inl (cI, 40, .inl (fun _ => 0)))] := hD
  refine va_putF (D := (dC, dI)) (ci := 3) (v := .ref a1) (ty := .array .int) (C := RX3) (T := TX3) (N := 5) hx hb hts iwX3_init_X3 tyX3 tyX3_ok nmX3 hown hK hP hD hS 0 rfl rfl 3 (by decide) (hts _ fwX3_init_19) (fun _ h9 => h9) rfl hin rfl (by decide +kernel) rfl rfl (Nat.le_of_ble_eq_true rfl) dX3_init_19 (fun H locs hP hD hS => ?_)
  have hP : va_P (dC, dI) vwCl [(h0, .inr (3, [.null, .int 0, .int 0, .ref a1, .null])), (a1, .inl (cI, 40, .inl (fun _ => 0)))] H := hP
  have hD : va_D A [(h0, .inr (3, [.null, .int 0, .int 0, .ref a1, .null])), (a1, .inl (cI, 40, .inl (fun _ => 0)))] := hD
  refine lv_aload_n hx hb dX3_init_22 rfl (lv_at hl 0 rfl) ?_
  refine lv_bipush (v := 81) hx hb dX3_init_23 (by decide) ?_
  refine va_newa (D := (dC, dI)) (atype := .long) (ty := .long) (N' := 81) (a0 := (81, .inr (.inl (fun _ => 0)))) hx hb (hts _ awX3_init_J) rfl hK hP hD hS hA (fun _ => rfl) (by decide) (by decide) (by decide) (Nat.le_of_ble_eq_true rfl) (Nat.le_of_ble_eq_true rfl) dX3_init_25 (fun a2 cA H hK1 hP hD hS => ?_)
  have hcA : cJ = cA := (arr_J hK hK1).symm
  subst hcA
  refine W.widen (k := 2) (n := 121) (by decide) (by decide) ?_
  have hP : va_P (dC, dI) vwCl [(h0, .inr (3, [.null, .int 0, .int 0, .ref a1, .null])), (a1, .inl (cI, 40, .inl (fun _ => 0))), (a2, .inl (cJ, 81, .inr (.inl (fun _ => 0))))] H := hP
  have hD : va_D A [(h0, .inr (3, [.null, .int 0, .int 0, .ref a1, .null])), (a1, .inl (cI, 40, .inl (fun _ => 0))), (a2, .inl (cJ, 81, .inr (.inl (fun _ => 0))))] := hD
  refine va_putF (D := (dC, dI)) (ci := 3) (v := .ref a2) (ty := .array .long) (C := RX3) (T := TX3) (N := 5) hx hb hts iwX3_init_X3 tyX3 tyX3_ok nmX3 hown hK hP hD hS 0 rfl rfl 4 (by decide) (hts _ fwX3_init_23) (fun _ h9 => h9) rfl hin rfl (by decide +kernel) rfl rfl (Nat.le_of_ble_eq_true rfl) dX3_init_27 (fun H locs hP hD hS => ?_)
  have hP : va_P (dC, dI) vwCl [(h0, .inr (3, [.null, .int 0, .int 0, .ref a1, .ref a2])), (a1, .inl (cI, 40, .inl (fun _ => 0))), (a2, .inl (cJ, 81, .inr (.inl (fun _ => 0))))] H := hP
  have hD : va_D A [(h0, .inr (3, [.null, .int 0, .int 0, .ref a1, .ref a2])), (a1, .inl (cI, 40, .inl (fun _ => 0))), (a2, .inl (cJ, 81, .inr (.inl (fun _ => 0))))] := hD
  refine lv_aload_n hx hb dX3_init_30 rfl (lv_at hl 0 rfl) ?_
  refine lv_aload_n hx hb dX3_init_31 rfl (lv_at hl 1 rfl) ?_
  refine va_putF (D := (dC, dI)) (ci := 3) (v := .ref p1) (ty := .object "MaskParts$Net") (C := RX3) (T := TX3) (N := 5) hx hb hts iwX3_init_X3 tyX3 tyX3_ok nmX3 hown hK hP hD hS 0 rfl rfl 0 (by decide) (hts _ fwX3_init_27) (fun _ h9 => h9) rfl hin rfl (by decide +kernel) rfl rfl (Nat.le_of_ble_eq_true rfl) dX3_init_32 (fun H locs hP hD hS => ?_)
  have hP : va_P (dC, dI) vwCl [(h0, .inr (3, [.ref p1, .int 0, .int 0, .ref a1, .ref a2])), (a1, .inl (cI, 40, .inl (fun _ => 0))), (a2, .inl (cJ, 81, .inr (.inl (fun _ => 0))))] H := hP
  have hD : va_D A [(h0, .inr (3, [.ref p1, .int 0, .int 0, .ref a1, .ref a2])), (a1, .inl (cI, 40, .inl (fun _ => 0))), (a2, .inl (cJ, 81, .inr (.inl (fun _ => 0))))] := hD
  exact rt_v () hx hb hr hlk trivial (fun t ht => ⟨a1, a2, by rw [ht]; exact hP, hD⟩) hS dX3_init_35

set_option maxRecDepth 20000 in
theorem owX4_init_a : Cond.methodLink RX4 3 objectInit ∈ wsX4_init := by decide +kernel
set_option maxRecDepth 20000 in
theorem owX4_init_b : Cond.instanceMethod objectInit ∈ wsX4_init := by decide +kernel
set_option maxRecDepth 20000 in
theorem owX4_init_c : Cond.code objectInit ⟨#[0xb1]⟩ 1 none ∈ wsX4_init := by decide +kernel
set_option maxRecDepth 20000 in
theorem kwX4_init_9 : Cond.classLink RX4 9 RX2 ∈ wsX4_init := by decide +kernel
set_option maxRecDepth 20000 in
theorem jwX4_init_9 : Cond.instantiable RX2 9 ∈ wsX4_init := by decide +kernel
set_option maxRecDepth 20000 in
theorem lwX4_init_9 : Cond.initialized RX2 ∈ wsX4_init := by decide +kernel
set_option maxRecDepth 20000 in
theorem iwX4_init_X2 : ∀ w ∈ wsX20, w ∈ wsX4_init := by decide +kernel
set_option maxRecDepth 20000 in
theorem ciX4_init_X2 : Cond.initialized RX2 ∈ wsX4_init := by decide +kernel
set_option maxRecDepth 20000 in
theorem cmX4_init_X2 : Cond.methodLink RX4 11 yX2_init ∈ wsX4_init := by decide +kernel
set_option maxRecDepth 20000 in
theorem cnX4_init_X2 : Cond.instanceMethod yX2_init ∈ wsX4_init := by decide +kernel
set_option maxRecDepth 20000 in
theorem fwX4_init_12 : Cond.fieldLink RX4 12 "MaskParts" "plan" "LMaskParts$Plan;" ∈ wsX4_init := by decide +kernel
set_option maxRecDepth 20000 in
theorem iwX4_init_X4 : ∀ w ∈ wsX40, w ∈ wsX4_init := by decide +kernel
set_option maxRecDepth 20000 in
theorem kwX4_init_16 : Cond.classLink RX4 16 RX0 ∈ wsX4_init := by decide +kernel
set_option maxRecDepth 20000 in
theorem jwX4_init_16 : Cond.instantiable RX0 9 ∈ wsX4_init := by decide +kernel
set_option maxRecDepth 20000 in
theorem lwX4_init_16 : Cond.initialized RX0 ∈ wsX4_init := by decide +kernel
set_option maxRecDepth 20000 in
theorem iwX4_init_X0 : ∀ w ∈ wsX00, w ∈ wsX4_init := by decide +kernel
set_option maxRecDepth 20000 in
theorem ciX4_init_X0 : Cond.initialized RX0 ∈ wsX4_init := by decide +kernel
set_option maxRecDepth 20000 in
theorem cmX4_init_X0 : Cond.methodLink RX4 18 yX0_init ∈ wsX4_init := by decide +kernel
set_option maxRecDepth 20000 in
theorem cnX4_init_X0 : Cond.instanceMethod yX0_init ∈ wsX4_init := by decide +kernel
set_option maxRecDepth 20000 in
theorem fwX4_init_21 : Cond.fieldLink RX4 21 "MaskParts" "net" "LMaskParts$Net;" ∈ wsX4_init := by decide +kernel
set_option maxRecDepth 20000 in
theorem kwX4_init_25 : Cond.classLink RX4 25 RX1 ∈ wsX4_init := by decide +kernel
set_option maxRecDepth 20000 in
theorem jwX4_init_25 : Cond.instantiable RX1 6 ∈ wsX4_init := by decide +kernel
set_option maxRecDepth 20000 in
theorem lwX4_init_25 : Cond.initialized RX1 ∈ wsX4_init := by decide +kernel
set_option maxRecDepth 20000 in
theorem iwX4_init_X1 : ∀ w ∈ wsX10, w ∈ wsX4_init := by decide +kernel
set_option maxRecDepth 20000 in
theorem ciX4_init_X1 : Cond.initialized RX1 ∈ wsX4_init := by decide +kernel
set_option maxRecDepth 20000 in
theorem cmX4_init_X1 : Cond.methodLink RX4 27 yX1_init ∈ wsX4_init := by decide +kernel
set_option maxRecDepth 20000 in
theorem cnX4_init_X1 : Cond.instanceMethod yX1_init ∈ wsX4_init := by decide +kernel
set_option maxRecDepth 20000 in
theorem fwX4_init_30 : Cond.fieldLink RX4 30 "MaskParts" "painter" "LMaskParts$Painter;" ∈ wsX4_init := by decide +kernel
set_option maxRecDepth 20000 in
theorem kwX4_init_34 : Cond.classLink RX4 34 RX3 ∈ wsX4_init := by decide +kernel
set_option maxRecDepth 20000 in
theorem jwX4_init_34 : Cond.instantiable RX3 5 ∈ wsX4_init := by decide +kernel
set_option maxRecDepth 20000 in
theorem lwX4_init_34 : Cond.initialized RX3 ∈ wsX4_init := by decide +kernel
set_option maxRecDepth 20000 in
theorem iwX4_init_X3 : ∀ w ∈ wsX30, w ∈ wsX4_init := by decide +kernel
set_option maxRecDepth 20000 in
theorem ciX4_init_X3 : Cond.initialized RX3 ∈ wsX4_init := by decide +kernel
set_option maxRecDepth 20000 in
theorem cmX4_init_X3 : Cond.methodLink RX4 36 yX3_init ∈ wsX4_init := by decide +kernel
set_option maxRecDepth 20000 in
theorem cnX4_init_X3 : Cond.instanceMethod yX3_init ∈ wsX4_init := by decide +kernel
set_option maxRecDepth 20000 in
theorem fwX4_init_37 : Cond.fieldLink RX4 37 "MaskParts" "oddRing" "LMaskParts$Ring;" ∈ wsX4_init := by decide +kernel
def BX4 (dC : Nat → ClassId) (dI : Nat → Nat → Nat) (cI cJ cZ : ClassId) (h0 : Nat) (A : Nat → Prop) (t : State) : Prop := ∃ a1 a2 a3 a4 a5 a6 a7 a8 a10 a11 a12 a13 a14 a15 a16 a17 a18 a19 a20 a21 : Nat, ∃ z9 : Nat → Int32, (∀ j, j < 40 → z9 j = (-1)) ∧ va_P (dC, dI) vwCl [(h0, .inr (4, [.ref a1, .ref a10, .ref a15, .ref a19])), (a1, .inr (2, [.int 10, .int 0, .ref a2, .ref a3, .ref a4, .ref a5, .ref a6, .ref a7, .ref a8])), (a2, .inl (cI, 10, .inl (fun _ => 0))), (a3, .inl (cI, 40, .inl (fun _ => 0))), (a4, .inl (cI, 40, .inl (fun _ => 0))), (a5, .inl (cI, 40, .inl (fun _ => 0))), (a6, .inl (cI, 40, .inl (fun _ => 0))), (a7, .inl (cZ, 40, .inl (fun _ => 0))), (a8, .inl (cI, 40, .inl z9)), (a10, .inr (0, [.ref a1, .int 0, .int 0, .int 0, .int 0, .ref a11, .ref a12, .ref a13, .ref a14])), (a11, .inl (cI, 40, .inl (fun _ => 0))), (a12, .inl (cJ, 40, .inr (.inl (fun _ => 0)))), (a13, .inl (cZ, 40, .inl (fun _ => 0))), (a14, .inl (cI, 40, .inl (fun _ => 0))), (a15, .inr (1, [.ref a10, .int (-1), .int 0, .ref a16, .ref a17, .ref a18])), (a16, .inl (cI, 40, .inl (fun _ => 0))), (a17, .inl (cI, 40, .inl (fun _ => 0))), (a18, .inl (cJ, 4, .inr (.inl (fun _ => 0)))), (a19, .inr (3, [.ref a10, .int 0, .int 0, .ref a20, .ref a21])), (a20, .inl (cI, 40, .inl (fun _ => 0))), (a21, .inl (cJ, 81, .inr (.inl (fun _ => 0))))] t.heap ∧ va_D A [(h0, .inr (4, [.ref a1, .ref a10, .ref a15, .ref a19])), (a1, .inr (2, [.int 10, .int 0, .ref a2, .ref a3, .ref a4, .ref a5, .ref a6, .ref a7, .ref a8])), (a2, .inl (cI, 10, .inl (fun _ => 0))), (a3, .inl (cI, 40, .inl (fun _ => 0))), (a4, .inl (cI, 40, .inl (fun _ => 0))), (a5, .inl (cI, 40, .inl (fun _ => 0))), (a6, .inl (cI, 40, .inl (fun _ => 0))), (a7, .inl (cZ, 40, .inl (fun _ => 0))), (a8, .inl (cI, 40, .inl z9)), (a10, .inr (0, [.ref a1, .int 0, .int 0, .int 0, .int 0, .ref a11, .ref a12, .ref a13, .ref a14])), (a11, .inl (cI, 40, .inl (fun _ => 0))), (a12, .inl (cJ, 40, .inr (.inl (fun _ => 0)))), (a13, .inl (cZ, 40, .inl (fun _ => 0))), (a14, .inl (cI, 40, .inl (fun _ => 0))), (a15, .inr (1, [.ref a10, .int (-1), .int 0, .ref a16, .ref a17, .ref a18])), (a16, .inl (cI, 40, .inl (fun _ => 0))), (a17, .inl (cI, 40, .inl (fun _ => 0))), (a18, .inl (cJ, 4, .inr (.inl (fun _ => 0)))), (a19, .inr (3, [.ref a10, .int 0, .int 0, .ref a20, .ref a21])), (a20, .inl (cI, 40, .inl (fun _ => 0))), (a21, .inl (cJ, 81, .inr (.inl (fun _ => 0))))]
set_option maxHeartbeats 4000000 in
set_option maxRecDepth 100000 in
theorem kiX4 (l : Launch) (dC : Nat → ClassId) (dI : Nat → Nat → Nat) (cI cJ cZ : ClassId) (sz h0 : Nat) : Met l yX4_init wsX4_init { frames := 2, cells := 20, slots := 644, locals := 45 } (va_Pc [.ref h0] (wc dC dI cI cJ cZ sz [(h0, .inr (4, [.null, .null, .null, .null]))])) (va_Qv (fun _ : Unit => True) (fun _ t => BX4 dC dI cI cJ cZ h0 (va_A [(h0, .inr (4, [.null, .null, .null, .null]))] sz) t) (va_A [(h0, .inr (4, [.null, .null, .null, .null]))] sz)) 20 644 (va_A [(h0, .inr (4, [.null, .null, .null, .null]))] sz) := by
  refine cmet_of (B := fun A t => BX4 dC dI cI cJ cZ h0 A t) [.ref h0] (by decide +kernel) rfl rfl (Nat.le_of_ble_eq_true rfl) ?_
  intro p e s m below meth c ls A hA C hin hK hN hl hP hD
  obtain ⟨hx, hb, hr, hml, hown, hts, hlk⟩ := id C
  have hl : lv_has ls 1 [(0, .ref h0)] := hl
  refine w_go (Pw := fun H => va_P (dC, dI) vwCl [(h0, .inr (4, [.null, .null, .null, .null]))] H) (A := A) (fun H locs hP hS => ?_) hP
  refine lv_aload_n hx hb dX4_init_0 rfl (lv_at hl 0 rfl) ?_
  refine W.objInit hx hb hown (hts _ owX4_init_a) (hts _ owX4_init_b) (hts _ owX4_init_c) rfl (by rw [hml]; exact hl.1) rfl dX4_init_1 (Nat.le_of_ble_eq_true rfl) (Nat.le_of_ble_eq_true rfl) ?_
  refine W.eq (g2 := F0 m 4 ls []) rfl ?_
  refine lv_aload_n hx hb dX4_init_4 rfl (lv_at hl 0 rfl) ?_
  refine va_new (D := (dC, dI)) (ci := 2) (fs := [.int 0, .int 0, .null, .null, .null, .null, .null, .null, .null]) (C := RX2) (T := TX2) (N := 9) hx hb hts iwX4_init_X2 tyX2 tyX2_ok hown (hts _ kwX4_init_9) (hts _ jwX4_init_9) (hts _ lwX4_init_9) hK hP hD hS hA rfl (fun j hj => by match j, hj with | 0, _ => rfl | 1, _ => rfl | 2, _ => rfl | 3, _ => rfl | 4, _ => rfl | 5, _ => rfl | 6, _ => rfl | 7, _ => rfl | 8, _ => rfl | n + 9, h => exact absurd h (by omega)) (Nat.le_of_ble_eq_true rfl) (Nat.le_of_ble_eq_true rfl) dX4_init_5 (fun a1 H hP hD hS => ?_)
  refine W.widen (k := 1) (n := 9) (by decide) (by decide) ?_
  have hP : va_P (dC, dI) vwCl [(h0, .inr (4, [.null, .null, .null, .null])), (a1, .inr (2, [.int 0, .int 0, .null, .null, .null, .null, .null, .null, .null]))] H := hP
  have hD : va_D A [(h0, .inr (4, [.null, .null, .null, .null])), (a1, .inr (2, [.int 0, .int 0, .null, .null, .null, .null, .null, .null, .null]))] := hD
  refine lv_dup hx hb dX4_init_8 rfl ?_
  have hPc := hP.sub (ws' := [(a1, .inr (2, [.int 0, .int 0, .null, .null, .null, .null, .null, .null, .null]))]) [1] rfl
  have hDc := hD.sub (ws' := [(a1, .inr (2, [.int 0, .int 0, .null, .null, .null, .null, .null, .null, .null]))]) [1] (by decide) rfl
  have hFc := va_free (wc := [(a1, .inr (2, [.int 0, .int 0, .null, .null, .null, .null, .null, .null, .null]))]) hD hS hA [1] rfl
  refine va_callv (va_runI (As := []) (rest := [.ref a1, .ref h0]) ⟨hx, hb, hml, hown, hts⟩ (kiX2 l dC dI cI cJ cZ H.size a1) (cwI 0 hts gX4_init_X2_init rfl rfl rfl (hts _ ciX4_init_X2) (hts _ cmX4_init_X2) (hts _ cnX4_init_X2) rfl (by decide +kernel) ⟨Nat.le_of_ble_eq_true rfl, Nat.le_of_ble_eq_true rfl⟩) ⟨wc.blind, fun U hU hW => ⟨rfl, wc.at hPc hK hDc hN hU hW⟩⟩ rfl rfl hl.1 rfl (lv_room (Nat.le_of_ble_eq_true rfl)) dX4_init_9 ⟨Nat.le_of_ble_eq_true rfl, Nat.le_of_ble_eq_true rfl⟩) hS (fun q _ h => hFc q h) hFc (fun u t H1 locs ht hvm hw hB hz1 hk1 hS => ?_)
  obtain ⟨a2, a3, a4, a5, a6, a7, a8, z9, ez9, hP1, hD1⟩ := hB
  rw [ht] at hP1
  obtain ⟨hP, hD⟩ := va_join (wr := [(h0, .inr (4, [.null, .null, .null, .null]))]) (w1 := [(a1, .inr (2, [.int 10, .int 0, .ref a2, .ref a3, .ref a4, .ref a5, .ref a6, .ref a7, .ref a8])), (a2, .inl (cI, 10, .inl (fun _ => 0))), (a3, .inl (cI, 40, .inl (fun _ => 0))), (a4, .inl (cI, 40, .inl (fun _ => 0))), (a5, .inl (cI, 40, .inl (fun _ => 0))), (a6, .inl (cI, 40, .inl (fun _ => 0))), (a7, .inl (cZ, 40, .inl (fun _ => 0))), (a8, .inl (cI, 40, .inl z9))]) hP hD [1] [0] rfl rfl (by decide) (by decide) hk1 hFc hP1 hD1
  generalize H1 = H at hP hS ⊢
  refine W.widen (k := 8) (n := 259) (by decide) (by decide) ?_
  have hP : va_P (dC, dI) vwCl [(h0, .inr (4, [.null, .null, .null, .null])), (a1, .inr (2, [.int 10, .int 0, .ref a2, .ref a3, .ref a4, .ref a5, .ref a6, .ref a7, .ref a8])), (a2, .inl (cI, 10, .inl (fun _ => 0))), (a3, .inl (cI, 40, .inl (fun _ => 0))), (a4, .inl (cI, 40, .inl (fun _ => 0))), (a5, .inl (cI, 40, .inl (fun _ => 0))), (a6, .inl (cI, 40, .inl (fun _ => 0))), (a7, .inl (cZ, 40, .inl (fun _ => 0))), (a8, .inl (cI, 40, .inl z9))] H := hP
  have hD : va_D A [(h0, .inr (4, [.null, .null, .null, .null])), (a1, .inr (2, [.int 10, .int 0, .ref a2, .ref a3, .ref a4, .ref a5, .ref a6, .ref a7, .ref a8])), (a2, .inl (cI, 10, .inl (fun _ => 0))), (a3, .inl (cI, 40, .inl (fun _ => 0))), (a4, .inl (cI, 40, .inl (fun _ => 0))), (a5, .inl (cI, 40, .inl (fun _ => 0))), (a6, .inl (cI, 40, .inl (fun _ => 0))), (a7, .inl (cZ, 40, .inl (fun _ => 0))), (a8, .inl (cI, 40, .inl z9))] := hD
  refine va_putF (D := (dC, dI)) (ci := 4) (v := .ref a1) (ty := .object "MaskParts$Plan") (C := RX4) (T := TX4) (N := 4) hx hb hts iwX4_init_X4 tyX4 tyX4_ok nmX4 hown hK hP hD hS 0 rfl rfl 0 (by decide) (hts _ fwX4_init_12) (fun _ h9 => h9) rfl hin rfl (by decide +kernel) rfl rfl (Nat.le_of_ble_eq_true rfl) dX4_init_12 (fun H locs hP hD hS => ?_)
  have hP : va_P (dC, dI) vwCl [(h0, .inr (4, [.ref a1, .null, .null, .null])), (a1, .inr (2, [.int 10, .int 0, .ref a2, .ref a3, .ref a4, .ref a5, .ref a6, .ref a7, .ref a8])), (a2, .inl (cI, 10, .inl (fun _ => 0))), (a3, .inl (cI, 40, .inl (fun _ => 0))), (a4, .inl (cI, 40, .inl (fun _ => 0))), (a5, .inl (cI, 40, .inl (fun _ => 0))), (a6, .inl (cI, 40, .inl (fun _ => 0))), (a7, .inl (cZ, 40, .inl (fun _ => 0))), (a8, .inl (cI, 40, .inl z9))] H := hP
  have hD : va_D A [(h0, .inr (4, [.ref a1, .null, .null, .null])), (a1, .inr (2, [.int 10, .int 0, .ref a2, .ref a3, .ref a4, .ref a5, .ref a6, .ref a7, .ref a8])), (a2, .inl (cI, 10, .inl (fun _ => 0))), (a3, .inl (cI, 40, .inl (fun _ => 0))), (a4, .inl (cI, 40, .inl (fun _ => 0))), (a5, .inl (cI, 40, .inl (fun _ => 0))), (a6, .inl (cI, 40, .inl (fun _ => 0))), (a7, .inl (cZ, 40, .inl (fun _ => 0))), (a8, .inl (cI, 40, .inl z9))] := hD
  refine lv_aload_n hx hb dX4_init_15 rfl (lv_at hl 0 rfl) ?_
  refine va_new (D := (dC, dI)) (ci := 0) (fs := [.null, .int 0, .int 0, .int 0, .int 0, .null, .null, .null, .null]) (C := RX0) (T := TX0) (N := 9) hx hb hts iwX4_init_X0 tyX0 tyX0_ok hown (hts _ kwX4_init_16) (hts _ jwX4_init_16) (hts _ lwX4_init_16) hK hP hD hS hA rfl (fun j hj => by match j, hj with | 0, _ => rfl | 1, _ => rfl | 2, _ => rfl | 3, _ => rfl | 4, _ => rfl | 5, _ => rfl | 6, _ => rfl | 7, _ => rfl | 8, _ => rfl | n + 9, h => exact absurd h (by omega)) (Nat.le_of_ble_eq_true rfl) (Nat.le_of_ble_eq_true rfl) dX4_init_16 (fun a10 H hP hD hS => ?_)
  refine W.widen (k := 9) (n := 268) (by decide) (by decide) ?_
  have hP : va_P (dC, dI) vwCl [(h0, .inr (4, [.ref a1, .null, .null, .null])), (a1, .inr (2, [.int 10, .int 0, .ref a2, .ref a3, .ref a4, .ref a5, .ref a6, .ref a7, .ref a8])), (a2, .inl (cI, 10, .inl (fun _ => 0))), (a3, .inl (cI, 40, .inl (fun _ => 0))), (a4, .inl (cI, 40, .inl (fun _ => 0))), (a5, .inl (cI, 40, .inl (fun _ => 0))), (a6, .inl (cI, 40, .inl (fun _ => 0))), (a7, .inl (cZ, 40, .inl (fun _ => 0))), (a8, .inl (cI, 40, .inl z9)), (a10, .inr (0, [.null, .int 0, .int 0, .int 0, .int 0, .null, .null, .null, .null]))] H := hP
  have hD : va_D A [(h0, .inr (4, [.ref a1, .null, .null, .null])), (a1, .inr (2, [.int 10, .int 0, .ref a2, .ref a3, .ref a4, .ref a5, .ref a6, .ref a7, .ref a8])), (a2, .inl (cI, 10, .inl (fun _ => 0))), (a3, .inl (cI, 40, .inl (fun _ => 0))), (a4, .inl (cI, 40, .inl (fun _ => 0))), (a5, .inl (cI, 40, .inl (fun _ => 0))), (a6, .inl (cI, 40, .inl (fun _ => 0))), (a7, .inl (cZ, 40, .inl (fun _ => 0))), (a8, .inl (cI, 40, .inl z9)), (a10, .inr (0, [.null, .int 0, .int 0, .int 0, .int 0, .null, .null, .null, .null]))] := hD
  refine lv_dup hx hb dX4_init_19 rfl ?_
  refine lv_aload_n hx hb dX4_init_20 rfl (lv_at hl 0 rfl) ?_
  refine va_get (D := (dC, dI)) (ci := 4) (v := .ref a1) (C := RX4) (T := TX4) (N := 4) hx hb hts iwX4_init_X4 hown hK hP 0 rfl rfl 0 (by decide) (hts _ fwX4_init_12) (fun _ h9 => h9) rfl dX4_init_21 ?_
  have hPc := hP.sub (ws' := [(a10, .inr (0, [.null, .int 0, .int 0, .int 0, .int 0, .null, .null, .null, .null]))]) [9] rfl
  have hDc := hD.sub (ws' := [(a10, .inr (0, [.null, .int 0, .int 0, .int 0, .int 0, .null, .null, .null, .null]))]) [9] (by decide) rfl
  have hFc := va_free (wc := [(a10, .inr (0, [.null, .int 0, .int 0, .int 0, .int 0, .null, .null, .null, .null]))]) hD hS hA [9] rfl
  refine va_callv (va_runI (As := [.ref a1]) (rest := [.ref a10, .ref h0]) ⟨hx, hb, hml, hown, hts⟩ (kiX0 l dC dI cI cJ cZ H.size a10 a1) (cwI 1 hts gX4_init_X0_init rfl rfl rfl (hts _ ciX4_init_X0) (hts _ cmX4_init_X0) (hts _ cnX4_init_X0) rfl (by decide +kernel) ⟨Nat.le_of_ble_eq_true rfl, Nat.le_of_ble_eq_true rfl⟩) ⟨wc.blind, fun U hU hW => ⟨rfl, wc.at hPc hK hDc hN hU hW⟩⟩ rfl rfl hl.1 rfl (lv_room (Nat.le_of_ble_eq_true rfl)) dX4_init_24 ⟨Nat.le_of_ble_eq_true rfl, Nat.le_of_ble_eq_true rfl⟩) hS (fun q _ h => hFc q h) hFc (fun u t H1 locs ht hvm hw hB hz1 hk1 hS => ?_)
  obtain ⟨a11, a12, a13, a14, hP1, hD1⟩ := hB
  rw [ht] at hP1
  obtain ⟨hP, hD⟩ := va_join (wr := [(h0, .inr (4, [.ref a1, .null, .null, .null])), (a1, .inr (2, [.int 10, .int 0, .ref a2, .ref a3, .ref a4, .ref a5, .ref a6, .ref a7, .ref a8])), (a2, .inl (cI, 10, .inl (fun _ => 0))), (a3, .inl (cI, 40, .inl (fun _ => 0))), (a4, .inl (cI, 40, .inl (fun _ => 0))), (a5, .inl (cI, 40, .inl (fun _ => 0))), (a6, .inl (cI, 40, .inl (fun _ => 0))), (a7, .inl (cZ, 40, .inl (fun _ => 0))), (a8, .inl (cI, 40, .inl z9))]) (w1 := [(a10, .inr (0, [.ref a1, .int 0, .int 0, .int 0, .int 0, .ref a11, .ref a12, .ref a13, .ref a14])), (a11, .inl (cI, 40, .inl (fun _ => 0))), (a12, .inl (cJ, 40, .inr (.inl (fun _ => 0)))), (a13, .inl (cZ, 40, .inl (fun _ => 0))), (a14, .inl (cI, 40, .inl (fun _ => 0)))]) hP hD [9] [0, 1, 2, 3, 4, 5, 6, 7, 8] rfl rfl (by decide) (by decide) hk1 hFc hP1 hD1
  generalize H1 = H at hP hS ⊢
  refine W.widen (k := 13) (n := 428) (by decide) (by decide) ?_
  have hP : va_P (dC, dI) vwCl [(h0, .inr (4, [.ref a1, .null, .null, .null])), (a1, .inr (2, [.int 10, .int 0, .ref a2, .ref a3, .ref a4, .ref a5, .ref a6, .ref a7, .ref a8])), (a2, .inl (cI, 10, .inl (fun _ => 0))), (a3, .inl (cI, 40, .inl (fun _ => 0))), (a4, .inl (cI, 40, .inl (fun _ => 0))), (a5, .inl (cI, 40, .inl (fun _ => 0))), (a6, .inl (cI, 40, .inl (fun _ => 0))), (a7, .inl (cZ, 40, .inl (fun _ => 0))), (a8, .inl (cI, 40, .inl z9)), (a10, .inr (0, [.ref a1, .int 0, .int 0, .int 0, .int 0, .ref a11, .ref a12, .ref a13, .ref a14])), (a11, .inl (cI, 40, .inl (fun _ => 0))), (a12, .inl (cJ, 40, .inr (.inl (fun _ => 0)))), (a13, .inl (cZ, 40, .inl (fun _ => 0))), (a14, .inl (cI, 40, .inl (fun _ => 0)))] H := hP
  have hD : va_D A [(h0, .inr (4, [.ref a1, .null, .null, .null])), (a1, .inr (2, [.int 10, .int 0, .ref a2, .ref a3, .ref a4, .ref a5, .ref a6, .ref a7, .ref a8])), (a2, .inl (cI, 10, .inl (fun _ => 0))), (a3, .inl (cI, 40, .inl (fun _ => 0))), (a4, .inl (cI, 40, .inl (fun _ => 0))), (a5, .inl (cI, 40, .inl (fun _ => 0))), (a6, .inl (cI, 40, .inl (fun _ => 0))), (a7, .inl (cZ, 40, .inl (fun _ => 0))), (a8, .inl (cI, 40, .inl z9)), (a10, .inr (0, [.ref a1, .int 0, .int 0, .int 0, .int 0, .ref a11, .ref a12, .ref a13, .ref a14])), (a11, .inl (cI, 40, .inl (fun _ => 0))), (a12, .inl (cJ, 40, .inr (.inl (fun _ => 0)))), (a13, .inl (cZ, 40, .inl (fun _ => 0))), (a14, .inl (cI, 40, .inl (fun _ => 0)))] := hD
  refine va_putF (D := (dC, dI)) (ci := 4) (v := .ref a10) (ty := .object "MaskParts$Net") (C := RX4) (T := TX4) (N := 4) hx hb hts iwX4_init_X4 tyX4 tyX4_ok nmX4 hown hK hP hD hS 0 rfl rfl 1 (by decide) (hts _ fwX4_init_21) (fun _ h9 => h9) rfl hin rfl (by decide +kernel) rfl rfl (Nat.le_of_ble_eq_true rfl) dX4_init_27 (fun H locs hP hD hS => ?_)
  have hP : va_P (dC, dI) vwCl [(h0, .inr (4, [.ref a1, .ref a10, .null, .null])), (a1, .inr (2, [.int 10, .int 0, .ref a2, .ref a3, .ref a4, .ref a5, .ref a6, .ref a7, .ref a8])), (a2, .inl (cI, 10, .inl (fun _ => 0))), (a3, .inl (cI, 40, .inl (fun _ => 0))), (a4, .inl (cI, 40, .inl (fun _ => 0))), (a5, .inl (cI, 40, .inl (fun _ => 0))), (a6, .inl (cI, 40, .inl (fun _ => 0))), (a7, .inl (cZ, 40, .inl (fun _ => 0))), (a8, .inl (cI, 40, .inl z9)), (a10, .inr (0, [.ref a1, .int 0, .int 0, .int 0, .int 0, .ref a11, .ref a12, .ref a13, .ref a14])), (a11, .inl (cI, 40, .inl (fun _ => 0))), (a12, .inl (cJ, 40, .inr (.inl (fun _ => 0)))), (a13, .inl (cZ, 40, .inl (fun _ => 0))), (a14, .inl (cI, 40, .inl (fun _ => 0)))] H := hP
  have hD : va_D A [(h0, .inr (4, [.ref a1, .ref a10, .null, .null])), (a1, .inr (2, [.int 10, .int 0, .ref a2, .ref a3, .ref a4, .ref a5, .ref a6, .ref a7, .ref a8])), (a2, .inl (cI, 10, .inl (fun _ => 0))), (a3, .inl (cI, 40, .inl (fun _ => 0))), (a4, .inl (cI, 40, .inl (fun _ => 0))), (a5, .inl (cI, 40, .inl (fun _ => 0))), (a6, .inl (cI, 40, .inl (fun _ => 0))), (a7, .inl (cZ, 40, .inl (fun _ => 0))), (a8, .inl (cI, 40, .inl z9)), (a10, .inr (0, [.ref a1, .int 0, .int 0, .int 0, .int 0, .ref a11, .ref a12, .ref a13, .ref a14])), (a11, .inl (cI, 40, .inl (fun _ => 0))), (a12, .inl (cJ, 40, .inr (.inl (fun _ => 0)))), (a13, .inl (cZ, 40, .inl (fun _ => 0))), (a14, .inl (cI, 40, .inl (fun _ => 0)))] := hD
  refine lv_aload_n hx hb dX4_init_30 rfl (lv_at hl 0 rfl) ?_
  refine va_new (D := (dC, dI)) (ci := 1) (fs := [.null, .int 0, .int 0, .null, .null, .null]) (C := RX1) (T := TX1) (N := 6) hx hb hts iwX4_init_X1 tyX1 tyX1_ok hown (hts _ kwX4_init_25) (hts _ jwX4_init_25) (hts _ lwX4_init_25) hK hP hD hS hA rfl (fun j hj => by match j, hj with | 0, _ => rfl | 1, _ => rfl | 2, _ => rfl | 3, _ => rfl | 4, _ => rfl | 5, _ => rfl | n + 6, h => exact absurd h (by omega)) (Nat.le_of_ble_eq_true rfl) (Nat.le_of_ble_eq_true rfl) dX4_init_31 (fun a15 H hP hD hS => ?_)
  refine W.widen (k := 14) (n := 434) (by decide) (by decide) ?_
  have hP : va_P (dC, dI) vwCl [(h0, .inr (4, [.ref a1, .ref a10, .null, .null])), (a1, .inr (2, [.int 10, .int 0, .ref a2, .ref a3, .ref a4, .ref a5, .ref a6, .ref a7, .ref a8])), (a2, .inl (cI, 10, .inl (fun _ => 0))), (a3, .inl (cI, 40, .inl (fun _ => 0))), (a4, .inl (cI, 40, .inl (fun _ => 0))), (a5, .inl (cI, 40, .inl (fun _ => 0))), (a6, .inl (cI, 40, .inl (fun _ => 0))), (a7, .inl (cZ, 40, .inl (fun _ => 0))), (a8, .inl (cI, 40, .inl z9)), (a10, .inr (0, [.ref a1, .int 0, .int 0, .int 0, .int 0, .ref a11, .ref a12, .ref a13, .ref a14])), (a11, .inl (cI, 40, .inl (fun _ => 0))), (a12, .inl (cJ, 40, .inr (.inl (fun _ => 0)))), (a13, .inl (cZ, 40, .inl (fun _ => 0))), (a14, .inl (cI, 40, .inl (fun _ => 0))), (a15, .inr (1, [.null, .int 0, .int 0, .null, .null, .null]))] H := hP
  have hD : va_D A [(h0, .inr (4, [.ref a1, .ref a10, .null, .null])), (a1, .inr (2, [.int 10, .int 0, .ref a2, .ref a3, .ref a4, .ref a5, .ref a6, .ref a7, .ref a8])), (a2, .inl (cI, 10, .inl (fun _ => 0))), (a3, .inl (cI, 40, .inl (fun _ => 0))), (a4, .inl (cI, 40, .inl (fun _ => 0))), (a5, .inl (cI, 40, .inl (fun _ => 0))), (a6, .inl (cI, 40, .inl (fun _ => 0))), (a7, .inl (cZ, 40, .inl (fun _ => 0))), (a8, .inl (cI, 40, .inl z9)), (a10, .inr (0, [.ref a1, .int 0, .int 0, .int 0, .int 0, .ref a11, .ref a12, .ref a13, .ref a14])), (a11, .inl (cI, 40, .inl (fun _ => 0))), (a12, .inl (cJ, 40, .inr (.inl (fun _ => 0)))), (a13, .inl (cZ, 40, .inl (fun _ => 0))), (a14, .inl (cI, 40, .inl (fun _ => 0))), (a15, .inr (1, [.null, .int 0, .int 0, .null, .null, .null]))] := hD
  refine lv_dup hx hb dX4_init_34 rfl ?_
  refine lv_aload_n hx hb dX4_init_35 rfl (lv_at hl 0 rfl) ?_
  refine va_get (D := (dC, dI)) (ci := 4) (v := .ref a10) (C := RX4) (T := TX4) (N := 4) hx hb hts iwX4_init_X4 hown hK hP 0 rfl rfl 1 (by decide) (hts _ fwX4_init_21) (fun _ h9 => h9) rfl dX4_init_36 ?_
  have hPc := hP.sub (ws' := [(a15, .inr (1, [.null, .int 0, .int 0, .null, .null, .null]))]) [14] rfl
  have hDc := hD.sub (ws' := [(a15, .inr (1, [.null, .int 0, .int 0, .null, .null, .null]))]) [14] (by decide) rfl
  have hFc := va_free (wc := [(a15, .inr (1, [.null, .int 0, .int 0, .null, .null, .null]))]) hD hS hA [14] rfl
  refine va_callv (va_runI (As := [.ref a10]) (rest := [.ref a15, .ref h0]) ⟨hx, hb, hml, hown, hts⟩ (kiX1 l dC dI cI cJ cZ H.size a15 a10) (cwI 1 hts gX4_init_X1_init rfl rfl rfl (hts _ ciX4_init_X1) (hts _ cmX4_init_X1) (hts _ cnX4_init_X1) rfl (by decide +kernel) ⟨Nat.le_of_ble_eq_true rfl, Nat.le_of_ble_eq_true rfl⟩) ⟨wc.blind, fun U hU hW => ⟨rfl, wc.at hPc hK hDc hN hU hW⟩⟩ rfl rfl hl.1 rfl (lv_room (Nat.le_of_ble_eq_true rfl)) dX4_init_39 ⟨Nat.le_of_ble_eq_true rfl, Nat.le_of_ble_eq_true rfl⟩) hS (fun q _ h => hFc q h) hFc (fun u t H1 locs ht hvm hw hB hz1 hk1 hS => ?_)
  obtain ⟨a16, a17, a18, hP1, hD1⟩ := hB
  rw [ht] at hP1
  obtain ⟨hP, hD⟩ := va_join (wr := [(h0, .inr (4, [.ref a1, .ref a10, .null, .null])), (a1, .inr (2, [.int 10, .int 0, .ref a2, .ref a3, .ref a4, .ref a5, .ref a6, .ref a7, .ref a8])), (a2, .inl (cI, 10, .inl (fun _ => 0))), (a3, .inl (cI, 40, .inl (fun _ => 0))), (a4, .inl (cI, 40, .inl (fun _ => 0))), (a5, .inl (cI, 40, .inl (fun _ => 0))), (a6, .inl (cI, 40, .inl (fun _ => 0))), (a7, .inl (cZ, 40, .inl (fun _ => 0))), (a8, .inl (cI, 40, .inl z9)), (a10, .inr (0, [.ref a1, .int 0, .int 0, .int 0, .int 0, .ref a11, .ref a12, .ref a13, .ref a14])), (a11, .inl (cI, 40, .inl (fun _ => 0))), (a12, .inl (cJ, 40, .inr (.inl (fun _ => 0)))), (a13, .inl (cZ, 40, .inl (fun _ => 0))), (a14, .inl (cI, 40, .inl (fun _ => 0)))]) (w1 := [(a15, .inr (1, [.ref a10, .int (-1), .int 0, .ref a16, .ref a17, .ref a18])), (a16, .inl (cI, 40, .inl (fun _ => 0))), (a17, .inl (cI, 40, .inl (fun _ => 0))), (a18, .inl (cJ, 4, .inr (.inl (fun _ => 0))))]) hP hD [14] [0, 1, 2, 3, 4, 5, 6, 7, 8, 9, 10, 11, 12, 13] rfl rfl (by decide) (by decide) hk1 hFc hP1 hD1
  generalize H1 = H at hP hS ⊢
  refine W.widen (k := 17) (n := 518) (by decide) (by decide) ?_
  have hP : va_P (dC, dI) vwCl [(h0, .inr (4, [.ref a1, .ref a10, .null, .null])), (a1, .inr (2, [.int 10, .int 0, .ref a2, .ref a3, .ref a4, .ref a5, .ref a6, .ref a7, .ref a8])), (a2, .inl (cI, 10, .inl (fun _ => 0))), (a3, .inl (cI, 40, .inl (fun _ => 0))), (a4, .inl (cI, 40, .inl (fun _ => 0))), (a5, .inl (cI, 40, .inl (fun _ => 0))), (a6, .inl (cI, 40, .inl (fun _ => 0))), (a7, .inl (cZ, 40, .inl (fun _ => 0))), (a8, .inl (cI, 40, .inl z9)), (a10, .inr (0, [.ref a1, .int 0, .int 0, .int 0, .int 0, .ref a11, .ref a12, .ref a13, .ref a14])), (a11, .inl (cI, 40, .inl (fun _ => 0))), (a12, .inl (cJ, 40, .inr (.inl (fun _ => 0)))), (a13, .inl (cZ, 40, .inl (fun _ => 0))), (a14, .inl (cI, 40, .inl (fun _ => 0))), (a15, .inr (1, [.ref a10, .int (-1), .int 0, .ref a16, .ref a17, .ref a18])), (a16, .inl (cI, 40, .inl (fun _ => 0))), (a17, .inl (cI, 40, .inl (fun _ => 0))), (a18, .inl (cJ, 4, .inr (.inl (fun _ => 0))))] H := hP
  have hD : va_D A [(h0, .inr (4, [.ref a1, .ref a10, .null, .null])), (a1, .inr (2, [.int 10, .int 0, .ref a2, .ref a3, .ref a4, .ref a5, .ref a6, .ref a7, .ref a8])), (a2, .inl (cI, 10, .inl (fun _ => 0))), (a3, .inl (cI, 40, .inl (fun _ => 0))), (a4, .inl (cI, 40, .inl (fun _ => 0))), (a5, .inl (cI, 40, .inl (fun _ => 0))), (a6, .inl (cI, 40, .inl (fun _ => 0))), (a7, .inl (cZ, 40, .inl (fun _ => 0))), (a8, .inl (cI, 40, .inl z9)), (a10, .inr (0, [.ref a1, .int 0, .int 0, .int 0, .int 0, .ref a11, .ref a12, .ref a13, .ref a14])), (a11, .inl (cI, 40, .inl (fun _ => 0))), (a12, .inl (cJ, 40, .inr (.inl (fun _ => 0)))), (a13, .inl (cZ, 40, .inl (fun _ => 0))), (a14, .inl (cI, 40, .inl (fun _ => 0))), (a15, .inr (1, [.ref a10, .int (-1), .int 0, .ref a16, .ref a17, .ref a18])), (a16, .inl (cI, 40, .inl (fun _ => 0))), (a17, .inl (cI, 40, .inl (fun _ => 0))), (a18, .inl (cJ, 4, .inr (.inl (fun _ => 0))))] := hD
  refine va_putF (D := (dC, dI)) (ci := 4) (v := .ref a15) (ty := .object "MaskParts$Painter") (C := RX4) (T := TX4) (N := 4) hx hb hts iwX4_init_X4 tyX4 tyX4_ok nmX4 hown hK hP hD hS 0 rfl rfl 2 (by decide) (hts _ fwX4_init_30) (fun _ h9 => h9) rfl hin rfl (by decide +kernel) rfl rfl (Nat.le_of_ble_eq_true rfl) dX4_init_42 (fun H locs hP hD hS => ?_)
  have hP : va_P (dC, dI) vwCl [(h0, .inr (4, [.ref a1, .ref a10, .ref a15, .null])), (a1, .inr (2, [.int 10, .int 0, .ref a2, .ref a3, .ref a4, .ref a5, .ref a6, .ref a7, .ref a8])), (a2, .inl (cI, 10, .inl (fun _ => 0))), (a3, .inl (cI, 40, .inl (fun _ => 0))), (a4, .inl (cI, 40, .inl (fun _ => 0))), (a5, .inl (cI, 40, .inl (fun _ => 0))), (a6, .inl (cI, 40, .inl (fun _ => 0))), (a7, .inl (cZ, 40, .inl (fun _ => 0))), (a8, .inl (cI, 40, .inl z9)), (a10, .inr (0, [.ref a1, .int 0, .int 0, .int 0, .int 0, .ref a11, .ref a12, .ref a13, .ref a14])), (a11, .inl (cI, 40, .inl (fun _ => 0))), (a12, .inl (cJ, 40, .inr (.inl (fun _ => 0)))), (a13, .inl (cZ, 40, .inl (fun _ => 0))), (a14, .inl (cI, 40, .inl (fun _ => 0))), (a15, .inr (1, [.ref a10, .int (-1), .int 0, .ref a16, .ref a17, .ref a18])), (a16, .inl (cI, 40, .inl (fun _ => 0))), (a17, .inl (cI, 40, .inl (fun _ => 0))), (a18, .inl (cJ, 4, .inr (.inl (fun _ => 0))))] H := hP
  have hD : va_D A [(h0, .inr (4, [.ref a1, .ref a10, .ref a15, .null])), (a1, .inr (2, [.int 10, .int 0, .ref a2, .ref a3, .ref a4, .ref a5, .ref a6, .ref a7, .ref a8])), (a2, .inl (cI, 10, .inl (fun _ => 0))), (a3, .inl (cI, 40, .inl (fun _ => 0))), (a4, .inl (cI, 40, .inl (fun _ => 0))), (a5, .inl (cI, 40, .inl (fun _ => 0))), (a6, .inl (cI, 40, .inl (fun _ => 0))), (a7, .inl (cZ, 40, .inl (fun _ => 0))), (a8, .inl (cI, 40, .inl z9)), (a10, .inr (0, [.ref a1, .int 0, .int 0, .int 0, .int 0, .ref a11, .ref a12, .ref a13, .ref a14])), (a11, .inl (cI, 40, .inl (fun _ => 0))), (a12, .inl (cJ, 40, .inr (.inl (fun _ => 0)))), (a13, .inl (cZ, 40, .inl (fun _ => 0))), (a14, .inl (cI, 40, .inl (fun _ => 0))), (a15, .inr (1, [.ref a10, .int (-1), .int 0, .ref a16, .ref a17, .ref a18])), (a16, .inl (cI, 40, .inl (fun _ => 0))), (a17, .inl (cI, 40, .inl (fun _ => 0))), (a18, .inl (cJ, 4, .inr (.inl (fun _ => 0))))] := hD
  refine lv_aload_n hx hb dX4_init_45 rfl (lv_at hl 0 rfl) ?_
  refine va_new (D := (dC, dI)) (ci := 3) (fs := [.null, .int 0, .int 0, .null, .null]) (C := RX3) (T := TX3) (N := 5) hx hb hts iwX4_init_X3 tyX3 tyX3_ok hown (hts _ kwX4_init_34) (hts _ jwX4_init_34) (hts _ lwX4_init_34) hK hP hD hS hA rfl (fun j hj => by match j, hj with | 0, _ => rfl | 1, _ => rfl | 2, _ => rfl | 3, _ => rfl | 4, _ => rfl | n + 5, h => exact absurd h (by omega)) (Nat.le_of_ble_eq_true rfl) (Nat.le_of_ble_eq_true rfl) dX4_init_46 (fun a19 H hP hD hS => ?_)
  refine W.widen (k := 18) (n := 523) (by decide) (by decide) ?_
  have hP : va_P (dC, dI) vwCl [(h0, .inr (4, [.ref a1, .ref a10, .ref a15, .null])), (a1, .inr (2, [.int 10, .int 0, .ref a2, .ref a3, .ref a4, .ref a5, .ref a6, .ref a7, .ref a8])), (a2, .inl (cI, 10, .inl (fun _ => 0))), (a3, .inl (cI, 40, .inl (fun _ => 0))), (a4, .inl (cI, 40, .inl (fun _ => 0))), (a5, .inl (cI, 40, .inl (fun _ => 0))), (a6, .inl (cI, 40, .inl (fun _ => 0))), (a7, .inl (cZ, 40, .inl (fun _ => 0))), (a8, .inl (cI, 40, .inl z9)), (a10, .inr (0, [.ref a1, .int 0, .int 0, .int 0, .int 0, .ref a11, .ref a12, .ref a13, .ref a14])), (a11, .inl (cI, 40, .inl (fun _ => 0))), (a12, .inl (cJ, 40, .inr (.inl (fun _ => 0)))), (a13, .inl (cZ, 40, .inl (fun _ => 0))), (a14, .inl (cI, 40, .inl (fun _ => 0))), (a15, .inr (1, [.ref a10, .int (-1), .int 0, .ref a16, .ref a17, .ref a18])), (a16, .inl (cI, 40, .inl (fun _ => 0))), (a17, .inl (cI, 40, .inl (fun _ => 0))), (a18, .inl (cJ, 4, .inr (.inl (fun _ => 0)))), (a19, .inr (3, [.null, .int 0, .int 0, .null, .null]))] H := hP
  have hD : va_D A [(h0, .inr (4, [.ref a1, .ref a10, .ref a15, .null])), (a1, .inr (2, [.int 10, .int 0, .ref a2, .ref a3, .ref a4, .ref a5, .ref a6, .ref a7, .ref a8])), (a2, .inl (cI, 10, .inl (fun _ => 0))), (a3, .inl (cI, 40, .inl (fun _ => 0))), (a4, .inl (cI, 40, .inl (fun _ => 0))), (a5, .inl (cI, 40, .inl (fun _ => 0))), (a6, .inl (cI, 40, .inl (fun _ => 0))), (a7, .inl (cZ, 40, .inl (fun _ => 0))), (a8, .inl (cI, 40, .inl z9)), (a10, .inr (0, [.ref a1, .int 0, .int 0, .int 0, .int 0, .ref a11, .ref a12, .ref a13, .ref a14])), (a11, .inl (cI, 40, .inl (fun _ => 0))), (a12, .inl (cJ, 40, .inr (.inl (fun _ => 0)))), (a13, .inl (cZ, 40, .inl (fun _ => 0))), (a14, .inl (cI, 40, .inl (fun _ => 0))), (a15, .inr (1, [.ref a10, .int (-1), .int 0, .ref a16, .ref a17, .ref a18])), (a16, .inl (cI, 40, .inl (fun _ => 0))), (a17, .inl (cI, 40, .inl (fun _ => 0))), (a18, .inl (cJ, 4, .inr (.inl (fun _ => 0)))), (a19, .inr (3, [.null, .int 0, .int 0, .null, .null]))] := hD
  refine lv_dup hx hb dX4_init_49 rfl ?_
  refine lv_aload_n hx hb dX4_init_50 rfl (lv_at hl 0 rfl) ?_
  refine va_get (D := (dC, dI)) (ci := 4) (v := .ref a10) (C := RX4) (T := TX4) (N := 4) hx hb hts iwX4_init_X4 hown hK hP 0 rfl rfl 1 (by decide) (hts _ fwX4_init_21) (fun _ h9 => h9) rfl dX4_init_51 ?_
  have hPc := hP.sub (ws' := [(a19, .inr (3, [.null, .int 0, .int 0, .null, .null]))]) [18] rfl
  have hDc := hD.sub (ws' := [(a19, .inr (3, [.null, .int 0, .int 0, .null, .null]))]) [18] (by decide) rfl
  have hFc := va_free (wc := [(a19, .inr (3, [.null, .int 0, .int 0, .null, .null]))]) hD hS hA [18] rfl
  refine va_callv (va_runI (As := [.ref a10]) (rest := [.ref a19, .ref h0]) ⟨hx, hb, hml, hown, hts⟩ (kiX3 l dC dI cI cJ cZ H.size a19 a10) (cwI 1 hts gX4_init_X3_init rfl rfl rfl (hts _ ciX4_init_X3) (hts _ cmX4_init_X3) (hts _ cnX4_init_X3) rfl (by decide +kernel) ⟨Nat.le_of_ble_eq_true rfl, Nat.le_of_ble_eq_true rfl⟩) ⟨wc.blind, fun U hU hW => ⟨rfl, wc.at hPc hK hDc hN hU hW⟩⟩ rfl rfl hl.1 rfl (lv_room (Nat.le_of_ble_eq_true rfl)) dX4_init_54 ⟨Nat.le_of_ble_eq_true rfl, Nat.le_of_ble_eq_true rfl⟩) hS (fun q _ h => hFc q h) hFc (fun u t H1 locs ht hvm hw hB hz1 hk1 hS => ?_)
  obtain ⟨a20, a21, hP1, hD1⟩ := hB
  rw [ht] at hP1
  obtain ⟨hP, hD⟩ := va_join (wr := [(h0, .inr (4, [.ref a1, .ref a10, .ref a15, .null])), (a1, .inr (2, [.int 10, .int 0, .ref a2, .ref a3, .ref a4, .ref a5, .ref a6, .ref a7, .ref a8])), (a2, .inl (cI, 10, .inl (fun _ => 0))), (a3, .inl (cI, 40, .inl (fun _ => 0))), (a4, .inl (cI, 40, .inl (fun _ => 0))), (a5, .inl (cI, 40, .inl (fun _ => 0))), (a6, .inl (cI, 40, .inl (fun _ => 0))), (a7, .inl (cZ, 40, .inl (fun _ => 0))), (a8, .inl (cI, 40, .inl z9)), (a10, .inr (0, [.ref a1, .int 0, .int 0, .int 0, .int 0, .ref a11, .ref a12, .ref a13, .ref a14])), (a11, .inl (cI, 40, .inl (fun _ => 0))), (a12, .inl (cJ, 40, .inr (.inl (fun _ => 0)))), (a13, .inl (cZ, 40, .inl (fun _ => 0))), (a14, .inl (cI, 40, .inl (fun _ => 0))), (a15, .inr (1, [.ref a10, .int (-1), .int 0, .ref a16, .ref a17, .ref a18])), (a16, .inl (cI, 40, .inl (fun _ => 0))), (a17, .inl (cI, 40, .inl (fun _ => 0))), (a18, .inl (cJ, 4, .inr (.inl (fun _ => 0))))]) (w1 := [(a19, .inr (3, [.ref a10, .int 0, .int 0, .ref a20, .ref a21])), (a20, .inl (cI, 40, .inl (fun _ => 0))), (a21, .inl (cJ, 81, .inr (.inl (fun _ => 0))))]) hP hD [18] [0, 1, 2, 3, 4, 5, 6, 7, 8, 9, 10, 11, 12, 13, 14, 15, 16, 17] rfl rfl (by decide) (by decide) hk1 hFc hP1 hD1
  generalize H1 = H at hP hS ⊢
  refine W.widen (k := 20) (n := 644) (by decide) (by decide) ?_
  have hP : va_P (dC, dI) vwCl [(h0, .inr (4, [.ref a1, .ref a10, .ref a15, .null])), (a1, .inr (2, [.int 10, .int 0, .ref a2, .ref a3, .ref a4, .ref a5, .ref a6, .ref a7, .ref a8])), (a2, .inl (cI, 10, .inl (fun _ => 0))), (a3, .inl (cI, 40, .inl (fun _ => 0))), (a4, .inl (cI, 40, .inl (fun _ => 0))), (a5, .inl (cI, 40, .inl (fun _ => 0))), (a6, .inl (cI, 40, .inl (fun _ => 0))), (a7, .inl (cZ, 40, .inl (fun _ => 0))), (a8, .inl (cI, 40, .inl z9)), (a10, .inr (0, [.ref a1, .int 0, .int 0, .int 0, .int 0, .ref a11, .ref a12, .ref a13, .ref a14])), (a11, .inl (cI, 40, .inl (fun _ => 0))), (a12, .inl (cJ, 40, .inr (.inl (fun _ => 0)))), (a13, .inl (cZ, 40, .inl (fun _ => 0))), (a14, .inl (cI, 40, .inl (fun _ => 0))), (a15, .inr (1, [.ref a10, .int (-1), .int 0, .ref a16, .ref a17, .ref a18])), (a16, .inl (cI, 40, .inl (fun _ => 0))), (a17, .inl (cI, 40, .inl (fun _ => 0))), (a18, .inl (cJ, 4, .inr (.inl (fun _ => 0)))), (a19, .inr (3, [.ref a10, .int 0, .int 0, .ref a20, .ref a21])), (a20, .inl (cI, 40, .inl (fun _ => 0))), (a21, .inl (cJ, 81, .inr (.inl (fun _ => 0))))] H := hP
  have hD : va_D A [(h0, .inr (4, [.ref a1, .ref a10, .ref a15, .null])), (a1, .inr (2, [.int 10, .int 0, .ref a2, .ref a3, .ref a4, .ref a5, .ref a6, .ref a7, .ref a8])), (a2, .inl (cI, 10, .inl (fun _ => 0))), (a3, .inl (cI, 40, .inl (fun _ => 0))), (a4, .inl (cI, 40, .inl (fun _ => 0))), (a5, .inl (cI, 40, .inl (fun _ => 0))), (a6, .inl (cI, 40, .inl (fun _ => 0))), (a7, .inl (cZ, 40, .inl (fun _ => 0))), (a8, .inl (cI, 40, .inl z9)), (a10, .inr (0, [.ref a1, .int 0, .int 0, .int 0, .int 0, .ref a11, .ref a12, .ref a13, .ref a14])), (a11, .inl (cI, 40, .inl (fun _ => 0))), (a12, .inl (cJ, 40, .inr (.inl (fun _ => 0)))), (a13, .inl (cZ, 40, .inl (fun _ => 0))), (a14, .inl (cI, 40, .inl (fun _ => 0))), (a15, .inr (1, [.ref a10, .int (-1), .int 0, .ref a16, .ref a17, .ref a18])), (a16, .inl (cI, 40, .inl (fun _ => 0))), (a17, .inl (cI, 40, .inl (fun _ => 0))), (a18, .inl (cJ, 4, .inr (.inl (fun _ => 0)))), (a19, .inr (3, [.ref a10, .int 0, .int 0, .ref a20, .ref a21])), (a20, .inl (cI, 40, .inl (fun _ => 0))), (a21, .inl (cJ, 81, .inr (.inl (fun _ => 0))))] := hD
  refine va_putF (D := (dC, dI)) (ci := 4) (v := .ref a19) (ty := .object "MaskParts$Ring") (C := RX4) (T := TX4) (N := 4) hx hb hts iwX4_init_X4 tyX4 tyX4_ok nmX4 hown hK hP hD hS 0 rfl rfl 3 (by decide) (hts _ fwX4_init_37) (fun _ h9 => h9) rfl hin rfl (by decide +kernel) rfl rfl (Nat.le_of_ble_eq_true rfl) dX4_init_57 (fun H locs hP hD hS => ?_)
  have hP : va_P (dC, dI) vwCl [(h0, .inr (4, [.ref a1, .ref a10, .ref a15, .ref a19])), (a1, .inr (2, [.int 10, .int 0, .ref a2, .ref a3, .ref a4, .ref a5, .ref a6, .ref a7, .ref a8])), (a2, .inl (cI, 10, .inl (fun _ => 0))), (a3, .inl (cI, 40, .inl (fun _ => 0))), (a4, .inl (cI, 40, .inl (fun _ => 0))), (a5, .inl (cI, 40, .inl (fun _ => 0))), (a6, .inl (cI, 40, .inl (fun _ => 0))), (a7, .inl (cZ, 40, .inl (fun _ => 0))), (a8, .inl (cI, 40, .inl z9)), (a10, .inr (0, [.ref a1, .int 0, .int 0, .int 0, .int 0, .ref a11, .ref a12, .ref a13, .ref a14])), (a11, .inl (cI, 40, .inl (fun _ => 0))), (a12, .inl (cJ, 40, .inr (.inl (fun _ => 0)))), (a13, .inl (cZ, 40, .inl (fun _ => 0))), (a14, .inl (cI, 40, .inl (fun _ => 0))), (a15, .inr (1, [.ref a10, .int (-1), .int 0, .ref a16, .ref a17, .ref a18])), (a16, .inl (cI, 40, .inl (fun _ => 0))), (a17, .inl (cI, 40, .inl (fun _ => 0))), (a18, .inl (cJ, 4, .inr (.inl (fun _ => 0)))), (a19, .inr (3, [.ref a10, .int 0, .int 0, .ref a20, .ref a21])), (a20, .inl (cI, 40, .inl (fun _ => 0))), (a21, .inl (cJ, 81, .inr (.inl (fun _ => 0))))] H := hP
  have hD : va_D A [(h0, .inr (4, [.ref a1, .ref a10, .ref a15, .ref a19])), (a1, .inr (2, [.int 10, .int 0, .ref a2, .ref a3, .ref a4, .ref a5, .ref a6, .ref a7, .ref a8])), (a2, .inl (cI, 10, .inl (fun _ => 0))), (a3, .inl (cI, 40, .inl (fun _ => 0))), (a4, .inl (cI, 40, .inl (fun _ => 0))), (a5, .inl (cI, 40, .inl (fun _ => 0))), (a6, .inl (cI, 40, .inl (fun _ => 0))), (a7, .inl (cZ, 40, .inl (fun _ => 0))), (a8, .inl (cI, 40, .inl z9)), (a10, .inr (0, [.ref a1, .int 0, .int 0, .int 0, .int 0, .ref a11, .ref a12, .ref a13, .ref a14])), (a11, .inl (cI, 40, .inl (fun _ => 0))), (a12, .inl (cJ, 40, .inr (.inl (fun _ => 0)))), (a13, .inl (cZ, 40, .inl (fun _ => 0))), (a14, .inl (cI, 40, .inl (fun _ => 0))), (a15, .inr (1, [.ref a10, .int (-1), .int 0, .ref a16, .ref a17, .ref a18])), (a16, .inl (cI, 40, .inl (fun _ => 0))), (a17, .inl (cI, 40, .inl (fun _ => 0))), (a18, .inl (cJ, 4, .inr (.inl (fun _ => 0)))), (a19, .inr (3, [.ref a10, .int 0, .int 0, .ref a20, .ref a21])), (a20, .inl (cI, 40, .inl (fun _ => 0))), (a21, .inl (cJ, 81, .inr (.inl (fun _ => 0))))] := hD
  exact rt_v () hx hb hr hlk trivial (fun t ht => ⟨a1, a2, a3, a4, a5, a6, a7, a8, a10, a11, a12, a13, a14, a15, a16, a17, a18, a19, a20, a21, z9, ez9, by rw [ht]; exact hP, hD⟩) hS dX4_init_60

set_option maxRecDepth 20000 in
theorem owX5_init_a : Cond.methodLink RX5 1 objectInit ∈ wsX5_init := by decide +kernel
set_option maxRecDepth 20000 in
theorem owX5_init_b : Cond.instanceMethod objectInit ∈ wsX5_init := by decide +kernel
set_option maxRecDepth 20000 in
theorem owX5_init_c : Cond.code objectInit ⟨#[0xb1]⟩ 1 none ∈ wsX5_init := by decide +kernel
set_option maxRecDepth 20000 in
theorem fwX5_init_7 : Cond.fieldLink RX5 7 "MaskPartsModel" "distance" "I" ∈ wsX5_init := by decide +kernel
set_option maxRecDepth 20000 in
theorem iwX5_init_X5 : ∀ w ∈ wsX50, w ∈ wsX5_init := by decide +kernel
set_option maxRecDepth 20000 in
theorem awX5_init_I : Cond.arrayClass .int ∈ wsX5_init := by decide +kernel
set_option maxRecDepth 20000 in
theorem fwX5_init_13 : Cond.fieldLink RX5 13 "MaskPartsModel" "counts" "[I" ∈ wsX5_init := by decide +kernel
set_option maxRecDepth 20000 in
theorem fwX5_init_17 : Cond.fieldLink RX5 17 "MaskPartsModel" "xs" "[I" ∈ wsX5_init := by decide +kernel
set_option maxRecDepth 20000 in
theorem fwX5_init_20 : Cond.fieldLink RX5 20 "MaskPartsModel" "ys" "[I" ∈ wsX5_init := by decide +kernel
set_option maxRecDepth 20000 in
theorem fwX5_init_23 : Cond.fieldLink RX5 23 "MaskPartsModel" "x2s" "[I" ∈ wsX5_init := by decide +kernel
set_option maxRecDepth 20000 in
theorem fwX5_init_26 : Cond.fieldLink RX5 26 "MaskPartsModel" "y2s" "[I" ∈ wsX5_init := by decide +kernel
set_option maxRecDepth 20000 in
theorem awX5_init_Z : Cond.arrayClass .boolean ∈ wsX5_init := by decide +kernel
set_option maxRecDepth 20000 in
theorem fwX5_init_29 : Cond.fieldLink RX5 29 "MaskPartsModel" "may" "[Z" ∈ wsX5_init := by decide +kernel
set_option maxRecDepth 20000 in
theorem fwX5_init_33 : Cond.fieldLink RX5 33 "MaskPartsModel" "told" "[I" ∈ wsX5_init := by decide +kernel
set_option maxRecDepth 20000 in
theorem fwX5_init_36 : Cond.fieldLink RX5 36 "MaskPartsModel" "partOf" "[I" ∈ wsX5_init := by decide +kernel
set_option maxRecDepth 20000 in
theorem fwX5_init_39 : Cond.fieldLink RX5 39 "MaskPartsModel" "shapeOf" "[I" ∈ wsX5_init := by decide +kernel
set_option maxRecDepth 20000 in
theorem fwX5_init_42 : Cond.fieldLink RX5 42 "MaskPartsModel" "isStitched" "[Z" ∈ wsX5_init := by decide +kernel
set_option maxRecDepth 20000 in
theorem awX5_init_J : Cond.arrayClass .long ∈ wsX5_init := by decide +kernel
set_option maxRecDepth 20000 in
theorem fwX5_init_45 : Cond.fieldLink RX5 45 "MaskPartsModel" "near" "[J" ∈ wsX5_init := by decide +kernel
set_option maxRecDepth 20000 in
theorem fwX5_init_49 : Cond.fieldLink RX5 49 "MaskPartsModel" "answer" "I" ∈ wsX5_init := by decide +kernel
set_option maxRecDepth 20000 in
theorem fwX5_init_52 : Cond.fieldLink RX5 52 "MaskPartsModel" "colours" "[I" ∈ wsX5_init := by decide +kernel
set_option maxRecDepth 20000 in
theorem fwX5_init_55 : Cond.fieldLink RX5 55 "MaskPartsModel" "ring" "[I" ∈ wsX5_init := by decide +kernel
set_option maxRecDepth 20000 in
theorem fwX5_init_58 : Cond.fieldLink RX5 58 "MaskPartsModel" "reach" "[J" ∈ wsX5_init := by decide +kernel
def BX5 (dC : Nat → ClassId) (dI : Nat → Nat → Nat) (cI cJ cZ : ClassId) (h0 : Nat) (A : Nat → Prop) (t : State) : Prop := ∃ a1 a2 a3 a4 a5 a6 a7 a8 a9 a10 a11 a12 a13 a14 : Nat, va_P (dC, dI) vwCl [(h0, .inr (5, [.int 0, .int 10, .int 0, .ref a1, .ref a2, .ref a3, .ref a4, .ref a5, .ref a6, .ref a7, .int 0, .ref a8, .ref a9, .ref a10, .ref a11, .int (-1), .int 0, .int 0, .ref a12, .int 0, .ref a13, .ref a14])), (a1, .inl (cI, 10, .inl (fun _ => 0))), (a2, .inl (cI, 40, .inl (fun _ => 0))), (a3, .inl (cI, 40, .inl (fun _ => 0))), (a4, .inl (cI, 40, .inl (fun _ => 0))), (a5, .inl (cI, 40, .inl (fun _ => 0))), (a6, .inl (cZ, 40, .inl (fun _ => 0))), (a7, .inl (cI, 40, .inl (fun _ => 0))), (a8, .inl (cI, 40, .inl (fun _ => 0))), (a9, .inl (cI, 40, .inl (fun _ => 0))), (a10, .inl (cZ, 40, .inl (fun _ => 0))), (a11, .inl (cJ, 40, .inr (.inl (fun _ => 0)))), (a12, .inl (cI, 40, .inl (fun _ => 0))), (a13, .inl (cI, 41, .inl (fun _ => 0))), (a14, .inl (cJ, 42, .inr (.inl (fun _ => 0))))] t.heap ∧ va_D A [(h0, .inr (5, [.int 0, .int 10, .int 0, .ref a1, .ref a2, .ref a3, .ref a4, .ref a5, .ref a6, .ref a7, .int 0, .ref a8, .ref a9, .ref a10, .ref a11, .int (-1), .int 0, .int 0, .ref a12, .int 0, .ref a13, .ref a14])), (a1, .inl (cI, 10, .inl (fun _ => 0))), (a2, .inl (cI, 40, .inl (fun _ => 0))), (a3, .inl (cI, 40, .inl (fun _ => 0))), (a4, .inl (cI, 40, .inl (fun _ => 0))), (a5, .inl (cI, 40, .inl (fun _ => 0))), (a6, .inl (cZ, 40, .inl (fun _ => 0))), (a7, .inl (cI, 40, .inl (fun _ => 0))), (a8, .inl (cI, 40, .inl (fun _ => 0))), (a9, .inl (cI, 40, .inl (fun _ => 0))), (a10, .inl (cZ, 40, .inl (fun _ => 0))), (a11, .inl (cJ, 40, .inr (.inl (fun _ => 0)))), (a12, .inl (cI, 40, .inl (fun _ => 0))), (a13, .inl (cI, 41, .inl (fun _ => 0))), (a14, .inl (cJ, 42, .inr (.inl (fun _ => 0))))]
set_option maxHeartbeats 4000000 in
set_option maxRecDepth 100000 in
theorem kiX5 (l : Launch) (dC : Nat → ClassId) (dI : Nat → Nat → Nat) (cI cJ cZ : ClassId) (sz h0 : Nat) : Met l yX5_init wsX5_init { frames := 1, cells := 14, slots := 533, locals := 24 } (va_Pc [.ref h0] (wc dC dI cI cJ cZ sz [(h0, .inr (5, [.int 0, .int 0, .int 0, .null, .null, .null, .null, .null, .null, .null, .int 0, .null, .null, .null, .null, .int 0, .int 0, .int 0, .null, .int 0, .null, .null]))])) (va_Qv (fun _ : Unit => True) (fun _ t => BX5 dC dI cI cJ cZ h0 (va_A [(h0, .inr (5, [.int 0, .int 0, .int 0, .null, .null, .null, .null, .null, .null, .null, .int 0, .null, .null, .null, .null, .int 0, .int 0, .int 0, .null, .int 0, .null, .null]))] sz) t) (va_A [(h0, .inr (5, [.int 0, .int 0, .int 0, .null, .null, .null, .null, .null, .null, .null, .int 0, .null, .null, .null, .null, .int 0, .int 0, .int 0, .null, .int 0, .null, .null]))] sz)) 14 533 (va_A [(h0, .inr (5, [.int 0, .int 0, .int 0, .null, .null, .null, .null, .null, .null, .null, .int 0, .null, .null, .null, .null, .int 0, .int 0, .int 0, .null, .int 0, .null, .null]))] sz) := by
  refine cmet_of (B := fun A t => BX5 dC dI cI cJ cZ h0 A t) [.ref h0] (by decide +kernel) rfl rfl (Nat.le_of_ble_eq_true rfl) ?_
  intro p e s m below meth c ls A hA C hin hK hN hl hP hD
  obtain ⟨hx, hb, hr, hml, hown, hts, hlk⟩ := id C
  have hl : lv_has ls 1 [(0, .ref h0)] := hl
  refine w_go (Pw := fun H => va_P (dC, dI) vwCl [(h0, .inr (5, [.int 0, .int 0, .int 0, .null, .null, .null, .null, .null, .null, .null, .int 0, .null, .null, .null, .null, .int 0, .int 0, .int 0, .null, .int 0, .null, .null]))] H) (A := A) (fun H locs hP hS => ?_) hP
  refine lv_aload_n hx hb dX5_init_0 rfl (lv_at hl 0 rfl) ?_
  refine W.objInit hx hb hown (hts _ owX5_init_a) (hts _ owX5_init_b) (hts _ owX5_init_c) rfl (by rw [hml]; exact hl.1) rfl dX5_init_1 (Nat.le_of_ble_eq_true rfl) (Nat.le_of_ble_eq_true rfl) ?_
  refine W.eq (g2 := F0 m 4 ls []) rfl ?_
  refine lv_aload_n hx hb dX5_init_4 rfl (lv_at hl 0 rfl) ?_
  refine lv_bipush (v := 10) hx hb dX5_init_5 (by decide) ?_
  refine va_put (D := (dC, dI)) (ci := 5) (v := .int 10) (ty := .int) (C := RX5) (T := TX5) (N := 22) hx hb hts iwX5_init_X5 tyX5 tyX5_ok nmX5 hown hK hP hD hS 0 rfl rfl 1 (by decide) (hts _ fwX5_init_7) (fun _ h9 => h9) rfl (by decide +kernel) rfl rfl (Nat.le_of_ble_eq_true rfl) dX5_init_7 (fun H locs hP hD hS => ?_)
  have hP : va_P (dC, dI) vwCl [(h0, .inr (5, [.int 0, .int 10, .int 0, .null, .null, .null, .null, .null, .null, .null, .int 0, .null, .null, .null, .null, .int 0, .int 0, .int 0, .null, .int 0, .null, .null]))] H := hP
  have hD : va_D A [(h0, .inr (5, [.int 0, .int 10, .int 0, .null, .null, .null, .null, .null, .null, .null, .int 0, .null, .null, .null, .null, .int 0, .int 0, .int 0, .null, .int 0, .null, .null]))] := hD
  refine lv_aload_n hx hb dX5_init_10 rfl (lv_at hl 0 rfl) ?_
  refine lv_bipush (v := 10) hx hb dX5_init_11 (by decide) ?_
  refine va_newa (D := (dC, dI)) (atype := .int) (ty := .int) (N' := 10) (a0 := (10, .inl (fun _ => 0))) hx hb (hts _ awX5_init_I) rfl hK hP hD hS hA (fun _ => rfl) (by decide) (by decide) (by decide) (Nat.le_of_ble_eq_true rfl) (Nat.le_of_ble_eq_true rfl) dX5_init_13 (fun a1 cA H hK1 hP hD hS => ?_)
  have hcA : cI = cA := (arr_I hK hK1).symm
  subst hcA
  refine W.widen (k := 1) (n := 10) (by decide) (by decide) ?_
  have hP : va_P (dC, dI) vwCl [(h0, .inr (5, [.int 0, .int 10, .int 0, .null, .null, .null, .null, .null, .null, .null, .int 0, .null, .null, .null, .null, .int 0, .int 0, .int 0, .null, .int 0, .null, .null])), (a1, .inl (cI, 10, .inl (fun _ => 0)))] H := hP
  have hD : va_D A [(h0, .inr (5, [.int 0, .int 10, .int 0, .null, .null, .null, .null, .null, .null, .null, .int 0, .null, .null, .null, .null, .int 0, .int 0, .int 0, .null, .int 0, .null, .null])), (a1, .inl (cI, 10, .inl (fun _ => 0)))] := hD
  refine va_putF (D := (dC, dI)) (ci := 5) (v := .ref a1) (ty := .array .int) (C := RX5) (T := TX5) (N := 22) hx hb hts iwX5_init_X5 tyX5 tyX5_ok nmX5 hown hK hP hD hS 0 rfl rfl 3 (by decide) (hts _ fwX5_init_13) (fun _ h9 => h9) rfl hin rfl (by decide +kernel) rfl rfl (Nat.le_of_ble_eq_true rfl) dX5_init_15 (fun H locs hP hD hS => ?_)
  have hP : va_P (dC, dI) vwCl [(h0, .inr (5, [.int 0, .int 10, .int 0, .ref a1, .null, .null, .null, .null, .null, .null, .int 0, .null, .null, .null, .null, .int 0, .int 0, .int 0, .null, .int 0, .null, .null])), (a1, .inl (cI, 10, .inl (fun _ => 0)))] H := hP
  have hD : va_D A [(h0, .inr (5, [.int 0, .int 10, .int 0, .ref a1, .null, .null, .null, .null, .null, .null, .int 0, .null, .null, .null, .null, .int 0, .int 0, .int 0, .null, .int 0, .null, .null])), (a1, .inl (cI, 10, .inl (fun _ => 0)))] := hD
  refine lv_aload_n hx hb dX5_init_18 rfl (lv_at hl 0 rfl) ?_
  refine lv_bipush (v := 40) hx hb dX5_init_19 (by decide) ?_
  refine va_newa (D := (dC, dI)) (atype := .int) (ty := .int) (N' := 40) (a0 := (40, .inl (fun _ => 0))) hx hb (hts _ awX5_init_I) rfl hK hP hD hS hA (fun _ => rfl) (by decide) (by decide) (by decide) (Nat.le_of_ble_eq_true rfl) (Nat.le_of_ble_eq_true rfl) dX5_init_21 (fun a2 cA H hK1 hP hD hS => ?_)
  have hcA : cI = cA := (arr_I hK hK1).symm
  subst hcA
  refine W.widen (k := 2) (n := 50) (by decide) (by decide) ?_
  have hP : va_P (dC, dI) vwCl [(h0, .inr (5, [.int 0, .int 10, .int 0, .ref a1, .null, .null, .null, .null, .null, .null, .int 0, .null, .null, .null, .null, .int 0, .int 0, .int 0, .null, .int 0, .null, .null])), (a1, .inl (cI, 10, .inl (fun _ => 0))), (a2, .inl (cI, 40, .inl (fun _ => 0)))] H := hP
  have hD : va_D A [(h0, .inr (5, [.int 0, .int 10, .int 0, .ref a1, .null, .null, .null, .null, .null, .null, .int 0, .null, .null, .null, .null, .int 0, .int 0, .int 0, .null, .int 0, .null, .null])), (a1, .inl (cI, 10, .inl (fun _ => 0))), (a2, .inl (cI, 40, .inl (fun _ => 0)))] := hD
  refine va_putF (D := (dC, dI)) (ci := 5) (v := .ref a2) (ty := .array .int) (C := RX5) (T := TX5) (N := 22) hx hb hts iwX5_init_X5 tyX5 tyX5_ok nmX5 hown hK hP hD hS 0 rfl rfl 4 (by decide) (hts _ fwX5_init_17) (fun _ h9 => h9) rfl hin rfl (by decide +kernel) rfl rfl (Nat.le_of_ble_eq_true rfl) dX5_init_23 (fun H locs hP hD hS => ?_)
  have hP : va_P (dC, dI) vwCl [(h0, .inr (5, [.int 0, .int 10, .int 0, .ref a1, .ref a2, .null, .null, .null, .null, .null, .int 0, .null, .null, .null, .null, .int 0, .int 0, .int 0, .null, .int 0, .null, .null])), (a1, .inl (cI, 10, .inl (fun _ => 0))), (a2, .inl (cI, 40, .inl (fun _ => 0)))] H := hP
  have hD : va_D A [(h0, .inr (5, [.int 0, .int 10, .int 0, .ref a1, .ref a2, .null, .null, .null, .null, .null, .int 0, .null, .null, .null, .null, .int 0, .int 0, .int 0, .null, .int 0, .null, .null])), (a1, .inl (cI, 10, .inl (fun _ => 0))), (a2, .inl (cI, 40, .inl (fun _ => 0)))] := hD
  refine lv_aload_n hx hb dX5_init_26 rfl (lv_at hl 0 rfl) ?_
  refine lv_bipush (v := 40) hx hb dX5_init_27 (by decide) ?_
  refine va_newa (D := (dC, dI)) (atype := .int) (ty := .int) (N' := 40) (a0 := (40, .inl (fun _ => 0))) hx hb (hts _ awX5_init_I) rfl hK hP hD hS hA (fun _ => rfl) (by decide) (by decide) (by decide) (Nat.le_of_ble_eq_true rfl) (Nat.le_of_ble_eq_true rfl) dX5_init_29 (fun a3 cA H hK1 hP hD hS => ?_)
  have hcA : cI = cA := (arr_I hK hK1).symm
  subst hcA
  refine W.widen (k := 3) (n := 90) (by decide) (by decide) ?_
  have hP : va_P (dC, dI) vwCl [(h0, .inr (5, [.int 0, .int 10, .int 0, .ref a1, .ref a2, .null, .null, .null, .null, .null, .int 0, .null, .null, .null, .null, .int 0, .int 0, .int 0, .null, .int 0, .null, .null])), (a1, .inl (cI, 10, .inl (fun _ => 0))), (a2, .inl (cI, 40, .inl (fun _ => 0))), (a3, .inl (cI, 40, .inl (fun _ => 0)))] H := hP
  have hD : va_D A [(h0, .inr (5, [.int 0, .int 10, .int 0, .ref a1, .ref a2, .null, .null, .null, .null, .null, .int 0, .null, .null, .null, .null, .int 0, .int 0, .int 0, .null, .int 0, .null, .null])), (a1, .inl (cI, 10, .inl (fun _ => 0))), (a2, .inl (cI, 40, .inl (fun _ => 0))), (a3, .inl (cI, 40, .inl (fun _ => 0)))] := hD
  refine va_putF (D := (dC, dI)) (ci := 5) (v := .ref a3) (ty := .array .int) (C := RX5) (T := TX5) (N := 22) hx hb hts iwX5_init_X5 tyX5 tyX5_ok nmX5 hown hK hP hD hS 0 rfl rfl 5 (by decide) (hts _ fwX5_init_20) (fun _ h9 => h9) rfl hin rfl (by decide +kernel) rfl rfl (Nat.le_of_ble_eq_true rfl) dX5_init_31 (fun H locs hP hD hS => ?_)
  have hP : va_P (dC, dI) vwCl [(h0, .inr (5, [.int 0, .int 10, .int 0, .ref a1, .ref a2, .ref a3, .null, .null, .null, .null, .int 0, .null, .null, .null, .null, .int 0, .int 0, .int 0, .null, .int 0, .null, .null])), (a1, .inl (cI, 10, .inl (fun _ => 0))), (a2, .inl (cI, 40, .inl (fun _ => 0))), (a3, .inl (cI, 40, .inl (fun _ => 0)))] H := hP
  have hD : va_D A [(h0, .inr (5, [.int 0, .int 10, .int 0, .ref a1, .ref a2, .ref a3, .null, .null, .null, .null, .int 0, .null, .null, .null, .null, .int 0, .int 0, .int 0, .null, .int 0, .null, .null])), (a1, .inl (cI, 10, .inl (fun _ => 0))), (a2, .inl (cI, 40, .inl (fun _ => 0))), (a3, .inl (cI, 40, .inl (fun _ => 0)))] := hD
  refine lv_aload_n hx hb dX5_init_34 rfl (lv_at hl 0 rfl) ?_
  refine lv_bipush (v := 40) hx hb dX5_init_35 (by decide) ?_
  refine va_newa (D := (dC, dI)) (atype := .int) (ty := .int) (N' := 40) (a0 := (40, .inl (fun _ => 0))) hx hb (hts _ awX5_init_I) rfl hK hP hD hS hA (fun _ => rfl) (by decide) (by decide) (by decide) (Nat.le_of_ble_eq_true rfl) (Nat.le_of_ble_eq_true rfl) dX5_init_37 (fun a4 cA H hK1 hP hD hS => ?_)
  have hcA : cI = cA := (arr_I hK hK1).symm
  subst hcA
  refine W.widen (k := 4) (n := 130) (by decide) (by decide) ?_
  have hP : va_P (dC, dI) vwCl [(h0, .inr (5, [.int 0, .int 10, .int 0, .ref a1, .ref a2, .ref a3, .null, .null, .null, .null, .int 0, .null, .null, .null, .null, .int 0, .int 0, .int 0, .null, .int 0, .null, .null])), (a1, .inl (cI, 10, .inl (fun _ => 0))), (a2, .inl (cI, 40, .inl (fun _ => 0))), (a3, .inl (cI, 40, .inl (fun _ => 0))), (a4, .inl (cI, 40, .inl (fun _ => 0)))] H := hP
  have hD : va_D A [(h0, .inr (5, [.int 0, .int 10, .int 0, .ref a1, .ref a2, .ref a3, .null, .null, .null, .null, .int 0, .null, .null, .null, .null, .int 0, .int 0, .int 0, .null, .int 0, .null, .null])), (a1, .inl (cI, 10, .inl (fun _ => 0))), (a2, .inl (cI, 40, .inl (fun _ => 0))), (a3, .inl (cI, 40, .inl (fun _ => 0))), (a4, .inl (cI, 40, .inl (fun _ => 0)))] := hD
  refine va_putF (D := (dC, dI)) (ci := 5) (v := .ref a4) (ty := .array .int) (C := RX5) (T := TX5) (N := 22) hx hb hts iwX5_init_X5 tyX5 tyX5_ok nmX5 hown hK hP hD hS 0 rfl rfl 6 (by decide) (hts _ fwX5_init_23) (fun _ h9 => h9) rfl hin rfl (by decide +kernel) rfl rfl (Nat.le_of_ble_eq_true rfl) dX5_init_39 (fun H locs hP hD hS => ?_)
  have hP : va_P (dC, dI) vwCl [(h0, .inr (5, [.int 0, .int 10, .int 0, .ref a1, .ref a2, .ref a3, .ref a4, .null, .null, .null, .int 0, .null, .null, .null, .null, .int 0, .int 0, .int 0, .null, .int 0, .null, .null])), (a1, .inl (cI, 10, .inl (fun _ => 0))), (a2, .inl (cI, 40, .inl (fun _ => 0))), (a3, .inl (cI, 40, .inl (fun _ => 0))), (a4, .inl (cI, 40, .inl (fun _ => 0)))] H := hP
  have hD : va_D A [(h0, .inr (5, [.int 0, .int 10, .int 0, .ref a1, .ref a2, .ref a3, .ref a4, .null, .null, .null, .int 0, .null, .null, .null, .null, .int 0, .int 0, .int 0, .null, .int 0, .null, .null])), (a1, .inl (cI, 10, .inl (fun _ => 0))), (a2, .inl (cI, 40, .inl (fun _ => 0))), (a3, .inl (cI, 40, .inl (fun _ => 0))), (a4, .inl (cI, 40, .inl (fun _ => 0)))] := hD
  refine lv_aload_n hx hb dX5_init_42 rfl (lv_at hl 0 rfl) ?_
  refine lv_bipush (v := 40) hx hb dX5_init_43 (by decide) ?_
  refine va_newa (D := (dC, dI)) (atype := .int) (ty := .int) (N' := 40) (a0 := (40, .inl (fun _ => 0))) hx hb (hts _ awX5_init_I) rfl hK hP hD hS hA (fun _ => rfl) (by decide) (by decide) (by decide) (Nat.le_of_ble_eq_true rfl) (Nat.le_of_ble_eq_true rfl) dX5_init_45 (fun a5 cA H hK1 hP hD hS => ?_)
  have hcA : cI = cA := (arr_I hK hK1).symm
  subst hcA
  refine W.widen (k := 5) (n := 170) (by decide) (by decide) ?_
  have hP : va_P (dC, dI) vwCl [(h0, .inr (5, [.int 0, .int 10, .int 0, .ref a1, .ref a2, .ref a3, .ref a4, .null, .null, .null, .int 0, .null, .null, .null, .null, .int 0, .int 0, .int 0, .null, .int 0, .null, .null])), (a1, .inl (cI, 10, .inl (fun _ => 0))), (a2, .inl (cI, 40, .inl (fun _ => 0))), (a3, .inl (cI, 40, .inl (fun _ => 0))), (a4, .inl (cI, 40, .inl (fun _ => 0))), (a5, .inl (cI, 40, .inl (fun _ => 0)))] H := hP
  have hD : va_D A [(h0, .inr (5, [.int 0, .int 10, .int 0, .ref a1, .ref a2, .ref a3, .ref a4, .null, .null, .null, .int 0, .null, .null, .null, .null, .int 0, .int 0, .int 0, .null, .int 0, .null, .null])), (a1, .inl (cI, 10, .inl (fun _ => 0))), (a2, .inl (cI, 40, .inl (fun _ => 0))), (a3, .inl (cI, 40, .inl (fun _ => 0))), (a4, .inl (cI, 40, .inl (fun _ => 0))), (a5, .inl (cI, 40, .inl (fun _ => 0)))] := hD
  refine va_putF (D := (dC, dI)) (ci := 5) (v := .ref a5) (ty := .array .int) (C := RX5) (T := TX5) (N := 22) hx hb hts iwX5_init_X5 tyX5 tyX5_ok nmX5 hown hK hP hD hS 0 rfl rfl 7 (by decide) (hts _ fwX5_init_26) (fun _ h9 => h9) rfl hin rfl (by decide +kernel) rfl rfl (Nat.le_of_ble_eq_true rfl) dX5_init_47 (fun H locs hP hD hS => ?_)
  have hP : va_P (dC, dI) vwCl [(h0, .inr (5, [.int 0, .int 10, .int 0, .ref a1, .ref a2, .ref a3, .ref a4, .ref a5, .null, .null, .int 0, .null, .null, .null, .null, .int 0, .int 0, .int 0, .null, .int 0, .null, .null])), (a1, .inl (cI, 10, .inl (fun _ => 0))), (a2, .inl (cI, 40, .inl (fun _ => 0))), (a3, .inl (cI, 40, .inl (fun _ => 0))), (a4, .inl (cI, 40, .inl (fun _ => 0))), (a5, .inl (cI, 40, .inl (fun _ => 0)))] H := hP
  have hD : va_D A [(h0, .inr (5, [.int 0, .int 10, .int 0, .ref a1, .ref a2, .ref a3, .ref a4, .ref a5, .null, .null, .int 0, .null, .null, .null, .null, .int 0, .int 0, .int 0, .null, .int 0, .null, .null])), (a1, .inl (cI, 10, .inl (fun _ => 0))), (a2, .inl (cI, 40, .inl (fun _ => 0))), (a3, .inl (cI, 40, .inl (fun _ => 0))), (a4, .inl (cI, 40, .inl (fun _ => 0))), (a5, .inl (cI, 40, .inl (fun _ => 0)))] := hD
  refine lv_aload_n hx hb dX5_init_50 rfl (lv_at hl 0 rfl) ?_
  refine lv_bipush (v := 40) hx hb dX5_init_51 (by decide) ?_
  refine va_newa (D := (dC, dI)) (atype := .boolean) (ty := .boolean) (N' := 40) (a0 := (40, .inl (fun _ => 0))) hx hb (hts _ awX5_init_Z) rfl hK hP hD hS hA (fun _ => rfl) (by decide) (by decide) (by decide) (Nat.le_of_ble_eq_true rfl) (Nat.le_of_ble_eq_true rfl) dX5_init_53 (fun a6 cA H hK1 hP hD hS => ?_)
  have hcA : cZ = cA := (arr_Z hK hK1).symm
  subst hcA
  refine W.widen (k := 6) (n := 210) (by decide) (by decide) ?_
  have hP : va_P (dC, dI) vwCl [(h0, .inr (5, [.int 0, .int 10, .int 0, .ref a1, .ref a2, .ref a3, .ref a4, .ref a5, .null, .null, .int 0, .null, .null, .null, .null, .int 0, .int 0, .int 0, .null, .int 0, .null, .null])), (a1, .inl (cI, 10, .inl (fun _ => 0))), (a2, .inl (cI, 40, .inl (fun _ => 0))), (a3, .inl (cI, 40, .inl (fun _ => 0))), (a4, .inl (cI, 40, .inl (fun _ => 0))), (a5, .inl (cI, 40, .inl (fun _ => 0))), (a6, .inl (cZ, 40, .inl (fun _ => 0)))] H := hP
  have hD : va_D A [(h0, .inr (5, [.int 0, .int 10, .int 0, .ref a1, .ref a2, .ref a3, .ref a4, .ref a5, .null, .null, .int 0, .null, .null, .null, .null, .int 0, .int 0, .int 0, .null, .int 0, .null, .null])), (a1, .inl (cI, 10, .inl (fun _ => 0))), (a2, .inl (cI, 40, .inl (fun _ => 0))), (a3, .inl (cI, 40, .inl (fun _ => 0))), (a4, .inl (cI, 40, .inl (fun _ => 0))), (a5, .inl (cI, 40, .inl (fun _ => 0))), (a6, .inl (cZ, 40, .inl (fun _ => 0)))] := hD
  refine va_putF (D := (dC, dI)) (ci := 5) (v := .ref a6) (ty := .array .boolean) (C := RX5) (T := TX5) (N := 22) hx hb hts iwX5_init_X5 tyX5 tyX5_ok nmX5 hown hK hP hD hS 0 rfl rfl 8 (by decide) (hts _ fwX5_init_29) (fun _ h9 => h9) rfl hin rfl (by decide +kernel) rfl rfl (Nat.le_of_ble_eq_true rfl) dX5_init_55 (fun H locs hP hD hS => ?_)
  have hP : va_P (dC, dI) vwCl [(h0, .inr (5, [.int 0, .int 10, .int 0, .ref a1, .ref a2, .ref a3, .ref a4, .ref a5, .ref a6, .null, .int 0, .null, .null, .null, .null, .int 0, .int 0, .int 0, .null, .int 0, .null, .null])), (a1, .inl (cI, 10, .inl (fun _ => 0))), (a2, .inl (cI, 40, .inl (fun _ => 0))), (a3, .inl (cI, 40, .inl (fun _ => 0))), (a4, .inl (cI, 40, .inl (fun _ => 0))), (a5, .inl (cI, 40, .inl (fun _ => 0))), (a6, .inl (cZ, 40, .inl (fun _ => 0)))] H := hP
  have hD : va_D A [(h0, .inr (5, [.int 0, .int 10, .int 0, .ref a1, .ref a2, .ref a3, .ref a4, .ref a5, .ref a6, .null, .int 0, .null, .null, .null, .null, .int 0, .int 0, .int 0, .null, .int 0, .null, .null])), (a1, .inl (cI, 10, .inl (fun _ => 0))), (a2, .inl (cI, 40, .inl (fun _ => 0))), (a3, .inl (cI, 40, .inl (fun _ => 0))), (a4, .inl (cI, 40, .inl (fun _ => 0))), (a5, .inl (cI, 40, .inl (fun _ => 0))), (a6, .inl (cZ, 40, .inl (fun _ => 0)))] := hD
  refine lv_aload_n hx hb dX5_init_58 rfl (lv_at hl 0 rfl) ?_
  refine lv_bipush (v := 40) hx hb dX5_init_59 (by decide) ?_
  refine va_newa (D := (dC, dI)) (atype := .int) (ty := .int) (N' := 40) (a0 := (40, .inl (fun _ => 0))) hx hb (hts _ awX5_init_I) rfl hK hP hD hS hA (fun _ => rfl) (by decide) (by decide) (by decide) (Nat.le_of_ble_eq_true rfl) (Nat.le_of_ble_eq_true rfl) dX5_init_61 (fun a7 cA H hK1 hP hD hS => ?_)
  have hcA : cI = cA := (arr_I hK hK1).symm
  subst hcA
  refine W.widen (k := 7) (n := 250) (by decide) (by decide) ?_
  have hP : va_P (dC, dI) vwCl [(h0, .inr (5, [.int 0, .int 10, .int 0, .ref a1, .ref a2, .ref a3, .ref a4, .ref a5, .ref a6, .null, .int 0, .null, .null, .null, .null, .int 0, .int 0, .int 0, .null, .int 0, .null, .null])), (a1, .inl (cI, 10, .inl (fun _ => 0))), (a2, .inl (cI, 40, .inl (fun _ => 0))), (a3, .inl (cI, 40, .inl (fun _ => 0))), (a4, .inl (cI, 40, .inl (fun _ => 0))), (a5, .inl (cI, 40, .inl (fun _ => 0))), (a6, .inl (cZ, 40, .inl (fun _ => 0))), (a7, .inl (cI, 40, .inl (fun _ => 0)))] H := hP
  have hD : va_D A [(h0, .inr (5, [.int 0, .int 10, .int 0, .ref a1, .ref a2, .ref a3, .ref a4, .ref a5, .ref a6, .null, .int 0, .null, .null, .null, .null, .int 0, .int 0, .int 0, .null, .int 0, .null, .null])), (a1, .inl (cI, 10, .inl (fun _ => 0))), (a2, .inl (cI, 40, .inl (fun _ => 0))), (a3, .inl (cI, 40, .inl (fun _ => 0))), (a4, .inl (cI, 40, .inl (fun _ => 0))), (a5, .inl (cI, 40, .inl (fun _ => 0))), (a6, .inl (cZ, 40, .inl (fun _ => 0))), (a7, .inl (cI, 40, .inl (fun _ => 0)))] := hD
  refine va_putF (D := (dC, dI)) (ci := 5) (v := .ref a7) (ty := .array .int) (C := RX5) (T := TX5) (N := 22) hx hb hts iwX5_init_X5 tyX5 tyX5_ok nmX5 hown hK hP hD hS 0 rfl rfl 9 (by decide) (hts _ fwX5_init_33) (fun _ h9 => h9) rfl hin rfl (by decide +kernel) rfl rfl (Nat.le_of_ble_eq_true rfl) dX5_init_63 (fun H locs hP hD hS => ?_)
  have hP : va_P (dC, dI) vwCl [(h0, .inr (5, [.int 0, .int 10, .int 0, .ref a1, .ref a2, .ref a3, .ref a4, .ref a5, .ref a6, .ref a7, .int 0, .null, .null, .null, .null, .int 0, .int 0, .int 0, .null, .int 0, .null, .null])), (a1, .inl (cI, 10, .inl (fun _ => 0))), (a2, .inl (cI, 40, .inl (fun _ => 0))), (a3, .inl (cI, 40, .inl (fun _ => 0))), (a4, .inl (cI, 40, .inl (fun _ => 0))), (a5, .inl (cI, 40, .inl (fun _ => 0))), (a6, .inl (cZ, 40, .inl (fun _ => 0))), (a7, .inl (cI, 40, .inl (fun _ => 0)))] H := hP
  have hD : va_D A [(h0, .inr (5, [.int 0, .int 10, .int 0, .ref a1, .ref a2, .ref a3, .ref a4, .ref a5, .ref a6, .ref a7, .int 0, .null, .null, .null, .null, .int 0, .int 0, .int 0, .null, .int 0, .null, .null])), (a1, .inl (cI, 10, .inl (fun _ => 0))), (a2, .inl (cI, 40, .inl (fun _ => 0))), (a3, .inl (cI, 40, .inl (fun _ => 0))), (a4, .inl (cI, 40, .inl (fun _ => 0))), (a5, .inl (cI, 40, .inl (fun _ => 0))), (a6, .inl (cZ, 40, .inl (fun _ => 0))), (a7, .inl (cI, 40, .inl (fun _ => 0)))] := hD
  refine lv_aload_n hx hb dX5_init_66 rfl (lv_at hl 0 rfl) ?_
  refine lv_bipush (v := 40) hx hb dX5_init_67 (by decide) ?_
  refine va_newa (D := (dC, dI)) (atype := .int) (ty := .int) (N' := 40) (a0 := (40, .inl (fun _ => 0))) hx hb (hts _ awX5_init_I) rfl hK hP hD hS hA (fun _ => rfl) (by decide) (by decide) (by decide) (Nat.le_of_ble_eq_true rfl) (Nat.le_of_ble_eq_true rfl) dX5_init_69 (fun a8 cA H hK1 hP hD hS => ?_)
  have hcA : cI = cA := (arr_I hK hK1).symm
  subst hcA
  refine W.widen (k := 8) (n := 290) (by decide) (by decide) ?_
  have hP : va_P (dC, dI) vwCl [(h0, .inr (5, [.int 0, .int 10, .int 0, .ref a1, .ref a2, .ref a3, .ref a4, .ref a5, .ref a6, .ref a7, .int 0, .null, .null, .null, .null, .int 0, .int 0, .int 0, .null, .int 0, .null, .null])), (a1, .inl (cI, 10, .inl (fun _ => 0))), (a2, .inl (cI, 40, .inl (fun _ => 0))), (a3, .inl (cI, 40, .inl (fun _ => 0))), (a4, .inl (cI, 40, .inl (fun _ => 0))), (a5, .inl (cI, 40, .inl (fun _ => 0))), (a6, .inl (cZ, 40, .inl (fun _ => 0))), (a7, .inl (cI, 40, .inl (fun _ => 0))), (a8, .inl (cI, 40, .inl (fun _ => 0)))] H := hP
  have hD : va_D A [(h0, .inr (5, [.int 0, .int 10, .int 0, .ref a1, .ref a2, .ref a3, .ref a4, .ref a5, .ref a6, .ref a7, .int 0, .null, .null, .null, .null, .int 0, .int 0, .int 0, .null, .int 0, .null, .null])), (a1, .inl (cI, 10, .inl (fun _ => 0))), (a2, .inl (cI, 40, .inl (fun _ => 0))), (a3, .inl (cI, 40, .inl (fun _ => 0))), (a4, .inl (cI, 40, .inl (fun _ => 0))), (a5, .inl (cI, 40, .inl (fun _ => 0))), (a6, .inl (cZ, 40, .inl (fun _ => 0))), (a7, .inl (cI, 40, .inl (fun _ => 0))), (a8, .inl (cI, 40, .inl (fun _ => 0)))] := hD
  refine va_putF (D := (dC, dI)) (ci := 5) (v := .ref a8) (ty := .array .int) (C := RX5) (T := TX5) (N := 22) hx hb hts iwX5_init_X5 tyX5 tyX5_ok nmX5 hown hK hP hD hS 0 rfl rfl 11 (by decide) (hts _ fwX5_init_36) (fun _ h9 => h9) rfl hin rfl (by decide +kernel) rfl rfl (Nat.le_of_ble_eq_true rfl) dX5_init_71 (fun H locs hP hD hS => ?_)
  have hP : va_P (dC, dI) vwCl [(h0, .inr (5, [.int 0, .int 10, .int 0, .ref a1, .ref a2, .ref a3, .ref a4, .ref a5, .ref a6, .ref a7, .int 0, .ref a8, .null, .null, .null, .int 0, .int 0, .int 0, .null, .int 0, .null, .null])), (a1, .inl (cI, 10, .inl (fun _ => 0))), (a2, .inl (cI, 40, .inl (fun _ => 0))), (a3, .inl (cI, 40, .inl (fun _ => 0))), (a4, .inl (cI, 40, .inl (fun _ => 0))), (a5, .inl (cI, 40, .inl (fun _ => 0))), (a6, .inl (cZ, 40, .inl (fun _ => 0))), (a7, .inl (cI, 40, .inl (fun _ => 0))), (a8, .inl (cI, 40, .inl (fun _ => 0)))] H := hP
  have hD : va_D A [(h0, .inr (5, [.int 0, .int 10, .int 0, .ref a1, .ref a2, .ref a3, .ref a4, .ref a5, .ref a6, .ref a7, .int 0, .ref a8, .null, .null, .null, .int 0, .int 0, .int 0, .null, .int 0, .null, .null])), (a1, .inl (cI, 10, .inl (fun _ => 0))), (a2, .inl (cI, 40, .inl (fun _ => 0))), (a3, .inl (cI, 40, .inl (fun _ => 0))), (a4, .inl (cI, 40, .inl (fun _ => 0))), (a5, .inl (cI, 40, .inl (fun _ => 0))), (a6, .inl (cZ, 40, .inl (fun _ => 0))), (a7, .inl (cI, 40, .inl (fun _ => 0))), (a8, .inl (cI, 40, .inl (fun _ => 0)))] := hD
  refine lv_aload_n hx hb dX5_init_74 rfl (lv_at hl 0 rfl) ?_
  refine lv_bipush (v := 40) hx hb dX5_init_75 (by decide) ?_
  refine va_newa (D := (dC, dI)) (atype := .int) (ty := .int) (N' := 40) (a0 := (40, .inl (fun _ => 0))) hx hb (hts _ awX5_init_I) rfl hK hP hD hS hA (fun _ => rfl) (by decide) (by decide) (by decide) (Nat.le_of_ble_eq_true rfl) (Nat.le_of_ble_eq_true rfl) dX5_init_77 (fun a9 cA H hK1 hP hD hS => ?_)
  have hcA : cI = cA := (arr_I hK hK1).symm
  subst hcA
  refine W.widen (k := 9) (n := 330) (by decide) (by decide) ?_
  have hP : va_P (dC, dI) vwCl [(h0, .inr (5, [.int 0, .int 10, .int 0, .ref a1, .ref a2, .ref a3, .ref a4, .ref a5, .ref a6, .ref a7, .int 0, .ref a8, .null, .null, .null, .int 0, .int 0, .int 0, .null, .int 0, .null, .null])), (a1, .inl (cI, 10, .inl (fun _ => 0))), (a2, .inl (cI, 40, .inl (fun _ => 0))), (a3, .inl (cI, 40, .inl (fun _ => 0))), (a4, .inl (cI, 40, .inl (fun _ => 0))), (a5, .inl (cI, 40, .inl (fun _ => 0))), (a6, .inl (cZ, 40, .inl (fun _ => 0))), (a7, .inl (cI, 40, .inl (fun _ => 0))), (a8, .inl (cI, 40, .inl (fun _ => 0))), (a9, .inl (cI, 40, .inl (fun _ => 0)))] H := hP
  have hD : va_D A [(h0, .inr (5, [.int 0, .int 10, .int 0, .ref a1, .ref a2, .ref a3, .ref a4, .ref a5, .ref a6, .ref a7, .int 0, .ref a8, .null, .null, .null, .int 0, .int 0, .int 0, .null, .int 0, .null, .null])), (a1, .inl (cI, 10, .inl (fun _ => 0))), (a2, .inl (cI, 40, .inl (fun _ => 0))), (a3, .inl (cI, 40, .inl (fun _ => 0))), (a4, .inl (cI, 40, .inl (fun _ => 0))), (a5, .inl (cI, 40, .inl (fun _ => 0))), (a6, .inl (cZ, 40, .inl (fun _ => 0))), (a7, .inl (cI, 40, .inl (fun _ => 0))), (a8, .inl (cI, 40, .inl (fun _ => 0))), (a9, .inl (cI, 40, .inl (fun _ => 0)))] := hD
  refine va_putF (D := (dC, dI)) (ci := 5) (v := .ref a9) (ty := .array .int) (C := RX5) (T := TX5) (N := 22) hx hb hts iwX5_init_X5 tyX5 tyX5_ok nmX5 hown hK hP hD hS 0 rfl rfl 12 (by decide) (hts _ fwX5_init_39) (fun _ h9 => h9) rfl hin rfl (by decide +kernel) rfl rfl (Nat.le_of_ble_eq_true rfl) dX5_init_79 (fun H locs hP hD hS => ?_)
  have hP : va_P (dC, dI) vwCl [(h0, .inr (5, [.int 0, .int 10, .int 0, .ref a1, .ref a2, .ref a3, .ref a4, .ref a5, .ref a6, .ref a7, .int 0, .ref a8, .ref a9, .null, .null, .int 0, .int 0, .int 0, .null, .int 0, .null, .null])), (a1, .inl (cI, 10, .inl (fun _ => 0))), (a2, .inl (cI, 40, .inl (fun _ => 0))), (a3, .inl (cI, 40, .inl (fun _ => 0))), (a4, .inl (cI, 40, .inl (fun _ => 0))), (a5, .inl (cI, 40, .inl (fun _ => 0))), (a6, .inl (cZ, 40, .inl (fun _ => 0))), (a7, .inl (cI, 40, .inl (fun _ => 0))), (a8, .inl (cI, 40, .inl (fun _ => 0))), (a9, .inl (cI, 40, .inl (fun _ => 0)))] H := hP
  have hD : va_D A [(h0, .inr (5, [.int 0, .int 10, .int 0, .ref a1, .ref a2, .ref a3, .ref a4, .ref a5, .ref a6, .ref a7, .int 0, .ref a8, .ref a9, .null, .null, .int 0, .int 0, .int 0, .null, .int 0, .null, .null])), (a1, .inl (cI, 10, .inl (fun _ => 0))), (a2, .inl (cI, 40, .inl (fun _ => 0))), (a3, .inl (cI, 40, .inl (fun _ => 0))), (a4, .inl (cI, 40, .inl (fun _ => 0))), (a5, .inl (cI, 40, .inl (fun _ => 0))), (a6, .inl (cZ, 40, .inl (fun _ => 0))), (a7, .inl (cI, 40, .inl (fun _ => 0))), (a8, .inl (cI, 40, .inl (fun _ => 0))), (a9, .inl (cI, 40, .inl (fun _ => 0)))] := hD
  refine lv_aload_n hx hb dX5_init_82 rfl (lv_at hl 0 rfl) ?_
  refine lv_bipush (v := 40) hx hb dX5_init_83 (by decide) ?_
  refine va_newa (D := (dC, dI)) (atype := .boolean) (ty := .boolean) (N' := 40) (a0 := (40, .inl (fun _ => 0))) hx hb (hts _ awX5_init_Z) rfl hK hP hD hS hA (fun _ => rfl) (by decide) (by decide) (by decide) (Nat.le_of_ble_eq_true rfl) (Nat.le_of_ble_eq_true rfl) dX5_init_85 (fun a10 cA H hK1 hP hD hS => ?_)
  have hcA : cZ = cA := (arr_Z hK hK1).symm
  subst hcA
  refine W.widen (k := 10) (n := 370) (by decide) (by decide) ?_
  have hP : va_P (dC, dI) vwCl [(h0, .inr (5, [.int 0, .int 10, .int 0, .ref a1, .ref a2, .ref a3, .ref a4, .ref a5, .ref a6, .ref a7, .int 0, .ref a8, .ref a9, .null, .null, .int 0, .int 0, .int 0, .null, .int 0, .null, .null])), (a1, .inl (cI, 10, .inl (fun _ => 0))), (a2, .inl (cI, 40, .inl (fun _ => 0))), (a3, .inl (cI, 40, .inl (fun _ => 0))), (a4, .inl (cI, 40, .inl (fun _ => 0))), (a5, .inl (cI, 40, .inl (fun _ => 0))), (a6, .inl (cZ, 40, .inl (fun _ => 0))), (a7, .inl (cI, 40, .inl (fun _ => 0))), (a8, .inl (cI, 40, .inl (fun _ => 0))), (a9, .inl (cI, 40, .inl (fun _ => 0))), (a10, .inl (cZ, 40, .inl (fun _ => 0)))] H := hP
  have hD : va_D A [(h0, .inr (5, [.int 0, .int 10, .int 0, .ref a1, .ref a2, .ref a3, .ref a4, .ref a5, .ref a6, .ref a7, .int 0, .ref a8, .ref a9, .null, .null, .int 0, .int 0, .int 0, .null, .int 0, .null, .null])), (a1, .inl (cI, 10, .inl (fun _ => 0))), (a2, .inl (cI, 40, .inl (fun _ => 0))), (a3, .inl (cI, 40, .inl (fun _ => 0))), (a4, .inl (cI, 40, .inl (fun _ => 0))), (a5, .inl (cI, 40, .inl (fun _ => 0))), (a6, .inl (cZ, 40, .inl (fun _ => 0))), (a7, .inl (cI, 40, .inl (fun _ => 0))), (a8, .inl (cI, 40, .inl (fun _ => 0))), (a9, .inl (cI, 40, .inl (fun _ => 0))), (a10, .inl (cZ, 40, .inl (fun _ => 0)))] := hD
  refine va_putF (D := (dC, dI)) (ci := 5) (v := .ref a10) (ty := .array .boolean) (C := RX5) (T := TX5) (N := 22) hx hb hts iwX5_init_X5 tyX5 tyX5_ok nmX5 hown hK hP hD hS 0 rfl rfl 13 (by decide) (hts _ fwX5_init_42) (fun _ h9 => h9) rfl hin rfl (by decide +kernel) rfl rfl (Nat.le_of_ble_eq_true rfl) dX5_init_87 (fun H locs hP hD hS => ?_)
  have hP : va_P (dC, dI) vwCl [(h0, .inr (5, [.int 0, .int 10, .int 0, .ref a1, .ref a2, .ref a3, .ref a4, .ref a5, .ref a6, .ref a7, .int 0, .ref a8, .ref a9, .ref a10, .null, .int 0, .int 0, .int 0, .null, .int 0, .null, .null])), (a1, .inl (cI, 10, .inl (fun _ => 0))), (a2, .inl (cI, 40, .inl (fun _ => 0))), (a3, .inl (cI, 40, .inl (fun _ => 0))), (a4, .inl (cI, 40, .inl (fun _ => 0))), (a5, .inl (cI, 40, .inl (fun _ => 0))), (a6, .inl (cZ, 40, .inl (fun _ => 0))), (a7, .inl (cI, 40, .inl (fun _ => 0))), (a8, .inl (cI, 40, .inl (fun _ => 0))), (a9, .inl (cI, 40, .inl (fun _ => 0))), (a10, .inl (cZ, 40, .inl (fun _ => 0)))] H := hP
  have hD : va_D A [(h0, .inr (5, [.int 0, .int 10, .int 0, .ref a1, .ref a2, .ref a3, .ref a4, .ref a5, .ref a6, .ref a7, .int 0, .ref a8, .ref a9, .ref a10, .null, .int 0, .int 0, .int 0, .null, .int 0, .null, .null])), (a1, .inl (cI, 10, .inl (fun _ => 0))), (a2, .inl (cI, 40, .inl (fun _ => 0))), (a3, .inl (cI, 40, .inl (fun _ => 0))), (a4, .inl (cI, 40, .inl (fun _ => 0))), (a5, .inl (cI, 40, .inl (fun _ => 0))), (a6, .inl (cZ, 40, .inl (fun _ => 0))), (a7, .inl (cI, 40, .inl (fun _ => 0))), (a8, .inl (cI, 40, .inl (fun _ => 0))), (a9, .inl (cI, 40, .inl (fun _ => 0))), (a10, .inl (cZ, 40, .inl (fun _ => 0)))] := hD
  refine lv_aload_n hx hb dX5_init_90 rfl (lv_at hl 0 rfl) ?_
  refine lv_bipush (v := 40) hx hb dX5_init_91 (by decide) ?_
  refine va_newa (D := (dC, dI)) (atype := .long) (ty := .long) (N' := 40) (a0 := (40, .inr (.inl (fun _ => 0)))) hx hb (hts _ awX5_init_J) rfl hK hP hD hS hA (fun _ => rfl) (by decide) (by decide) (by decide) (Nat.le_of_ble_eq_true rfl) (Nat.le_of_ble_eq_true rfl) dX5_init_93 (fun a11 cA H hK1 hP hD hS => ?_)
  have hcA : cJ = cA := (arr_J hK hK1).symm
  subst hcA
  refine W.widen (k := 11) (n := 410) (by decide) (by decide) ?_
  have hP : va_P (dC, dI) vwCl [(h0, .inr (5, [.int 0, .int 10, .int 0, .ref a1, .ref a2, .ref a3, .ref a4, .ref a5, .ref a6, .ref a7, .int 0, .ref a8, .ref a9, .ref a10, .null, .int 0, .int 0, .int 0, .null, .int 0, .null, .null])), (a1, .inl (cI, 10, .inl (fun _ => 0))), (a2, .inl (cI, 40, .inl (fun _ => 0))), (a3, .inl (cI, 40, .inl (fun _ => 0))), (a4, .inl (cI, 40, .inl (fun _ => 0))), (a5, .inl (cI, 40, .inl (fun _ => 0))), (a6, .inl (cZ, 40, .inl (fun _ => 0))), (a7, .inl (cI, 40, .inl (fun _ => 0))), (a8, .inl (cI, 40, .inl (fun _ => 0))), (a9, .inl (cI, 40, .inl (fun _ => 0))), (a10, .inl (cZ, 40, .inl (fun _ => 0))), (a11, .inl (cJ, 40, .inr (.inl (fun _ => 0))))] H := hP
  have hD : va_D A [(h0, .inr (5, [.int 0, .int 10, .int 0, .ref a1, .ref a2, .ref a3, .ref a4, .ref a5, .ref a6, .ref a7, .int 0, .ref a8, .ref a9, .ref a10, .null, .int 0, .int 0, .int 0, .null, .int 0, .null, .null])), (a1, .inl (cI, 10, .inl (fun _ => 0))), (a2, .inl (cI, 40, .inl (fun _ => 0))), (a3, .inl (cI, 40, .inl (fun _ => 0))), (a4, .inl (cI, 40, .inl (fun _ => 0))), (a5, .inl (cI, 40, .inl (fun _ => 0))), (a6, .inl (cZ, 40, .inl (fun _ => 0))), (a7, .inl (cI, 40, .inl (fun _ => 0))), (a8, .inl (cI, 40, .inl (fun _ => 0))), (a9, .inl (cI, 40, .inl (fun _ => 0))), (a10, .inl (cZ, 40, .inl (fun _ => 0))), (a11, .inl (cJ, 40, .inr (.inl (fun _ => 0))))] := hD
  refine va_putF (D := (dC, dI)) (ci := 5) (v := .ref a11) (ty := .array .long) (C := RX5) (T := TX5) (N := 22) hx hb hts iwX5_init_X5 tyX5 tyX5_ok nmX5 hown hK hP hD hS 0 rfl rfl 14 (by decide) (hts _ fwX5_init_45) (fun _ h9 => h9) rfl hin rfl (by decide +kernel) rfl rfl (Nat.le_of_ble_eq_true rfl) dX5_init_95 (fun H locs hP hD hS => ?_)
  have hP : va_P (dC, dI) vwCl [(h0, .inr (5, [.int 0, .int 10, .int 0, .ref a1, .ref a2, .ref a3, .ref a4, .ref a5, .ref a6, .ref a7, .int 0, .ref a8, .ref a9, .ref a10, .ref a11, .int 0, .int 0, .int 0, .null, .int 0, .null, .null])), (a1, .inl (cI, 10, .inl (fun _ => 0))), (a2, .inl (cI, 40, .inl (fun _ => 0))), (a3, .inl (cI, 40, .inl (fun _ => 0))), (a4, .inl (cI, 40, .inl (fun _ => 0))), (a5, .inl (cI, 40, .inl (fun _ => 0))), (a6, .inl (cZ, 40, .inl (fun _ => 0))), (a7, .inl (cI, 40, .inl (fun _ => 0))), (a8, .inl (cI, 40, .inl (fun _ => 0))), (a9, .inl (cI, 40, .inl (fun _ => 0))), (a10, .inl (cZ, 40, .inl (fun _ => 0))), (a11, .inl (cJ, 40, .inr (.inl (fun _ => 0))))] H := hP
  have hD : va_D A [(h0, .inr (5, [.int 0, .int 10, .int 0, .ref a1, .ref a2, .ref a3, .ref a4, .ref a5, .ref a6, .ref a7, .int 0, .ref a8, .ref a9, .ref a10, .ref a11, .int 0, .int 0, .int 0, .null, .int 0, .null, .null])), (a1, .inl (cI, 10, .inl (fun _ => 0))), (a2, .inl (cI, 40, .inl (fun _ => 0))), (a3, .inl (cI, 40, .inl (fun _ => 0))), (a4, .inl (cI, 40, .inl (fun _ => 0))), (a5, .inl (cI, 40, .inl (fun _ => 0))), (a6, .inl (cZ, 40, .inl (fun _ => 0))), (a7, .inl (cI, 40, .inl (fun _ => 0))), (a8, .inl (cI, 40, .inl (fun _ => 0))), (a9, .inl (cI, 40, .inl (fun _ => 0))), (a10, .inl (cZ, 40, .inl (fun _ => 0))), (a11, .inl (cJ, 40, .inr (.inl (fun _ => 0))))] := hD
  refine lv_aload_n hx hb dX5_init_98 rfl (lv_at hl 0 rfl) ?_
  refine lv_iconst (v := (-1)) hx hb dX5_init_99 (by decide) ?_
  refine va_put (D := (dC, dI)) (ci := 5) (v := .int (-1)) (ty := .int) (C := RX5) (T := TX5) (N := 22) hx hb hts iwX5_init_X5 tyX5 tyX5_ok nmX5 hown hK hP hD hS 0 rfl rfl 15 (by decide) (hts _ fwX5_init_49) (fun _ h9 => h9) rfl (by decide +kernel) rfl rfl (Nat.le_of_ble_eq_true rfl) dX5_init_100 (fun H locs hP hD hS => ?_)
  have hP : va_P (dC, dI) vwCl [(h0, .inr (5, [.int 0, .int 10, .int 0, .ref a1, .ref a2, .ref a3, .ref a4, .ref a5, .ref a6, .ref a7, .int 0, .ref a8, .ref a9, .ref a10, .ref a11, .int (-1), .int 0, .int 0, .null, .int 0, .null, .null])), (a1, .inl (cI, 10, .inl (fun _ => 0))), (a2, .inl (cI, 40, .inl (fun _ => 0))), (a3, .inl (cI, 40, .inl (fun _ => 0))), (a4, .inl (cI, 40, .inl (fun _ => 0))), (a5, .inl (cI, 40, .inl (fun _ => 0))), (a6, .inl (cZ, 40, .inl (fun _ => 0))), (a7, .inl (cI, 40, .inl (fun _ => 0))), (a8, .inl (cI, 40, .inl (fun _ => 0))), (a9, .inl (cI, 40, .inl (fun _ => 0))), (a10, .inl (cZ, 40, .inl (fun _ => 0))), (a11, .inl (cJ, 40, .inr (.inl (fun _ => 0))))] H := hP
  have hD : va_D A [(h0, .inr (5, [.int 0, .int 10, .int 0, .ref a1, .ref a2, .ref a3, .ref a4, .ref a5, .ref a6, .ref a7, .int 0, .ref a8, .ref a9, .ref a10, .ref a11, .int (-1), .int 0, .int 0, .null, .int 0, .null, .null])), (a1, .inl (cI, 10, .inl (fun _ => 0))), (a2, .inl (cI, 40, .inl (fun _ => 0))), (a3, .inl (cI, 40, .inl (fun _ => 0))), (a4, .inl (cI, 40, .inl (fun _ => 0))), (a5, .inl (cI, 40, .inl (fun _ => 0))), (a6, .inl (cZ, 40, .inl (fun _ => 0))), (a7, .inl (cI, 40, .inl (fun _ => 0))), (a8, .inl (cI, 40, .inl (fun _ => 0))), (a9, .inl (cI, 40, .inl (fun _ => 0))), (a10, .inl (cZ, 40, .inl (fun _ => 0))), (a11, .inl (cJ, 40, .inr (.inl (fun _ => 0))))] := hD
  refine lv_aload_n hx hb dX5_init_103 rfl (lv_at hl 0 rfl) ?_
  refine lv_bipush (v := 40) hx hb dX5_init_104 (by decide) ?_
  refine va_newa (D := (dC, dI)) (atype := .int) (ty := .int) (N' := 40) (a0 := (40, .inl (fun _ => 0))) hx hb (hts _ awX5_init_I) rfl hK hP hD hS hA (fun _ => rfl) (by decide) (by decide) (by decide) (Nat.le_of_ble_eq_true rfl) (Nat.le_of_ble_eq_true rfl) dX5_init_106 (fun a12 cA H hK1 hP hD hS => ?_)
  have hcA : cI = cA := (arr_I hK hK1).symm
  subst hcA
  refine W.widen (k := 12) (n := 450) (by decide) (by decide) ?_
  have hP : va_P (dC, dI) vwCl [(h0, .inr (5, [.int 0, .int 10, .int 0, .ref a1, .ref a2, .ref a3, .ref a4, .ref a5, .ref a6, .ref a7, .int 0, .ref a8, .ref a9, .ref a10, .ref a11, .int (-1), .int 0, .int 0, .null, .int 0, .null, .null])), (a1, .inl (cI, 10, .inl (fun _ => 0))), (a2, .inl (cI, 40, .inl (fun _ => 0))), (a3, .inl (cI, 40, .inl (fun _ => 0))), (a4, .inl (cI, 40, .inl (fun _ => 0))), (a5, .inl (cI, 40, .inl (fun _ => 0))), (a6, .inl (cZ, 40, .inl (fun _ => 0))), (a7, .inl (cI, 40, .inl (fun _ => 0))), (a8, .inl (cI, 40, .inl (fun _ => 0))), (a9, .inl (cI, 40, .inl (fun _ => 0))), (a10, .inl (cZ, 40, .inl (fun _ => 0))), (a11, .inl (cJ, 40, .inr (.inl (fun _ => 0)))), (a12, .inl (cI, 40, .inl (fun _ => 0)))] H := hP
  have hD : va_D A [(h0, .inr (5, [.int 0, .int 10, .int 0, .ref a1, .ref a2, .ref a3, .ref a4, .ref a5, .ref a6, .ref a7, .int 0, .ref a8, .ref a9, .ref a10, .ref a11, .int (-1), .int 0, .int 0, .null, .int 0, .null, .null])), (a1, .inl (cI, 10, .inl (fun _ => 0))), (a2, .inl (cI, 40, .inl (fun _ => 0))), (a3, .inl (cI, 40, .inl (fun _ => 0))), (a4, .inl (cI, 40, .inl (fun _ => 0))), (a5, .inl (cI, 40, .inl (fun _ => 0))), (a6, .inl (cZ, 40, .inl (fun _ => 0))), (a7, .inl (cI, 40, .inl (fun _ => 0))), (a8, .inl (cI, 40, .inl (fun _ => 0))), (a9, .inl (cI, 40, .inl (fun _ => 0))), (a10, .inl (cZ, 40, .inl (fun _ => 0))), (a11, .inl (cJ, 40, .inr (.inl (fun _ => 0)))), (a12, .inl (cI, 40, .inl (fun _ => 0)))] := hD
  refine va_putF (D := (dC, dI)) (ci := 5) (v := .ref a12) (ty := .array .int) (C := RX5) (T := TX5) (N := 22) hx hb hts iwX5_init_X5 tyX5 tyX5_ok nmX5 hown hK hP hD hS 0 rfl rfl 18 (by decide) (hts _ fwX5_init_52) (fun _ h9 => h9) rfl hin rfl (by decide +kernel) rfl rfl (Nat.le_of_ble_eq_true rfl) dX5_init_108 (fun H locs hP hD hS => ?_)
  have hP : va_P (dC, dI) vwCl [(h0, .inr (5, [.int 0, .int 10, .int 0, .ref a1, .ref a2, .ref a3, .ref a4, .ref a5, .ref a6, .ref a7, .int 0, .ref a8, .ref a9, .ref a10, .ref a11, .int (-1), .int 0, .int 0, .ref a12, .int 0, .null, .null])), (a1, .inl (cI, 10, .inl (fun _ => 0))), (a2, .inl (cI, 40, .inl (fun _ => 0))), (a3, .inl (cI, 40, .inl (fun _ => 0))), (a4, .inl (cI, 40, .inl (fun _ => 0))), (a5, .inl (cI, 40, .inl (fun _ => 0))), (a6, .inl (cZ, 40, .inl (fun _ => 0))), (a7, .inl (cI, 40, .inl (fun _ => 0))), (a8, .inl (cI, 40, .inl (fun _ => 0))), (a9, .inl (cI, 40, .inl (fun _ => 0))), (a10, .inl (cZ, 40, .inl (fun _ => 0))), (a11, .inl (cJ, 40, .inr (.inl (fun _ => 0)))), (a12, .inl (cI, 40, .inl (fun _ => 0)))] H := hP
  have hD : va_D A [(h0, .inr (5, [.int 0, .int 10, .int 0, .ref a1, .ref a2, .ref a3, .ref a4, .ref a5, .ref a6, .ref a7, .int 0, .ref a8, .ref a9, .ref a10, .ref a11, .int (-1), .int 0, .int 0, .ref a12, .int 0, .null, .null])), (a1, .inl (cI, 10, .inl (fun _ => 0))), (a2, .inl (cI, 40, .inl (fun _ => 0))), (a3, .inl (cI, 40, .inl (fun _ => 0))), (a4, .inl (cI, 40, .inl (fun _ => 0))), (a5, .inl (cI, 40, .inl (fun _ => 0))), (a6, .inl (cZ, 40, .inl (fun _ => 0))), (a7, .inl (cI, 40, .inl (fun _ => 0))), (a8, .inl (cI, 40, .inl (fun _ => 0))), (a9, .inl (cI, 40, .inl (fun _ => 0))), (a10, .inl (cZ, 40, .inl (fun _ => 0))), (a11, .inl (cJ, 40, .inr (.inl (fun _ => 0)))), (a12, .inl (cI, 40, .inl (fun _ => 0)))] := hD
  refine lv_aload_n hx hb dX5_init_111 rfl (lv_at hl 0 rfl) ?_
  refine lv_bipush (v := 41) hx hb dX5_init_112 (by decide) ?_
  refine va_newa (D := (dC, dI)) (atype := .int) (ty := .int) (N' := 41) (a0 := (41, .inl (fun _ => 0))) hx hb (hts _ awX5_init_I) rfl hK hP hD hS hA (fun _ => rfl) (by decide) (by decide) (by decide) (Nat.le_of_ble_eq_true rfl) (Nat.le_of_ble_eq_true rfl) dX5_init_114 (fun a13 cA H hK1 hP hD hS => ?_)
  have hcA : cI = cA := (arr_I hK hK1).symm
  subst hcA
  refine W.widen (k := 13) (n := 491) (by decide) (by decide) ?_
  have hP : va_P (dC, dI) vwCl [(h0, .inr (5, [.int 0, .int 10, .int 0, .ref a1, .ref a2, .ref a3, .ref a4, .ref a5, .ref a6, .ref a7, .int 0, .ref a8, .ref a9, .ref a10, .ref a11, .int (-1), .int 0, .int 0, .ref a12, .int 0, .null, .null])), (a1, .inl (cI, 10, .inl (fun _ => 0))), (a2, .inl (cI, 40, .inl (fun _ => 0))), (a3, .inl (cI, 40, .inl (fun _ => 0))), (a4, .inl (cI, 40, .inl (fun _ => 0))), (a5, .inl (cI, 40, .inl (fun _ => 0))), (a6, .inl (cZ, 40, .inl (fun _ => 0))), (a7, .inl (cI, 40, .inl (fun _ => 0))), (a8, .inl (cI, 40, .inl (fun _ => 0))), (a9, .inl (cI, 40, .inl (fun _ => 0))), (a10, .inl (cZ, 40, .inl (fun _ => 0))), (a11, .inl (cJ, 40, .inr (.inl (fun _ => 0)))), (a12, .inl (cI, 40, .inl (fun _ => 0))), (a13, .inl (cI, 41, .inl (fun _ => 0)))] H := hP
  have hD : va_D A [(h0, .inr (5, [.int 0, .int 10, .int 0, .ref a1, .ref a2, .ref a3, .ref a4, .ref a5, .ref a6, .ref a7, .int 0, .ref a8, .ref a9, .ref a10, .ref a11, .int (-1), .int 0, .int 0, .ref a12, .int 0, .null, .null])), (a1, .inl (cI, 10, .inl (fun _ => 0))), (a2, .inl (cI, 40, .inl (fun _ => 0))), (a3, .inl (cI, 40, .inl (fun _ => 0))), (a4, .inl (cI, 40, .inl (fun _ => 0))), (a5, .inl (cI, 40, .inl (fun _ => 0))), (a6, .inl (cZ, 40, .inl (fun _ => 0))), (a7, .inl (cI, 40, .inl (fun _ => 0))), (a8, .inl (cI, 40, .inl (fun _ => 0))), (a9, .inl (cI, 40, .inl (fun _ => 0))), (a10, .inl (cZ, 40, .inl (fun _ => 0))), (a11, .inl (cJ, 40, .inr (.inl (fun _ => 0)))), (a12, .inl (cI, 40, .inl (fun _ => 0))), (a13, .inl (cI, 41, .inl (fun _ => 0)))] := hD
  refine va_putF (D := (dC, dI)) (ci := 5) (v := .ref a13) (ty := .array .int) (C := RX5) (T := TX5) (N := 22) hx hb hts iwX5_init_X5 tyX5 tyX5_ok nmX5 hown hK hP hD hS 0 rfl rfl 20 (by decide) (hts _ fwX5_init_55) (fun _ h9 => h9) rfl hin rfl (by decide +kernel) rfl rfl (Nat.le_of_ble_eq_true rfl) dX5_init_116 (fun H locs hP hD hS => ?_)
  have hP : va_P (dC, dI) vwCl [(h0, .inr (5, [.int 0, .int 10, .int 0, .ref a1, .ref a2, .ref a3, .ref a4, .ref a5, .ref a6, .ref a7, .int 0, .ref a8, .ref a9, .ref a10, .ref a11, .int (-1), .int 0, .int 0, .ref a12, .int 0, .ref a13, .null])), (a1, .inl (cI, 10, .inl (fun _ => 0))), (a2, .inl (cI, 40, .inl (fun _ => 0))), (a3, .inl (cI, 40, .inl (fun _ => 0))), (a4, .inl (cI, 40, .inl (fun _ => 0))), (a5, .inl (cI, 40, .inl (fun _ => 0))), (a6, .inl (cZ, 40, .inl (fun _ => 0))), (a7, .inl (cI, 40, .inl (fun _ => 0))), (a8, .inl (cI, 40, .inl (fun _ => 0))), (a9, .inl (cI, 40, .inl (fun _ => 0))), (a10, .inl (cZ, 40, .inl (fun _ => 0))), (a11, .inl (cJ, 40, .inr (.inl (fun _ => 0)))), (a12, .inl (cI, 40, .inl (fun _ => 0))), (a13, .inl (cI, 41, .inl (fun _ => 0)))] H := hP
  have hD : va_D A [(h0, .inr (5, [.int 0, .int 10, .int 0, .ref a1, .ref a2, .ref a3, .ref a4, .ref a5, .ref a6, .ref a7, .int 0, .ref a8, .ref a9, .ref a10, .ref a11, .int (-1), .int 0, .int 0, .ref a12, .int 0, .ref a13, .null])), (a1, .inl (cI, 10, .inl (fun _ => 0))), (a2, .inl (cI, 40, .inl (fun _ => 0))), (a3, .inl (cI, 40, .inl (fun _ => 0))), (a4, .inl (cI, 40, .inl (fun _ => 0))), (a5, .inl (cI, 40, .inl (fun _ => 0))), (a6, .inl (cZ, 40, .inl (fun _ => 0))), (a7, .inl (cI, 40, .inl (fun _ => 0))), (a8, .inl (cI, 40, .inl (fun _ => 0))), (a9, .inl (cI, 40, .inl (fun _ => 0))), (a10, .inl (cZ, 40, .inl (fun _ => 0))), (a11, .inl (cJ, 40, .inr (.inl (fun _ => 0)))), (a12, .inl (cI, 40, .inl (fun _ => 0))), (a13, .inl (cI, 41, .inl (fun _ => 0)))] := hD
  refine lv_aload_n hx hb dX5_init_119 rfl (lv_at hl 0 rfl) ?_
  refine lv_bipush (v := 42) hx hb dX5_init_120 (by decide) ?_
  refine va_newa (D := (dC, dI)) (atype := .long) (ty := .long) (N' := 42) (a0 := (42, .inr (.inl (fun _ => 0)))) hx hb (hts _ awX5_init_J) rfl hK hP hD hS hA (fun _ => rfl) (by decide) (by decide) (by decide) (Nat.le_of_ble_eq_true rfl) (Nat.le_of_ble_eq_true rfl) dX5_init_122 (fun a14 cA H hK1 hP hD hS => ?_)
  have hcA : cJ = cA := (arr_J hK hK1).symm
  subst hcA
  refine W.widen (k := 14) (n := 533) (by decide) (by decide) ?_
  have hP : va_P (dC, dI) vwCl [(h0, .inr (5, [.int 0, .int 10, .int 0, .ref a1, .ref a2, .ref a3, .ref a4, .ref a5, .ref a6, .ref a7, .int 0, .ref a8, .ref a9, .ref a10, .ref a11, .int (-1), .int 0, .int 0, .ref a12, .int 0, .ref a13, .null])), (a1, .inl (cI, 10, .inl (fun _ => 0))), (a2, .inl (cI, 40, .inl (fun _ => 0))), (a3, .inl (cI, 40, .inl (fun _ => 0))), (a4, .inl (cI, 40, .inl (fun _ => 0))), (a5, .inl (cI, 40, .inl (fun _ => 0))), (a6, .inl (cZ, 40, .inl (fun _ => 0))), (a7, .inl (cI, 40, .inl (fun _ => 0))), (a8, .inl (cI, 40, .inl (fun _ => 0))), (a9, .inl (cI, 40, .inl (fun _ => 0))), (a10, .inl (cZ, 40, .inl (fun _ => 0))), (a11, .inl (cJ, 40, .inr (.inl (fun _ => 0)))), (a12, .inl (cI, 40, .inl (fun _ => 0))), (a13, .inl (cI, 41, .inl (fun _ => 0))), (a14, .inl (cJ, 42, .inr (.inl (fun _ => 0))))] H := hP
  have hD : va_D A [(h0, .inr (5, [.int 0, .int 10, .int 0, .ref a1, .ref a2, .ref a3, .ref a4, .ref a5, .ref a6, .ref a7, .int 0, .ref a8, .ref a9, .ref a10, .ref a11, .int (-1), .int 0, .int 0, .ref a12, .int 0, .ref a13, .null])), (a1, .inl (cI, 10, .inl (fun _ => 0))), (a2, .inl (cI, 40, .inl (fun _ => 0))), (a3, .inl (cI, 40, .inl (fun _ => 0))), (a4, .inl (cI, 40, .inl (fun _ => 0))), (a5, .inl (cI, 40, .inl (fun _ => 0))), (a6, .inl (cZ, 40, .inl (fun _ => 0))), (a7, .inl (cI, 40, .inl (fun _ => 0))), (a8, .inl (cI, 40, .inl (fun _ => 0))), (a9, .inl (cI, 40, .inl (fun _ => 0))), (a10, .inl (cZ, 40, .inl (fun _ => 0))), (a11, .inl (cJ, 40, .inr (.inl (fun _ => 0)))), (a12, .inl (cI, 40, .inl (fun _ => 0))), (a13, .inl (cI, 41, .inl (fun _ => 0))), (a14, .inl (cJ, 42, .inr (.inl (fun _ => 0))))] := hD
  refine va_putF (D := (dC, dI)) (ci := 5) (v := .ref a14) (ty := .array .long) (C := RX5) (T := TX5) (N := 22) hx hb hts iwX5_init_X5 tyX5 tyX5_ok nmX5 hown hK hP hD hS 0 rfl rfl 21 (by decide) (hts _ fwX5_init_58) (fun _ h9 => h9) rfl hin rfl (by decide +kernel) rfl rfl (Nat.le_of_ble_eq_true rfl) dX5_init_124 (fun H locs hP hD hS => ?_)
  have hP : va_P (dC, dI) vwCl [(h0, .inr (5, [.int 0, .int 10, .int 0, .ref a1, .ref a2, .ref a3, .ref a4, .ref a5, .ref a6, .ref a7, .int 0, .ref a8, .ref a9, .ref a10, .ref a11, .int (-1), .int 0, .int 0, .ref a12, .int 0, .ref a13, .ref a14])), (a1, .inl (cI, 10, .inl (fun _ => 0))), (a2, .inl (cI, 40, .inl (fun _ => 0))), (a3, .inl (cI, 40, .inl (fun _ => 0))), (a4, .inl (cI, 40, .inl (fun _ => 0))), (a5, .inl (cI, 40, .inl (fun _ => 0))), (a6, .inl (cZ, 40, .inl (fun _ => 0))), (a7, .inl (cI, 40, .inl (fun _ => 0))), (a8, .inl (cI, 40, .inl (fun _ => 0))), (a9, .inl (cI, 40, .inl (fun _ => 0))), (a10, .inl (cZ, 40, .inl (fun _ => 0))), (a11, .inl (cJ, 40, .inr (.inl (fun _ => 0)))), (a12, .inl (cI, 40, .inl (fun _ => 0))), (a13, .inl (cI, 41, .inl (fun _ => 0))), (a14, .inl (cJ, 42, .inr (.inl (fun _ => 0))))] H := hP
  have hD : va_D A [(h0, .inr (5, [.int 0, .int 10, .int 0, .ref a1, .ref a2, .ref a3, .ref a4, .ref a5, .ref a6, .ref a7, .int 0, .ref a8, .ref a9, .ref a10, .ref a11, .int (-1), .int 0, .int 0, .ref a12, .int 0, .ref a13, .ref a14])), (a1, .inl (cI, 10, .inl (fun _ => 0))), (a2, .inl (cI, 40, .inl (fun _ => 0))), (a3, .inl (cI, 40, .inl (fun _ => 0))), (a4, .inl (cI, 40, .inl (fun _ => 0))), (a5, .inl (cI, 40, .inl (fun _ => 0))), (a6, .inl (cZ, 40, .inl (fun _ => 0))), (a7, .inl (cI, 40, .inl (fun _ => 0))), (a8, .inl (cI, 40, .inl (fun _ => 0))), (a9, .inl (cI, 40, .inl (fun _ => 0))), (a10, .inl (cZ, 40, .inl (fun _ => 0))), (a11, .inl (cJ, 40, .inr (.inl (fun _ => 0)))), (a12, .inl (cI, 40, .inl (fun _ => 0))), (a13, .inl (cI, 41, .inl (fun _ => 0))), (a14, .inl (cJ, 42, .inr (.inl (fun _ => 0))))] := hD
  exact rt_v () hx hb hr hlk trivial (fun t ht => ⟨a1, a2, a3, a4, a5, a6, a7, a8, a9, a10, a11, a12, a13, a14, by rw [ht]; exact hP, hD⟩) hS dX5_init_127
