abbrev TY (cI cJ cZ : ClassId) : List (ClassId × FieldType) := [(cI, .int), (cJ, .long), (cZ, .boolean)]
abbrev WC (q : Nat → Nat) (cI cJ cZ : ClassId) (pg : Int32) (ps : Int32) (nf : Int32) (np : Int32) (nq : Int32) (ns : Int32) (po : Int32) (pt : Int32) (rf : Int32) (rl : Int32) (bx : (Nat → Int32)) (xl : (Nat → Int32)) (xr : (Nat → Int32)) (yl : (Nat → Int32)) (yh : (Nat → Int32)) (ms : (Nat → Int32)) (wt : (Nat → Int32)) (pf : (Nat → Int32)) (nr : (Nat → Int64)) (sl : (Nat → Int32)) (cl : (Nat → Int32)) (hu : (Nat → Int32)) (uu : (Nat → Int32)) (pd : (Nat → Int64)) (ro : (Nat → Int32)) (rc : (Nat → Int64)) : va_W := [(q 0, .inr (4, [.ref (q 1), .ref (q 2), .ref (q 3), .ref (q 4)])), (q 1, .inr (2, [.int pg, .int ps, .ref (q 5), .ref (q 6), .ref (q 7), .ref (q 8), .ref (q 9), .ref (q 10), .ref (q 11)])), (q 2, .inr (0, [.ref (q 1), .int nf, .int np, .int nq, .int ns, .ref (q 12), .ref (q 13), .ref (q 14), .ref (q 15)])), (q 3, .inr (1, [.ref (q 2), .int po, .int pt, .ref (q 16), .ref (q 17), .ref (q 18)])), (q 4, .inr (3, [.ref (q 2), .int rf, .int rl, .ref (q 19), .ref (q 20)])), (q 5, .inl (cI, 10, .inl bx)), (q 6, .inl (cI, 40, .inl xl)), (q 7, .inl (cI, 40, .inl xr)), (q 8, .inl (cI, 40, .inl yl)), (q 9, .inl (cI, 40, .inl yh)), (q 10, .inl (cZ, 40, .inl ms)), (q 11, .inl (cI, 40, .inl wt)), (q 12, .inl (cI, 40, .inl pf)), (q 13, .inl (cJ, 40, .inr (.inl nr))), (q 14, .inl (cZ, 40, .inl sl)), (q 15, .inl (cI, 40, .inl cl)), (q 16, .inl (cI, 40, .inl hu)), (q 17, .inl (cI, 40, .inl uu)), (q 18, .inl (cJ, 4, .inr (.inl pd))), (q 19, .inl (cI, 40, .inl ro)), (q 20, .inl (cJ, 81, .inr (.inl rc)))]
abbrev WM (q : Nat → Nat) (cI cJ cZ : ClassId) (kc : Int32) (kd : Int32) (kn : Int32) (kp : Int32) (ka : Int32) (kt : Int32) (ku : Int32) (kr : Int32) (cn : (Nat → Int32)) (xs : (Nat → Int32)) (ys : (Nat → Int32)) (x2 : (Nat → Int32)) (y2 : (Nat → Int32)) (my : (Nat → Int32)) (tl : (Nat → Int32)) (po : (Nat → Int32)) (so : (Nat → Int32)) (st : (Nat → Int32)) (nr : (Nat → Int64)) (co : (Nat → Int32)) (rg : (Nat → Int32)) (re : (Nat → Int64)) : va_W := [(q 0, .inr (5, [.int kc, .int kd, .int kn, .ref (q 1), .ref (q 2), .ref (q 3), .ref (q 4), .ref (q 5), .ref (q 6), .ref (q 7), .int kp, .ref (q 8), .ref (q 9), .ref (q 10), .ref (q 11), .int ka, .int kt, .int ku, .ref (q 12), .int kr, .ref (q 13), .ref (q 14)])), (q 1, .inl (cI, 10, .inl cn)), (q 2, .inl (cI, 40, .inl xs)), (q 3, .inl (cI, 40, .inl ys)), (q 4, .inl (cI, 40, .inl x2)), (q 5, .inl (cI, 40, .inl y2)), (q 6, .inl (cZ, 40, .inl my)), (q 7, .inl (cI, 40, .inl tl)), (q 8, .inl (cI, 40, .inl po)), (q 9, .inl (cI, 40, .inl so)), (q 10, .inl (cZ, 40, .inl st)), (q 11, .inl (cJ, 40, .inr (.inl nr))), (q 12, .inl (cI, 40, .inl co)), (q 13, .inl (cI, 41, .inl rg)), (q 14, .inl (cJ, 42, .inr (.inl re)))]
def AF (q : Nat → Nat) (n sz : Nat) : Nat → Prop := fun a => (∃ k, k < n ∧ a = q k) ∨ sz ≤ a
def apart (q : Nat → Nat) (n : Nat) : Prop := ∀ i j, i < n → j < n → q i = q j → i = j
theorem AF.mono {q : Nat → Nat} {n a b : Nat} (h : a ≤ b) : ∀ x, AF q n b x → AF q n a x := fun _ h1 => h1.elim Or.inl (fun h2 => Or.inr (Nat.le_trans h h2))
theorem d_of {q : Nat → Nat} {n sz : Nat} {ws : va_W} (hm : ws.map (fun z => z.1) = (List.range n).map q) (ha : apart q n) : va_D (AF q n sz) ws := by
  have key : ∀ (k : Nat) (z : Nat × va_E), ws[k]? = some z → k < n ∧ z.1 = q k := by
    intro k z hz
    have h1 : (ws.map (fun z => z.1))[k]? = some z.1 := by rw [List.getElem?_map, hz]; rfl
    rw [hm, List.getElem?_map] at h1
    by_cases hk : k < n
    · rw [List.getElem?_range hk] at h1
      exact ⟨hk, (Option.some.inj h1).symm⟩
    · rw [List.getElem?_eq_none (by simpa using hk)] at h1
      cases h1
  refine ⟨fun i j a b hi hj hab => ?_, fun k z hz => Or.inl ⟨k, key k z hz⟩⟩
  obtain ⟨a1, a2⟩ := key i a hi
  obtain ⟨b1, b2⟩ := key j b hj
  exact ha i j a1 b1 (by rw [← a2, ← b2]; exact hab)
def NX (U : State) : Prop := va_Nw (.methodLinkNest RX0 89 yX4_bit "MaskParts") U ∧ va_Nw (.methodLinkNest RX1 55 yX4_bit "MaskParts") U ∧ va_Nw (.methodLinkNest RX3 46 yX4_bit "MaskParts") U
theorem NX.same {u U : State} (h : u.vm = U.vm) (n : NX u) : NX U := ⟨va_Nw.same rfl h n.1, va_Nw.same rfl h n.2.1, va_Nw.same rfl h n.2.2⟩
theorem NX.warm {s U : State} (hW : s.WarmedH U.vm) (n : NX s) : NX U := ⟨va_Nw.warmM hW n.1, va_Nw.warmM hW n.2.1, va_Nw.warmM hW n.2.2⟩
def wd (dC : Nat → ClassId) (dI : Nat → Nat → Nat) (cI cJ cZ : ClassId) (q : Nat → Nat) (n sz : Nat) (ws : va_W) (U : State) : Prop :=
  U.heap.size = sz ∧ va_P (dC, dI) vwCl ws U.heap ∧ va_K (dC, dI) vwCl (TY cI cJ cZ) U ∧ apart q n ∧ NX U
theorem wd.blind {dC : Nat → ClassId} {dI : Nat → Nat → Nat} {cI cJ cZ : ClassId} {q : Nat → Nat} {n sz : Nat} {ws : va_W} {av : List Value} : FrameBlind (va_Pc av (wd dC dI cI cJ cZ q n sz ws)) := by
  intro a U g mk h
  obtain ⟨h0, h1, h2, h3, h4, h5⟩ := h
  exact ⟨h0, h1, h2, va_K.moved (u := U) (U := U.calling g mk a) (Vm.Alike.refl U.vm) h3, h4, NX.same (u := U) rfl h5⟩
theorem wd.at {dC : Nat → ClassId} {dI : Nat → Nat → Nat} {cI cJ cZ : ClassId} {q : Nat → Nat} {n : Nat} {ws : va_W} {s U : State} {H : Heap} (hP : va_P (dC, dI) vwCl ws H) (hK : va_K (dC, dI) vwCl (TY cI cJ cZ) s) (ha : apart q n) (hN : NX s) (hU : U.heap = H) (hW : s.WarmedH U.vm) : wd dC dI cI cJ cZ q n H.size ws U :=
  ⟨by rw [hU], by rw [hU]; exact hP, va_K.moved hW.alike hK, ha, hN.warm hW⟩
def pz (sz : Nat) (U : State) : Prop := U.heap.size = sz
theorem pz.blind {av : List Value} {sz : Nat} : FrameBlind (va_Pc av (pz sz)) := fun _ _ _ _ h => h
def CX (p : Program) (s : State) (m : MethodId) (args : Array Value) (meth : Method) (c : Code) (cc : ByteArray) (maxL : Nat) (ret : Option FieldType) (own : String) (Ts : List Cond) : Prop :=
  p.tables.exec = Jvm.exec ∧ c.code = cc ∧ meth.sig.returnType = ret ∧ c.maxLocals = maxL ∧ s.vm.findClass own = some m.cls ∧ (∀ w ∈ Ts, w.before args s = true) ∧ meth.locks = false
theorem met_of {l : Launch} {y : MethodName} {ws ws' : List Cond} {rm : Room} {Qc : Array Value → State → Outcome → State → Prop} {cc : ByteArray} {maxL : Nat} {ret : Option FieldType} {dC : Nat → ClassId} {dI : Nat → Nat → Nat} {cI cJ cZ : ClassId} {q : Nat → Nat} {n sz : Nat} {W0 : va_W} (av : List Value)
    (hy : plainName y.cls = true) (hw : ws = Cond.code y cc maxL ret :: ws') (hn : (lg_sl av).length ≤ maxL)
    (body : ∀ (p : Program) (e : Env) (s : State) (m : MethodId) (below : List Frame) (meth : Method) (c : Code) (ls : Array Slot), s.heap.size = sz → CX p s m av.toArray meth c cc maxL ret y.cls ws → va_K (dC, dI) vwCl (TY cI cJ cZ) s → apart q n → NX s → lv_has ls maxL (lv_args 0 av) → va_P (dC, dI) vwCl W0 s.heap →
      W p l e rm s m av.toArray below meth c s.heap [] 0 0 (MQ below Qc av.toArray s 0 0 (AF q n sz)) (F0 m 0 ls [])) :
    Met l y ws rm (va_Pc av (wd dC dI cI cJ cZ q n sz W0)) Qc 0 0 (AF q n sz) := by
  refine Met.ofW (cc := cc) (maxL := maxL) (ret := ret) hy hw ?_
  intro p e s m args below meth c s₁ B hml hv
  obtain ⟨rfl, hsz, hP, hK, ha, hN⟩ := hv
  rw [lg_entry_eq]
  exact body p e s m below meth c _ hsz ⟨B.exec, B.bytes, B.returns, hml, findClass_of_methodNamed B.named, atoms_spec (ws := ws) B.pre, B.notSynchronized⟩ hK ha hN (lv_entry av hn) hP
theorem met_pz {l : Launch} {y : MethodName} {ws ws' : List Cond} {rm : Room} {Qc : Array Value → State → Outcome → State → Prop} {cc : ByteArray} {maxL : Nat} {ret : Option FieldType} {sz : Nat} (av : List Value)
    (hy : plainName y.cls = true) (hw : ws = Cond.code y cc maxL ret :: ws') (hn : (lg_sl av).length ≤ maxL)
    (body : ∀ (p : Program) (e : Env) (s : State) (m : MethodId) (below : List Frame) (meth : Method) (c : Code) (ls : Array Slot), CX p s m av.toArray meth c cc maxL ret y.cls ws → lv_has ls maxL (lv_args 0 av) →
      W p l e rm s m av.toArray below meth c s.heap [] 0 0 (MQ below Qc av.toArray s 0 0 (fun _ => False)) (F0 m 0 ls [])) :
    Met l y ws rm (va_Pc av (pz sz)) Qc 0 0 (fun _ => False) := by
  refine Met.ofW (cc := cc) (maxL := maxL) (ret := ret) hy hw ?_
  intro p e s m args below meth c s₁ B hml hv
  obtain ⟨rfl, hsz⟩ := hv
  rw [lg_entry_eq]
  exact body p e s m below meth c _ ⟨B.exec, B.bytes, B.returns, hml, findClass_of_methodNamed B.named, atoms_spec (ws := ws) B.pre, B.notSynchronized⟩ (lv_entry av hn)
section ROWS
variable {p : Program} {l : Launch} {e : Env} {R : Room} {s : State} {m : MethodId} {args : Array Value} {below : List Frame} {meth : Method} {c : Code} {H : Heap} {locs : List Loc} {cells slots : Nat} {Q : State → Prop}
variable {cc : ByteArray} {pc : Nat} {ls : Array Slot} {rest st0 : List Value} {a : Array Value} {D : va_G} {q : Nat → Nat} {n : Nat} {S : Type}
theorem cl_i {post : Int32 → S → Prop} {Wf : S → va_W} (hr : va_Run p l e R s m args below meth c H locs cells slots 0 0 (F0 m pc ls st0) rest (va_Qi post (fun u t => va_P D vwCl (Wf u) t.heap) (AF q n H.size) a) (AF q n H.size)) (hS : va_S (AF q n s.heap.size) s.heap H locs)
    (kk : ∀ (r : Int32) (u : S) (H1 : Heap) (locs1 : List Loc), post r u → va_P D vwCl (Wf u) H1 → va_S (AF q n s.heap.size) s.heap H1 locs1 → W p l e R s m args below meth c H1 locs1 cells slots Q (F0 m (pc + 3) ls (.int r :: rest))) : W p l e R s m args below meth c H locs cells slots Q (F0 m pc ls st0) :=
  va_calli hr hS (fun x _ h => AF.mono hS.1 x h) (AF.mono hS.1) (fun r u _ H1 locs1 ht _ hw hB _ _ hS => kk r u H1 locs1 hw (by rw [← ht]; exact hB) hS)
theorem cl_l {post : Int64 → S → Prop} {Wf : S → va_W} (hr : va_Run p l e R s m args below meth c H locs cells slots 0 0 (F0 m pc ls st0) rest (va_Ql post (fun u t => va_P D vwCl (Wf u) t.heap) (AF q n H.size) a) (AF q n H.size)) (hS : va_S (AF q n s.heap.size) s.heap H locs)
    (kk : ∀ (r : Int64) (u : S) (H1 : Heap) (locs1 : List Loc), post r u → va_P D vwCl (Wf u) H1 → va_S (AF q n s.heap.size) s.heap H1 locs1 → W p l e R s m args below meth c H1 locs1 cells slots Q (F0 m (pc + 3) ls (.long r :: rest))) : W p l e R s m args below meth c H locs cells slots Q (F0 m pc ls st0) :=
  va_calll hr hS (fun x _ h => AF.mono hS.1 x h) (AF.mono hS.1) (fun r u _ H1 locs1 ht _ hw hB _ _ hS => kk r u H1 locs1 hw (by rw [← ht]; exact hB) hS)
theorem cl_v {post : S → Prop} {Wf : S → va_W} (hr : va_Run p l e R s m args below meth c H locs cells slots 0 0 (F0 m pc ls st0) rest (va_Qv post (fun u t => va_P D vwCl (Wf u) t.heap) (AF q n H.size) a) (AF q n H.size)) (hS : va_S (AF q n s.heap.size) s.heap H locs)
    (kk : ∀ (u : S) (H1 : Heap) (locs1 : List Loc), post u → va_P D vwCl (Wf u) H1 → va_S (AF q n s.heap.size) s.heap H1 locs1 → W p l e R s m args below meth c H1 locs1 cells slots Q (F0 m (pc + 3) ls rest)) : W p l e R s m args below meth c H locs cells slots Q (F0 m pc ls st0) :=
  va_callv hr hS (fun x _ h => AF.mono hS.1 x h) (AF.mono hS.1) (fun u _ H1 locs1 ht _ hw hB _ _ hS => kk u H1 locs1 hw (by rw [← ht]; exact hB) hS)
theorem kept_all {cl : List vw_C} {ws : va_W} {H1 : Heap} (hP : va_P D cl ws H) (hk : ∀ x : Nat, x < H.size → ¬ (fun _ : Nat => False) x → H1[x]? = H[x]?) : va_P D cl ws H1 := hP.kept (fun k z hz => hk z.1 (hP k z hz).lt (fun h => h))
theorem cl_pi {A0 : Nat → Prop} {H0 : Heap} {cl : List vw_C} {ws : va_W} {post : Int32 → S → Prop} {B : S → State → Prop} (hr : va_Run p l e R s m args below meth c H locs cells slots 0 0 (F0 m pc ls st0) rest (va_Qi post B (fun _ => False) a) (fun _ => False)) (hP : va_P D cl ws H) (hS : va_S A0 H0 H locs)
    (kk : ∀ (r : Int32) (u : S) (H1 : Heap) (locs1 : List Loc), post r u → va_P D cl ws H1 → va_S A0 H0 H1 locs1 → W p l e R s m args below meth c H1 locs1 cells slots Q (F0 m (pc + 3) ls (.int r :: rest))) : W p l e R s m args below meth c H locs cells slots Q (F0 m pc ls st0) :=
  va_calli hr hS (fun _ _ h => h.elim) (fun _ h => h.elim) (fun r u _ H1 locs1 _ _ hw _ _ hk hS => kk r u H1 locs1 hw (kept_all hP hk) hS)
theorem cl_pl {A0 : Nat → Prop} {H0 : Heap} {cl : List vw_C} {ws : va_W} {post : Int64 → S → Prop} {B : S → State → Prop} (hr : va_Run p l e R s m args below meth c H locs cells slots 0 0 (F0 m pc ls st0) rest (va_Ql post B (fun _ => False) a) (fun _ => False)) (hP : va_P D cl ws H) (hS : va_S A0 H0 H locs)
    (kk : ∀ (r : Int64) (u : S) (H1 : Heap) (locs1 : List Loc), post r u → va_P D cl ws H1 → va_S A0 H0 H1 locs1 → W p l e R s m args below meth c H1 locs1 cells slots Q (F0 m (pc + 3) ls (.long r :: rest))) : W p l e R s m args below meth c H locs cells slots Q (F0 m pc ls st0) :=
  va_calll hr hS (fun _ _ h => h.elim) (fun _ h => h.elim) (fun r u _ H1 locs1 _ _ hw _ _ hk hS => kk r u H1 locs1 hw (kept_all hP hk) hS)
theorem cl_qi {A0 : Nat → Prop} {H0 : Heap} {post : Int32 → S → Prop} {B : S → State → Prop} (hr : va_Run p l e R s m args below meth c H locs cells slots 0 0 (F0 m pc ls st0) rest (va_Qi post B (fun _ => False) a) (fun _ => False)) (hS : va_S A0 H0 H locs)
    (kk : ∀ (r : Int32) (u : S) (H1 : Heap) (locs1 : List Loc), post r u → va_S A0 H0 H1 locs1 → W p l e R s m args below meth c H1 locs1 cells slots Q (F0 m (pc + 3) ls (.int r :: rest))) : W p l e R s m args below meth c H locs cells slots Q (F0 m pc ls st0) :=
  va_calli hr hS (fun _ _ h => h.elim) (fun _ h => h.elim) (fun r u _ H1 locs1 _ _ hw _ _ _ hS => kk r u H1 locs1 hw hS)
theorem w_go {Pw : Heap → Prop} {A : Nat → Prop} {g : JFrame} (k : ∀ (H : Heap) (locs : List Loc), Pw H → va_S A s.heap H locs → W p l e R s m args below meth c H locs cells slots Q g) (h : Pw s.heap) : W p l e R s m args below meth c s.heap [] cells slots Q g := k _ _ h va_S.rf
variable {A : Nat → Prop} {B : S → State → Prop}
theorem rt_i {post : Int32 → S → Prop} {v : Int32} (u : S) (hx : p.tables.exec = Jvm.exec) (hb : c.code = cc) (hr : meth.sig.returnType = some .int) (hlocks : meth.locks = false) (h : post v u) (hB : ∀ t : State, t.heap = H → B u t) (hS : va_S A s.heap H locs) (d : decode cc pc = .ok (.ireturn, 1)) :
    W p l e R s m args below meth c H locs cells slots (MQ below (va_Qi post B A) args s cells slots A) (F0 m pc ls [.int v]) :=
  W.iret (v := v) hx hb hr (fun t ht _ => ⟨⟨v, u, rfl, h, hB t ht⟩, hS.F ht⟩) hS.2.2 d
theorem rt_z {post : Int32 → S → Prop} {v : Int32} (u : S) (hx : p.tables.exec = Jvm.exec) (hb : c.code = cc) (hr : meth.sig.returnType = some .boolean) (hlocks : meth.locks = false) (hn : narrow .boolean (.int v) = .int v) (h : post v u) (hB : ∀ t : State, t.heap = H → B u t) (hS : va_S A s.heap H locs) (d : decode cc pc = .ok (.ireturn, 1)) :
    W p l e R s m args below meth c H locs cells slots (MQ below (va_Qi post B A) args s cells slots A) (F0 m pc ls [.int v]) :=
  W.zret (v := v) hx hb hr hn (fun t ht _ => ⟨⟨v, u, rfl, h, hB t ht⟩, hS.F ht⟩) hS.2.2 d
theorem rt_l {post : Int64 → S → Prop} {v : Int64} (u : S) (hx : p.tables.exec = Jvm.exec) (hb : c.code = cc) (hr : meth.sig.returnType = some .long) (hlocks : meth.locks = false) (h : post v u) (hB : ∀ t : State, t.heap = H → B u t) (hS : va_S A s.heap H locs) (d : decode cc pc = .ok (.lreturn, 1)) :
    W p l e R s m args below meth c H locs cells slots (MQ below (va_Ql post B A) args s cells slots A) (F0 m pc ls [.long v]) :=
  W.lret (v := v) hx hb hr (fun t ht _ => ⟨⟨v, u, rfl, h, hB t ht⟩, hS.F ht⟩) hS.2.2 d
theorem rt_v {post : S → Prop} (u : S) (hx : p.tables.exec = Jvm.exec) (hb : c.code = cc) (hr : meth.sig.returnType = none) (hlocks : meth.locks = false) (h : post u) (hB : ∀ t : State, t.heap = H → B u t) (hS : va_S A s.heap H locs) (d : decode cc pc = .ok (.return_, 1)) :
    W p l e R s m args below meth c H locs cells slots (MQ below (va_Qv post B A) args s cells slots A) (F0 m pc ls []) :=
  W.vret hx hb hr (fun t ht _ => ⟨⟨u, rfl, h, hB t ht⟩, hS.F ht⟩) hS.2.2 d
end ROWS
theorem pz.at {U : State} {H : Heap} (h : U.heap = H) : pz H.size U := by unfold pz; rw [h]
theorem sw_of (x : Int32) (n : Nat) (hn : n < 2 ^ 31) (h1 : ¬ x.toInt < 0) (h2 : ¬ (n : Int) < x.toInt) : ∃ j : Nat, j ≤ n ∧ x = nI j := by
  have e1 : ((x.toInt.toNat : Nat) : Int) = x.toInt := Int.toNat_of_nonneg (by omega)
  refine ⟨x.toInt.toNat, by omega, ?_⟩
  apply Int32.toInt_inj.mp
  rw [nI_toInt (by omega), e1]
theorem sw_4 (x : Int32) (h1 : ¬ x.toInt < 0) (h2 : ¬ 4 < x.toInt) : x = 0 ∨ x = 1 ∨ x = 2 ∨ x = 3 ∨ x = 4 := by
  obtain ⟨j, hj, rfl⟩ := sw_of x 4 (by decide) h1 h2
  have h3 : j = 0 ∨ j = 1 ∨ j = 2 ∨ j = 3 ∨ j = 4 := by omega
  rcases h3 with rfl | rfl | rfl | rfl | rfl <;> decide
theorem sw_5 (x : Int32) (h1 : ¬ x.toInt < 0) (h2 : ¬ 5 < x.toInt) : x = 0 ∨ x = 1 ∨ x = 2 ∨ x = 3 ∨ x = 4 ∨ x = 5 := by
  obtain ⟨j, hj, rfl⟩ := sw_of x 5 (by decide) h1 h2
  have h3 : j = 0 ∨ j = 1 ∨ j = 2 ∨ j = 3 ∨ j = 4 ∨ j = 5 := by omega
  rcases h3 with rfl | rfl | rfl | rfl | rfl | rfl <;> decide

theorem d_WC {q : Nat → Nat} {cI cJ cZ : ClassId} {sz : Nat} {pg : Int32} {ps : Int32} {nf : Int32} {np : Int32} {nq : Int32} {ns : Int32} {po : Int32} {pt : Int32} {rf : Int32} {rl : Int32} {bx : (Nat → Int32)} {xl : (Nat → Int32)} {xr : (Nat → Int32)} {yl : (Nat → Int32)} {yh : (Nat → Int32)} {ms : (Nat → Int32)} {wt : (Nat → Int32)} {pf : (Nat → Int32)} {nr : (Nat → Int64)} {sl : (Nat → Int32)} {cl : (Nat → Int32)} {hu : (Nat → Int32)} {uu : (Nat → Int32)} {pd : (Nat → Int64)} {ro : (Nat → Int32)} {rc : (Nat → Int64)} (ha : apart q 21) : va_D (AF q 21 sz) (WC q cI cJ cZ pg ps nf np nq ns po pt rf rl bx xl xr yl yh ms wt pf nr sl cl hu uu pd ro rc) := d_of rfl ha
theorem d_WM {q : Nat → Nat} {cI cJ cZ : ClassId} {sz : Nat} {kc : Int32} {kd : Int32} {kn : Int32} {kp : Int32} {ka : Int32} {kt : Int32} {ku : Int32} {kr : Int32} {cn : (Nat → Int32)} {xs : (Nat → Int32)} {ys : (Nat → Int32)} {x2 : (Nat → Int32)} {y2 : (Nat → Int32)} {my : (Nat → Int32)} {tl : (Nat → Int32)} {po : (Nat → Int32)} {so : (Nat → Int32)} {st : (Nat → Int32)} {nr : (Nat → Int64)} {co : (Nat → Int32)} {rg : (Nat → Int32)} {re : (Nat → Int64)} (ha : apart q 15) : va_D (AF q 15 sz) (WM q cI cJ cZ kc kd kn kp ka kt ku kr cn xs ys x2 y2 my tl po so st nr co rg re) := d_of rfl ha
