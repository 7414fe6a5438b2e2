abbrev NM : List String := ["java/lang/RuntimeException", "java/lang/Exception"]
def EXs : List (Nat × String) := [(43, "no such distance"), (60, "too many shapes"), (69, "no such shape"), (76, "no such box"), (82, "too many boxes"), (99, "no such colour"), (113, "no such pair"), (115, "a pair has parts 0 and 1"), (120, "no such number of colours"), (122, "no such number of steps"), (149, "no such place in the ring"), (166, "nothing is told under this number")]
def EXd : List MethodName := [Bundle.initS "java/lang/RuntimeException", Bundle.initS "java/lang/Exception", Bundle.initS Bundle.tN]
def EXc : List String := ["java/lang/IllegalArgumentException", "java/lang/IllegalStateException", "java/lang/IndexOutOfBoundsException"]
def EXb : List Cond := EXd.map (fun z => Cond.declares z) ++ EXc.map (fun z => Cond.castable z z)
def EX (A : Nat → Prop) (U : State) : Prop :=
  vx_Zq Bundle.tN "UNASSIGNED_STACK" Bundle.steD A U U.heap ∧ vx_Zq Bundle.tN "SUPPRESSED_SENTINEL" Bundle.listD A U U.heap ∧ (∀ z ∈ EXs, ∃ sa, vk_R RX4 z.1 z.2 sa U) ∧ (∀ z ∈ EXd, va_Nw (.declares z) U) ∧ (∀ z ∈ EXc, va_Nw (.castable z z) U)
theorem EX.at {A B : Nat → Prop} {s U : State} {H : Heap} {locs : List Loc} (h : EX A s) (hS : va_S A s.heap H locs) (hU : U.heap = H) (hW : s.WarmedH U.vm) (hB : ∀ x, B x → A x) : EX B U := by
  obtain ⟨h1, h2, h3, h4, h5⟩ := h
  refine ⟨?_, ?_, fun z hz => ?_, fun z hz => (h4 z hz).warmD hW, fun z hz => (h5 z hz).warmC hW⟩
  · rw [hU]; exact ((h1.kept hS.2.1).moved hW.alike).narrow hB
  · rw [hU]; exact ((h2.kept hS.2.1).moved hW.alike).narrow hB
  · obtain ⟨sa, hs⟩ := h3 z hz
    exact ⟨sa, hs.warm hW⟩
theorem EX.call {A : Nat → Prop} {U : State} (h : EX A U) (g : JFrame) (mk : MethodId) (a : Array Value) : EX A (U.calling g mk a) := by
  obtain ⟨h1, h2, h3, h4, h5⟩ := h
  refine ⟨h1.moved (Vm.Alike.refl U.vm), h2.moved (Vm.Alike.refl U.vm), fun z hz => ?_, fun z hz => va_Nw.same rfl (u := U) rfl (h4 z hz), fun z hz => va_Nw.same rfl (u := U) rfl (h5 z hz)⟩
  obtain ⟨sa, hs⟩ := h3 z hz
  exact ⟨sa, hs.same rfl⟩
def wx (dC : Nat → ClassId) (dI : Nat → Nat → Nat) (cI cJ cZ : ClassId) (q : Nat → Nat) (n sz : Nat) (ws : va_W) (U : State) : Prop := wd dC dI cI cJ cZ q n sz ws U ∧ EX (AF q n sz) U
theorem wx.blind {dC : Nat → ClassId} {dI : Nat → Nat → Nat} {cI cJ cZ : ClassId} {q : Nat → Nat} {n sz : Nat} {ws : va_W} {av : List Value} : FrameBlind (va_Pc av (wx dC dI cI cJ cZ q n sz ws)) := by
  intro a U g mk h
  have h1 := wd.blind a U g mk ⟨h.1, h.2.1⟩
  exact ⟨h1.1, h1.2, h.2.2.call g mk a⟩
theorem wx.at {dC : Nat → ClassId} {dI : Nat → Nat → Nat} {cI cJ cZ : ClassId} {q : Nat → Nat} {n : Nat} {ws : va_W} {s U : State} {H : Heap} {locs : List Loc} (hP : va_P (dC, dI) vwCl ws H) (hK : va_K (dC, dI) vwCl (TY cI cJ cZ) s) (ha : apart q n) (hN : NX s) (hE : EX (AF q n s.heap.size) s) (hS : va_S (AF q n s.heap.size) s.heap H locs) (hU : U.heap = H) (hW : s.WarmedH U.vm) : wx dC dI cI cJ cZ q n H.size ws U :=
  ⟨wd.at hP hK ha hN hU hW, hE.at hS hU hW (AF.mono hS.1)⟩
theorem xmet_of {l : Launch} {y : MethodName} {ws ws' : List Cond} {rm : Room} {Qc : Array Value → State → Outcome → State → Prop} {XC : String → State → State → Prop} {cc : ByteArray} {maxL : Nat} {ret : Option FieldType} {dC : Nat → ClassId} {dI : Nat → Nat → Nat} {cI cJ cZ : ClassId} {q : Nat → Nat} {n sz mc ms : Nat} {W0 : va_W} (av : List Value)
    (hy : plainName y.cls = true) (hw : ws = Cond.code y cc maxL ret :: ws') (hn : (lg_sl av).length ≤ maxL)
    (body : ∀ (p : Program) (e : Env) (s : State) (m : MethodId) (below : List Frame) (meth : Method) (c : Code) (ls : Array Slot), s.heap.size = sz → CX p s m av.toArray meth c cc maxL ret y.cls ws → (∀ x ∈ c.exceptionTable.toList, False) → va_K (dC, dI) vwCl (TY cI cJ cZ) s → apart q n → NX s → EX (AF q n sz) s → lv_has ls maxL (lv_args 0 av) → va_P (dC, dI) vwCl W0 s.heap →
      W p l e rm s m av.toArray below meth c s.heap [] 0 0 (vx_MQ below Qc XC av.toArray s mc ms (AF q n sz)) (F0 m 0 ls [])) :
    vx_Met l y ws rm (va_Pc av (wx dC dI cI cJ cZ q n sz W0)) Qc XC mc ms (AF q n sz) := by
  refine vx_ofW (cc := cc) (maxL := maxL) (ret := ret) hy hw ?_
  intro p e s m args below meth c s₁ B hml hT hv
  obtain ⟨rfl, ⟨hsz, hP, hK, ha, hN⟩, hE⟩ := hv
  rw [lg_entry_eq]
  exact body p e s m below meth c _ hsz ⟨B.exec, B.bytes, B.returns, hml, findClass_of_methodNamed B.named, atoms_spec (ws := ws) B.pre, B.notSynchronized⟩ hT hK ha hN hE (lv_entry av hn) hP
section XROWS
variable {p : Program} {l : Launch} {e : Env} {R : Room} {s : State} {m : MethodId} {args : Array Value} {below : List Frame} {meth : Method} {c : Code} {H : Heap} {locs : List Loc} {cells slots : Nat} {Q : State → Prop}
variable {cc : ByteArray} {pc : Nat} {ls : Array Slot} {rest st0 : List Value} {a : Array Value} {D : va_G} {q : Nat → Nat} {n : Nat} {S : Type} {mc ms : Nat}
abbrev XX (D : va_G) (q : Nat → Nat) (n sz : Nat) {S : Type} (KX : String → S → Prop) (Wf : S → va_W) : String → State → State → Prop := vx_X (fun _ : S => True) (fun E u t => KX E u ∧ va_P D vwCl (Wf u) t.heap) (AF q n sz)
theorem xthrow {Qc : Array Value → State → Outcome → State → Prop} {KX : String → S → Prop} {Wf : S → va_W} {cls text : String} {ik is ic : Nat} {Ts : List Cond}
    (hlt : l.stackTraces = false) (hx : p.tables.exec = Jvm.exec) (hb : c.code = cc) (hown : s.vm.findClass RX4 = some m.cls) (hts : ∀ w ∈ Ts, w.before args s = true) (hT : ∀ x ∈ c.exceptionTable.toList, False) (hml : ls.size = c.maxLocals) (hlk : meth.locks = false) (hE : EX (AF q n s.heap.size) s) (hS : va_S (AF q n s.heap.size) s.heap H locs)
    (hcls : Bundle.fit cls = true) (hk : Cond.classLink RX4 ik cls ∈ Ts) (hini : Cond.initialized cls ∈ Ts) (hs : (is, text) ∈ EXs) (hg : ∀ w ∈ (vx_atS RX4 ic cls NM).filter goodWord, w ∈ Ts) (hbad : ∀ w ∈ (vx_atS RX4 ic cls NM).filter (fun w => !goodWord w), w ∈ EXb) (hot : ∀ w ∈ Cond.classLink RX4 ik cls :: Cond.initialized cls :: vx_atS RX4 ic cls NM, vx_ot w = true)
    (d0 : decode cc pc = .ok (.new ik, 3)) (d3 : decode cc (pc + 3) = .ok (.dup, 1)) (d4 : decode cc (pc + 4) = .ok (.ldc is, 2)) (d6 : decode cc (pc + 6) = .ok (.invokespecial ic, 3)) (d9 : decode cc (pc + 9) = .ok (.athrow, 1))
    (hR1 : 5 < R.frames) (hR2 : (rest.map fun v => v.category).sum + 82 ≤ R.locals) (hR3 : cells + 1 ≤ R.cells) (hR4 : slots + 6 ≤ R.slots) (hc1 : cells + 1 ≤ mc) (hc2 : slots + 6 ≤ ms) (u : S) (h : KX cls u) (hP : va_P D vwCl (Wf u) H) :
    W p l e R s m args below meth c H locs cells slots (vx_MQ below Qc (XX D q n s.heap.size KX Wf) args s mc ms (AF q n s.heap.size)) (F0 m pc ls rest) := by
  obtain ⟨h1, h2, h3, h4, h5⟩ := hE
  obtain ⟨sa, hsa⟩ := h3 _ hs
  refine vx_throwS (names := NM) hx hb hlt hown hcls (by decide +kernel) (hts _ hk) (hts _ hini) hsa ?_ hot h1 h2 hS hml d0 d3 d4 d6 d9 (fun x hx => (hT x hx).elim) hR1 hR2 hR3 hR4 hlk ?_ hS.2.2 hc1 hc2
  · refine vx_hat (B := EXb) (fun w hw => hts w (hg w hw)) hbad ?_
    intro w hw
    rcases List.mem_append.mp hw with hw | hw
    · obtain ⟨z, hz, rfl⟩ := List.mem_map.mp hw
      exact va_Nw.use rfl (h4 z hz)
    · obtain ⟨z, hz, rfl⟩ := List.mem_map.mp hw
      exact va_Nw.use rfl (h5 z hz)
  · intro t _ hz hq
    refine ⟨u, trivial, ⟨h, hP.kept (fun k z hk9 => hq z.1 (hP k z hk9).lt)⟩, Nat.le_trans hS.1 hz, fun x hx1 hx2 => ?_⟩
    rw [hq x (Nat.lt_of_lt_of_le hx1 hS.1)]
    exact hS.2.1 x hx1 hx2
theorem xc_i {SX : Type} {post : Int32 → S → Prop} {Wf : S → va_W} {KX : String → SX → Prop} {WX : SX → va_W} (hr : vx_Run p l e R s m args below meth c H locs cells slots 1 6 (F0 m pc ls st0) rest (va_Qi post (fun u t => va_P D vwCl (Wf u) t.heap) (AF q n H.size) a) (XX D q n H.size KX WX) (AF q n H.size)) (hS : va_S (AF q n s.heap.size) s.heap H locs)
    (kx : ∀ (E : String) (ce : Cell) (q9 : Addr) (u : SX) (H1 : Heap) (locs1 : List Loc), KX E u → va_P D vwCl (WX u) H1 → va_S (AF q n s.heap.size) s.heap H1 locs1 → H1[q9]? = some ce → ce.vm = .none → s.vm.findClass E = some ce.cls → vx_W p l e R s m args below meth c H1 locs1 (cells + 1) (slots + 6) Q (F0 m pc ls rest) q9)
    (kk : ∀ (r : Int32) (u : S) (H1 : Heap) (locs1 : List Loc), post r u → va_P D vwCl (Wf u) H1 → va_S (AF q n s.heap.size) s.heap H1 locs1 → W p l e R s m args below meth c H1 locs1 (cells + 1) (slots + 6) Q (F0 m (pc + 3) ls (.int r :: rest))) : W p l e R s m args below meth c H locs cells slots Q (F0 m pc ls st0) :=
  vx_calli hr hS (fun x _ h => AF.mono hS.1 x h) (AF.mono hS.1) (fun x _ h => AF.mono hS.1 x h)
    (fun E ce q9 u _ H1 locs1 ht _ _ hB _ _ hS hce hcv hcl => kx E ce q9 u H1 locs1 hB.1 (by rw [← ht]; exact hB.2) hS hce hcv hcl)
    (fun r u _ H1 locs1 ht _ hw hB _ _ hS => kk r u H1 locs1 hw (by rw [← ht]; exact hB) hS)
theorem xc_l {SX : Type} {post : Int64 → S → Prop} {Wf : S → va_W} {KX : String → SX → Prop} {WX : SX → va_W} (hr : vx_Run p l e R s m args below meth c H locs cells slots 1 6 (F0 m pc ls st0) rest (va_Ql post (fun u t => va_P D vwCl (Wf u) t.heap) (AF q n H.size) a) (XX D q n H.size KX WX) (AF q n H.size)) (hS : va_S (AF q n s.heap.size) s.heap H locs)
    (kx : ∀ (E : String) (ce : Cell) (q9 : Addr) (u : SX) (H1 : Heap) (locs1 : List Loc), KX E u → va_P D vwCl (WX u) H1 → va_S (AF q n s.heap.size) s.heap H1 locs1 → H1[q9]? = some ce → ce.vm = .none → s.vm.findClass E = some ce.cls → vx_W p l e R s m args below meth c H1 locs1 (cells + 1) (slots + 6) Q (F0 m pc ls rest) q9)
    (kk : ∀ (r : Int64) (u : S) (H1 : Heap) (locs1 : List Loc), post r u → va_P D vwCl (Wf u) H1 → va_S (AF q n s.heap.size) s.heap H1 locs1 → W p l e R s m args below meth c H1 locs1 (cells + 1) (slots + 6) Q (F0 m (pc + 3) ls (.long r :: rest))) : W p l e R s m args below meth c H locs cells slots Q (F0 m pc ls st0) :=
  vx_calll hr hS (fun x _ h => AF.mono hS.1 x h) (AF.mono hS.1) (fun x _ h => AF.mono hS.1 x h)
    (fun E ce q9 u _ H1 locs1 ht _ _ hB _ _ hS hce hcv hcl => kx E ce q9 u H1 locs1 hB.1 (by rw [← ht]; exact hB.2) hS hce hcv hcl)
    (fun r u _ H1 locs1 ht _ hw hB _ _ hS => kk r u H1 locs1 hw (by rw [← ht]; exact hB) hS)
theorem xpass {Qc : Array Value → State → Outcome → State → Prop} {KX : String → S → Prop} {Wf : S → va_W} {E : String} {ce : Cell} {q9 : Addr} (hT : ∀ x ∈ c.exceptionTable.toList, False) (hlk : meth.locks = false) (hS : va_S (AF q n s.heap.size) s.heap H locs) (hce : H[q9]? = some ce) (hcv : ce.vm = .none) (hcl : s.vm.findClass E = some ce.cls) (hc1 : cells ≤ mc) (hc2 : slots ≤ ms) (u : S) (h : KX E u) (hP : va_P D vwCl (Wf u) H) :
    vx_W p l e R s m args below meth c H locs cells slots (vx_MQ below Qc (XX D q n s.heap.size KX Wf) args s mc ms (AF q n s.heap.size)) (F0 m pc ls rest) q9 :=
  vx_out (fun x hx => (hT x hx).elim) hlk hce hcv hcl (fun _ ht _ => ⟨u, trivial, ⟨h, by rw [ht]; exact hP⟩, hS.F ht⟩) hS.2.2 hc1 hc2
end XROWS
theorem xbad_45 : ∀ w ∈ (vx_atS RX4 45 "java/lang/IllegalArgumentException" NM).filter (fun w => !goodWord w), w ∈ EXb := by decide +kernel
theorem xbad_62 : ∀ w ∈ (vx_atS RX4 62 "java/lang/IllegalStateException" NM).filter (fun w => !goodWord w), w ∈ EXb := by decide +kernel
theorem xbad_71 : ∀ w ∈ (vx_atS RX4 71 "java/lang/IndexOutOfBoundsException" NM).filter (fun w => !goodWord w), w ∈ EXb := by decide +kernel
theorem xot_45 : ∀ w ∈ Cond.classLink RX4 41 "java/lang/IllegalArgumentException" :: Cond.initialized "java/lang/IllegalArgumentException" :: vx_atS RX4 45 "java/lang/IllegalArgumentException" NM, vx_ot w = true := by decide +kernel
theorem xot_62 : ∀ w ∈ Cond.classLink RX4 58 "java/lang/IllegalStateException" :: Cond.initialized "java/lang/IllegalStateException" :: vx_atS RX4 62 "java/lang/IllegalStateException" NM, vx_ot w = true := by decide +kernel
theorem xot_71 : ∀ w ∈ Cond.classLink RX4 67 "java/lang/IndexOutOfBoundsException" :: Cond.initialized "java/lang/IndexOutOfBoundsException" :: vx_atS RX4 71 "java/lang/IndexOutOfBoundsException" NM, vx_ot w = true := by decide +kernel
