def R_law : String := "MaskPartsLaw"
def lw_P (b : Addr) (xs : List Int32) (args : Array Value) (s : State) : Prop := args = #[.ref b] ∧ s.IntsAt b xs ∧ xs.length ≤ 3072 ∧ (Jvm.Cond.and given_1 narrow_1).before args s = true
def lw_Q (_ : Array Value) (s : State) (o : Outcome) (t : State) : Prop := o = .returned (some (.int 1)) ∧ Framed s o t [] 1075 9480
def lw_Z (below : List Frame) (a : Array Value) (s : State) : State → Prop := fun t => ∃ o, t.status = .running ∧ Ended t below o ∧ lw_Q a s o t
theorem lw_ret {p : Program} {l : Launch} {e : Env} {s : State} {m : MethodId} {below : List Frame} {meth : Method} {c : Code} {b : Nat} (hx : p.tables.exec = Jvm.exec) (hb : c.code = code) (hr : meth.sig.returnType = ret) (hlocks : meth.locks = false) {pc : Nat} {H : Heap} {ls : Array Slot} (hdg : decode code pc = .ok (.ireturn, 1)) : W p l e room_1 s m #[Value.ref b] below meth c H [] 1075 9480 (lw_Z below #[Value.ref b] s) (F0 m pc ls [.int 1]) := by
  intro T hT X
  obtain ⟨fs, hret, hrun, hended, hW, hframe⟩ := X.leave (v := some (.int 1)) (hlocks := hlocks) (fun h => by rw [hr] at h; cases h)
  have hmeth' : T.vm.method? m = some meth := X.method'
  refine ⟨T.setFrames fs, ?_, .returned (some (.int 1)), hrun, hended, rfl, ⟨_, rfl⟩, hW, hframe⟩
  jvm_step X.here [X.here.top, hx, hb, hdg, hmeth', hr, ret, narrow_b1]
  (try refine ⟨rfl, ?_⟩); (try refine ⟨rfl, ?_⟩)
  first | (intro acts; rw [hret _ acts rfl rfl rfl]) | rw [hret _ _ rfl rfl rfl]
  exact Steps.refl _
def lw_At (p : Program) (s : State) (m : MethodId) (meth : Method) (c : Code) (b L : Nat) (xs : Nat → Int32) : Prop :=
  p.tables.exec = Jvm.exec ∧ c.code = code ∧ meth.sig.returnType = ret ∧ c.maxLocals = 8 ∧ s.vm.findClass R_law = some m.cls ∧ (∀ w ∈ lw_tbl, w.before #[Value.ref b] s = true) ∧ va_X b L xs s s.heap ∧ b < s.heap.size ∧ meth.locks = false ∧ (Jvm.Cond.and given_1 narrow_1).before #[Value.ref b] s = true
theorem apart_of {q : Nat → Nat} {n : Nat} {ws : va_W} {A : Nat → Prop} (hm : ws.map (fun z => z.1) = (List.range n).map q) (hD : va_D A ws) : apart q n ∧ ∀ k, k < n → A (q k) := by
  have key : ∀ k, k < n → ∃ z, ws[k]? = some z ∧ z.1 = q k := by
    intro k hk
    have h1 : (ws.map (fun z => z.1))[k]? = some (q k) := by rw [hm, List.getElem?_map, List.getElem?_range hk]; rfl
    rw [List.getElem?_map] at h1
    cases hz : ws[k]? with
    | none => rw [hz] at h1; cases h1
    | some z => rw [hz] at h1; exact ⟨z, rfl, Option.some.inj h1⟩
  refine ⟨fun i j hi hj e => ?_, fun k hk => ?_⟩
  · obtain ⟨a, a1, a2⟩ := key i hi
    obtain ⟨b, b1, b2⟩ := key j hj
    exact hD.1 i j a b a1 b1 (by rw [a2, b2]; exact e)
  · obtain ⟨a, a1, a2⟩ := key k hk
    rw [← a2]
    exact hD.2 k a a1
theorem kept_of {D : va_G} {q : Nat → Nat} {i0 n : Nat} {ws : va_W} {H H1 : Heap} {B : Nat → Prop} (hm : ws.map (fun z => z.1) = (List.range n).map (fun k => q (i0 + k))) (hP : va_P D vwCl ws H) (hk : ∀ x : Nat, x < H.size → ¬ B x → H1[x]? = H[x]?) (hB : ∀ k, k < n → q (i0 + k) < H.size → ¬ B (q (i0 + k))) : va_P D vwCl ws H1 := by
  refine hP.kept (fun k z hz => ?_)
  have h1 : (ws.map (fun z => z.1))[k]? = some z.1 := by rw [List.getElem?_map, hz]; rfl
  have hkn : k < n := by
    have := (List.getElem?_eq_some_iff.mp h1).1
    rw [hm] at this
    simpa using this
  rw [hm, List.getElem?_map, List.getElem?_range hkn] at h1
  have e1 : q (i0 + k) = z.1 := Option.some.inj h1
  have hlt := (hP k z hz).lt
  rw [← e1] at hlt ⊢
  exact hk _ hlt (hB k hkn hlt)
theorem nAF {q : Nat → Nat} {i0 n j0 N sz k : Nat} (ha : apart q N) (hn : i0 + n ≤ N) (hk : j0 + k < N) (hd : j0 + k < i0 ∨ i0 + n ≤ j0 + k) (hlt : q (j0 + k) < sz) : ¬ AF (fun z => q (i0 + z)) n sz (q (j0 + k)) := by
  rintro (⟨j, hj, e⟩ | h)
  · have := ha (j0 + k) (i0 + j) hk (by omega) e
    omega
  · omega
theorem AF_AL {q : Nat → Nat} {i0 n N a b : Nat} (hq : ∀ k, k < N → a ≤ q k) (hn : i0 + n ≤ N) (h : a ≤ b) : ∀ x, AF (fun z => q (i0 + z)) n b x → a ≤ x := by
  rintro x (⟨j, hj, rfl⟩ | h2)
  · exact hq _ (by omega)
  · omega
section GROWS
variable {p : Program} {l : Launch} {e : Env} {R : Room} {s : State} {m : MethodId} {args : Array Value} {below : List Frame} {meth : Method} {c : Code} {H : Heap} {locs : List Loc} {cells slots : Nat} {Q : State → Prop}
variable {cc : ByteArray} {pc : Nat} {ls : Array Slot} {rest st0 : List Value} {a : Array Value} {D : va_G} {q : Nat → Nat} {S SX : Type} {mc ms : Nat}
theorem ga_i {post : Int32 → S → Prop} {Wf : S → va_W} {WX : SX → va_W} {wm : va_W} (hr : vx_Run p l e R s m args below meth c H locs cells slots mc ms (F0 m pc ls st0) rest (va_Qi post (fun u t => va_P D vwCl (Wf u) t.heap) (AF q 22 H.size) a) (XX D q 22 H.size (fun _ (_ : SX) => False) WX) (AF q 22 H.size)) (hS : va_S (fun x => s.heap.size ≤ x) s.heap H locs) (ha : apart q 37) (hq : ∀ k, k < 37 → s.heap.size ≤ q k) (hm : wm.map (fun z => z.1) = (List.range 15).map (fun k => q (22 + k))) (hM : va_P D vwCl wm H)
    (kk : ∀ (r : Int32) (u : S) (H1 : Heap) (locs1 : List Loc), post r u → va_P D vwCl (Wf u) H1 → va_P D vwCl wm H1 → va_S (fun x => s.heap.size ≤ x) s.heap H1 locs1 → W p l e R s m args below meth c H1 locs1 (cells + mc) (slots + ms) Q (F0 m (pc + 3) ls (.int r :: rest))) : W p l e R s m args below meth c H locs cells slots Q (F0 m pc ls st0) := by
  have hAF : ∀ x, AF q 22 H.size x → s.heap.size ≤ x := fun x h => AF_AL (i0 := 0) (n := 22) hq (by omega) hS.1 x (by simpa using h)
  refine vx_calli hr hS (fun x _ h => hAF x h) hAF (fun x _ h => hAF x h)
    (fun _ _ _ _ _ _ _ _ _ _ hB _ _ _ _ _ _ => hB.1.elim)
    (fun r u _ H1 locs1 ht _ hw hB _ hk hS => kk r u H1 locs1 hw (by rw [← ht]; exact hB) (kept_of hm hM hk (fun k hk1 hlt => ?_)) hS)
  have := nAF (q := q) (i0 := 0) (n := 22) (j0 := 22) (k := k) (sz := H.size) ha (by omega) (by omega) (by omega) hlt
  simpa using this
theorem gb_i {post : Int32 → S → Prop} {Wf : S → va_W} {X : va_E} {wm : va_W} (hr : va_Run p l e R s m args below meth c H locs cells slots 0 0 (F0 m pc ls st0) rest (va_Qi post (fun u t => va_P D vwCl (Wf u) t.heap) (AF q 21 H.size) a) (AF q 21 H.size)) (hS : va_S (fun x => s.heap.size ≤ x) s.heap H locs) (ha : apart q 37) (hq : ∀ k, k < 37 → s.heap.size ≤ q k) (hm : wm.map (fun z => z.1) = (List.range 15).map (fun k => q (22 + k))) (hM : va_P D vwCl wm H) (hO : va_P D vwCl [(q 21, X)] H)
    (kk : ∀ (r : Int32) (u : S) (H1 : Heap) (locs1 : List Loc), post r u → va_P D vwCl (Wf u ++ [(q 21, X)]) H1 → va_P D vwCl wm H1 → va_S (fun x => s.heap.size ≤ x) s.heap H1 locs1 → W p l e R s m args below meth c H1 locs1 cells slots Q (F0 m (pc + 3) ls (.int r :: rest))) : W p l e R s m args below meth c H locs cells slots Q (F0 m pc ls st0) := by
  have hAF : ∀ x, AF q 21 H.size x → s.heap.size ≤ x := fun x h => AF_AL (i0 := 0) (n := 21) hq (by omega) hS.1 x (by simpa using h)
  refine va_calli hr hS (fun x _ h => hAF x h) hAF
    (fun r u _ H1 locs1 ht _ hw hB _ hk hS => kk r u H1 locs1 hw ((show va_P D vwCl (Wf u) H1 by rw [← ht]; exact hB).app (out_kept (fun i j hi hj => ha i j (by omega) (by omega)) hO hk)) (kept_of hm hM hk (fun k hk1 hlt => ?_)) hS)
  have := nAF (q := q) (i0 := 0) (n := 21) (j0 := 22) (k := k) (sz := H.size) ha (by omega) (by omega) (by omega) hlt
  simpa using this
theorem gc_k {wl : va_W} {H1 : Heap} (ha : apart q 37) (hl : wl.map (fun z => z.1) = (List.range 22).map (fun k => q (0 + k))) (hL : va_P D vwCl wl H) (hk : ∀ x : Nat, x < H.size → ¬ AF (fun z => q (22 + z)) 15 H.size x → H1[x]? = H[x]?) : va_P D vwCl wl H1 :=
  kept_of hl hL hk (fun k hk1 hlt => nAF (i0 := 22) (n := 15) (j0 := 0) (k := k) ha (by omega) (by omega) (by omega) hlt)
theorem gc_i {post : Int32 → S → Prop} {Wf : S → va_W} {wl : va_W} (hr : va_Run p l e R s m args below meth c H locs cells slots 0 0 (F0 m pc ls st0) rest (va_Qi post (fun u t => va_P D vwCl (Wf u) t.heap) (AF (fun z => q (22 + z)) 15 H.size) a) (AF (fun z => q (22 + z)) 15 H.size)) (hS : va_S (fun x => s.heap.size ≤ x) s.heap H locs) (ha : apart q 37) (hq : ∀ k, k < 37 → s.heap.size ≤ q k) (hl : wl.map (fun z => z.1) = (List.range 22).map (fun k => q (0 + k))) (hL : va_P D vwCl wl H)
    (kk : ∀ (r : Int32) (u : S) (H1 : Heap) (locs1 : List Loc), post r u → va_P D vwCl wl H1 → va_P D vwCl (Wf u) H1 → va_S (fun x => s.heap.size ≤ x) s.heap H1 locs1 → W p l e R s m args below meth c H1 locs1 cells slots Q (F0 m (pc + 3) ls (.int r :: rest))) : W p l e R s m args below meth c H locs cells slots Q (F0 m pc ls st0) :=
  va_calli hr hS (fun x _ h => AF_AL hq (by omega) hS.1 x h) (AF_AL hq (by omega) hS.1)
    (fun r u _ H1 locs1 ht _ hw hB _ hk hS => kk r u H1 locs1 hw (gc_k ha hl hL hk) (by rw [← ht]; exact hB) hS)
theorem gc_l {post : Int64 → S → Prop} {Wf : S → va_W} {wl : va_W} (hr : va_Run p l e R s m args below meth c H locs cells slots 0 0 (F0 m pc ls st0) rest (va_Ql post (fun u t => va_P D vwCl (Wf u) t.heap) (AF (fun z => q (22 + z)) 15 H.size) a) (AF (fun z => q (22 + z)) 15 H.size)) (hS : va_S (fun x => s.heap.size ≤ x) s.heap H locs) (ha : apart q 37) (hq : ∀ k, k < 37 → s.heap.size ≤ q k) (hl : wl.map (fun z => z.1) = (List.range 22).map (fun k => q (0 + k))) (hL : va_P D vwCl wl H)
    (kk : ∀ (r : Int64) (u : S) (H1 : Heap) (locs1 : List Loc), post r u → va_P D vwCl wl H1 → va_P D vwCl (Wf u) H1 → va_S (fun x => s.heap.size ≤ x) s.heap H1 locs1 → W p l e R s m args below meth c H1 locs1 cells slots Q (F0 m (pc + 3) ls (.long r :: rest))) : W p l e R s m args below meth c H locs cells slots Q (F0 m pc ls st0) :=
  va_calll hr hS (fun x _ h => AF_AL hq (by omega) hS.1 x h) (AF_AL hq (by omega) hS.1)
    (fun r u _ H1 locs1 ht _ hw hB _ hk hS => kk r u H1 locs1 hw (gc_k ha hl hL hk) (by rw [← ht]; exact hB) hS)
end GROWS
def LX (p : Program) (s : State) (m : MethodId) (meth : Method) (c : Code) (b L : Nat) (xs : Nat → Int32) (dC : Nat → ClassId) (dI : Nat → Nat → Nat) (cI cJ cZ : ClassId) (q : Nat → Nat) : Prop :=
  p.tables.exec = Jvm.exec ∧ c.code = cL_law ∧ c.maxLocals = 8 ∧ s.vm.findClass RL = some m.cls ∧ (∀ w ∈ wsL_law, w.before #[Value.ref b] s = true) ∧ va_X b L xs s s.heap ∧ b < s.heap.size ∧ va_K (dC, dI) vwCl (TY cI cJ cZ) s ∧ apart q 37 ∧ (∀ k, k < 37 → s.heap.size ≤ q k) ∧ NX s ∧ EX (fun x => s.heap.size ≤ x) s ∧ NC s
theorem sw_15 (x : Int32) (h1 : ¬ x.toInt < 0) (h2 : ¬ 15 < x.toInt) : x = 0 ∨ x = 1 ∨ x = 2 ∨ x = 3 ∨ x = 4 ∨ x = 5 ∨ x = 6 ∨ x = 7 ∨ x = 8 ∨ x = 9 ∨ x = 10 ∨ x = 11 ∨ x = 12 ∨ x = 13 ∨ x = 14 ∨ x = 15 := by
  obtain ⟨j, hj, rfl⟩ := sw_of x 15 (by decide) h1 h2
  have h3 : j = 0 ∨ j = 1 ∨ j = 2 ∨ j = 3 ∨ j = 4 ∨ j = 5 ∨ j = 6 ∨ j = 7 ∨ j = 8 ∨ j = 9 ∨ j = 10 ∨ j = 11 ∨ j = 12 ∨ j = 13 ∨ j = 14 ∨ j = 15 := by omega
  rcases h3 with rfl | rfl | rfl | rfl | rfl | rfl | rfl | rfl | rfl | rfl | rfl | rfl | rfl | rfl | rfl | rfl <;> decide
