abbrev WL (q : Nat → Nat) (cI cJ cZ : ClassId) (pg : Int32) (ps : Int32) (nf : Int32) (np : Int32) (nq : Int32) (ns : Int32) (po : Int32) (pt : Int32) (rf : Int32) (rl : Int32) (bx : (Nat → Int32)) (xl : (Nat → Int32)) (xr : (Nat → Int32)) (yl : (Nat → Int32)) (yh : (Nat → Int32)) (ms : (Nat → Int32)) (wt : (Nat → Int32)) (pf : (Nat → Int32)) (nr : (Nat → Int64)) (sl : (Nat → Int32)) (cl : (Nat → Int32)) (hu : (Nat → Int32)) (uu : (Nat → Int32)) (pd : (Nat → Int64)) (ro : (Nat → Int32)) (rc : (Nat → Int64)) (ou : (Nat → Int64)) : va_W := [(q 0, .inr (4, [.ref (q 1), .ref (q 2), .ref (q 3), .ref (q 4)])), (q 1, .inr (2, [.int pg, .int ps, .ref (q 5), .ref (q 6), .ref (q 7), .ref (q 8), .ref (q 9), .ref (q 10), .ref (q 11)])), (q 2, .inr (0, [.ref (q 1), .int nf, .int np, .int nq, .int ns, .ref (q 12), .ref (q 13), .ref (q 14), .ref (q 15)])), (q 3, .inr (1, [.ref (q 2), .int po, .int pt, .ref (q 16), .ref (q 17), .ref (q 18)])), (q 4, .inr (3, [.ref (q 2), .int rf, .int rl, .ref (q 19), .ref (q 20)])), (q 5, .inl (cI, 10, .inl bx)), (q 6, .inl (cI, 40, .inl xl)), (q 7, .inl (cI, 40, .inl xr)), (q 8, .inl (cI, 40, .inl yl)), (q 9, .inl (cI, 40, .inl yh)), (q 10, .inl (cZ, 40, .inl ms)), (q 11, .inl (cI, 40, .inl wt)), (q 12, .inl (cI, 40, .inl pf)), (q 13, .inl (cJ, 40, .inr (.inl nr))), (q 14, .inl (cZ, 40, .inl sl)), (q 15, .inl (cI, 40, .inl cl)), (q 16, .inl (cI, 40, .inl hu)), (q 17, .inl (cI, 40, .inl uu)), (q 18, .inl (cJ, 4, .inr (.inl pd))), (q 19, .inl (cI, 40, .inl ro)), (q 20, .inl (cJ, 81, .inr (.inl rc))), (q 21, .inl (cJ, 1, .inr (.inl ou)))]
theorem d_WL {q : Nat → Nat} {cI cJ cZ : ClassId} {sz : Nat} {pg : Int32} {ps : Int32} {nf : Int32} {np : Int32} {nq : Int32} {ns : Int32} {po : Int32} {pt : Int32} {rf : Int32} {rl : Int32} {bx : (Nat → Int32)} {xl : (Nat → Int32)} {xr : (Nat → Int32)} {yl : (Nat → Int32)} {yh : (Nat → Int32)} {ms : (Nat → Int32)} {wt : (Nat → Int32)} {pf : (Nat → Int32)} {nr : (Nat → Int64)} {sl : (Nat → Int32)} {cl : (Nat → Int32)} {hu : (Nat → Int32)} {uu : (Nat → Int32)} {pd : (Nat → Int64)} {ro : (Nat → Int32)} {rc : (Nat → Int64)} {ou : (Nat → Int64)} (ha : apart q 22) : va_D (AF q 22 sz) (WL q cI cJ cZ pg ps nf np nq ns po pt rf rl bx xl xr yl yh ms wt pf nr sl cl hu uu pd ro rc ou) := d_of rfl ha
def NC (U : State) : Prop := va_Nc "java/lang/IllegalArgumentException" "java/lang/IndexOutOfBoundsException" U ∧ va_Nc "java/lang/IllegalStateException" "java/lang/IndexOutOfBoundsException" U ∧ va_Nc "java/lang/IllegalStateException" "java/lang/IllegalArgumentException" U
theorem NC.moved {u U : State} (h : u.vm.Alike U.vm) (n : NC u) : NC U := ⟨n.1.moved h, n.2.1.moved h, n.2.2.moved h⟩
def wl (dC : Nat → ClassId) (dI : Nat → Nat → Nat) (cI cJ cZ : ClassId) (q : Nat → Nat) (sz : Nat) (ws : va_W) (U : State) : Prop := wx dC dI cI cJ cZ q 22 sz ws U ∧ NC U
theorem wl.blind {dC : Nat → ClassId} {dI : Nat → Nat → Nat} {cI cJ cZ : ClassId} {q : Nat → Nat} {sz : Nat} {ws : va_W} {av : List Value} : FrameBlind (va_Pc av (wl dC dI cI cJ cZ q sz ws)) := by
  intro a U g mk h
  have h1 := wx.blind a U g mk ⟨h.1, h.2.1⟩
  exact ⟨h1.1, h1.2, NC.moved (u := U) (Vm.Alike.refl U.vm) h.2.2⟩
theorem lmet_of {l : Launch} {y : MethodName} {ws ws' : List Cond} {rm : Room} {Qc : Array Value → State → Outcome → State → Prop} {XC : String → State → State → Prop} {cc : ByteArray} {maxL : Nat} {ret : Option FieldType} {hh : List (Nat × Nat × Nat × Nat)} {dC : Nat → ClassId} {dI : Nat → Nat → Nat} {cI cJ cZ : ClassId} {q : Nat → Nat} {sz mc ms : Nat} {W0 : va_W} (av : List Value)
    (hy : plainName y.cls = true) (hw : ws = Cond.codeWith y cc maxL ret hh :: ws') (hn : (lg_sl av).length ≤ maxL)
    (body : ∀ (p : Program) (e : Env) (s : State) (m : MethodId) (below : List Frame) (meth : Method) (c : Code) (ls : Array Slot), s.heap.size = sz → CX p s m av.toArray meth c cc maxL ret y.cls ws → c.exceptionTable.toList = tableOf hh → va_K (dC, dI) vwCl (TY cI cJ cZ) s → apart q 22 → NX s → EX (AF q 22 sz) s → NC s → lv_has ls maxL (lv_args 0 av) → va_P (dC, dI) vwCl W0 s.heap →
      W p l e rm s m av.toArray below meth c s.heap [] 0 0 (vx_MQ below Qc XC av.toArray s mc ms (AF q 22 sz)) (F0 m 0 ls [])) :
    vx_Met l y ws rm (va_Pc av (wl dC dI cI cJ cZ q sz W0)) Qc XC mc ms (AF q 22 sz) := by
  refine vx_ofWH (cc := cc) (maxL := maxL) (ret := ret) (hh := hh) hy hw ?_
  intro p e s m args below meth c s₁ B hml hv
  obtain ⟨rfl, ⟨⟨hsz, hP, hK, ha, hN⟩, hE⟩, hC⟩ := hv
  rw [lg_entry_eq]
  have hts : ∀ w ∈ ws, w.before av.toArray s = true := atoms_spec (ws := ws) B.pre
  exact body p e s m below meth c _ hsz ⟨B.exec, B.bytes, B.returns, hml, findClass_of_methodNamed B.named, hts, B.notSynchronized⟩ (vx_table (x := y) B (hts (Cond.codeWith y cc maxL ret hh) (by rw [hw]; exact List.mem_cons_self))) hK ha hN hE hC (lv_entry av hn) hP
theorem AF.up {q : Nat → Nat} {n k a b : Nat} (hn : n ≤ k) (h : a ≤ b) : ∀ x, AF q n b x → AF q k a x := fun _ h1 => h1.elim (fun ⟨j, hj, e⟩ => Or.inl ⟨j, Nat.lt_of_lt_of_le hj hn, e⟩) (fun h2 => Or.inr (Nat.le_trans h h2))
section LROWS
variable {p : Program} {l : Launch} {e : Env} {R : Room} {s : State} {m : MethodId} {args : Array Value} {below : List Frame} {meth : Method} {c : Code} {H : Heap} {locs : List Loc} {cells slots : Nat} {Q : State → Prop}
variable {cc : ByteArray} {pc : Nat} {ls : Array Slot} {rest st0 : List Value} {a : Array Value} {D : va_G} {q : Nat → Nat} {S SX : Type} {mc ms : Nat} {X : va_E}
theorem out_kept {H1 : Heap} (ha : apart q 22) (hO : va_P D vwCl [(q 21, X)] H) (hk : ∀ x : Nat, x < H.size → ¬ AF q 21 H.size x → H1[x]? = H[x]?) : va_P D vwCl [(q 21, X)] H1 := by
  have h0 : q 21 < H.size := (hO 0 _ rfl).lt
  refine hO.kept (fun k z hz => ?_)
  have hk0 : k < 1 := (List.getElem?_eq_some_iff.mp hz).1
  have : k = 0 := by omega
  subst this
  cases hz
  refine hk _ h0 ?_
  rintro (⟨j, hj, e1⟩ | h)
  · have := ha 21 j (by omega) (by omega) e1
    omega
  · omega
theorem xl_i {post : Int32 → S → Prop} {Wf : S → va_W} {KX : String → SX → Prop} {WX : SX → va_W} (hr : vx_Run p l e R s m args below meth c H locs cells slots mc ms (F0 m pc ls st0) rest (va_Qi post (fun u t => va_P D vwCl (Wf u) t.heap) (AF q 21 H.size) a) (XX D q 21 H.size KX WX) (AF q 21 H.size)) (hS : va_S (AF q 22 s.heap.size) s.heap H locs) (ha : apart q 22) (hO : va_P D vwCl [(q 21, X)] H)
    (kx : ∀ (E : String) (ce : Cell) (q9 : Addr) (u : SX) (H1 : Heap) (locs1 : List Loc), KX E u → va_P D vwCl (WX u ++ [(q 21, X)]) H1 → va_S (AF q 22 s.heap.size) s.heap H1 locs1 → H1[q9]? = some ce → ce.vm = .none → s.vm.findClass E = some ce.cls → vx_W p l e R s m args below meth c H1 locs1 (cells + mc) (slots + ms) Q (F0 m pc ls rest) q9)
    (kk : ∀ (r : Int32) (u : S) (H1 : Heap) (locs1 : List Loc), post r u → va_P D vwCl (Wf u ++ [(q 21, X)]) H1 → va_S (AF q 22 s.heap.size) s.heap H1 locs1 → W p l e R s m args below meth c H1 locs1 (cells + mc) (slots + ms) Q (F0 m (pc + 3) ls (.int r :: rest))) : W p l e R s m args below meth c H locs cells slots Q (F0 m pc ls st0) :=
  vx_calli hr hS (fun x _ h => AF.up (by omega) hS.1 x h) (AF.up (by omega) hS.1) (fun x _ h => AF.up (by omega) hS.1 x h)
    (fun E ce q9 u _ H1 locs1 ht _ _ hB _ hk hS hce hcv hcl => kx E ce q9 u H1 locs1 hB.1 ((show va_P D vwCl (WX u) H1 by rw [← ht]; exact hB.2).app (out_kept ha hO hk)) hS hce hcv hcl)
    (fun r u _ H1 locs1 ht _ hw hB _ hk hS => kk r u H1 locs1 hw ((show va_P D vwCl (Wf u) H1 by rw [← ht]; exact hB).app (out_kept ha hO hk)) hS)
theorem xl_l {post : Int64 → S → Prop} {Wf : S → va_W} {KX : String → SX → Prop} {WX : SX → va_W} (hr : vx_Run p l e R s m args below meth c H locs cells slots mc ms (F0 m pc ls st0) rest (va_Ql post (fun u t => va_P D vwCl (Wf u) t.heap) (AF q 21 H.size) a) (XX D q 21 H.size KX WX) (AF q 21 H.size)) (hS : va_S (AF q 22 s.heap.size) s.heap H locs) (ha : apart q 22) (hO : va_P D vwCl [(q 21, X)] H)
    (kx : ∀ (E : String) (ce : Cell) (q9 : Addr) (u : SX) (H1 : Heap) (locs1 : List Loc), KX E u → va_P D vwCl (WX u ++ [(q 21, X)]) H1 → va_S (AF q 22 s.heap.size) s.heap H1 locs1 → H1[q9]? = some ce → ce.vm = .none → s.vm.findClass E = some ce.cls → vx_W p l e R s m args below meth c H1 locs1 (cells + mc) (slots + ms) Q (F0 m pc ls rest) q9)
    (kk : ∀ (r : Int64) (u : S) (H1 : Heap) (locs1 : List Loc), post r u → va_P D vwCl (Wf u ++ [(q 21, X)]) H1 → va_S (AF q 22 s.heap.size) s.heap H1 locs1 → W p l e R s m args below meth c H1 locs1 (cells + mc) (slots + ms) Q (F0 m (pc + 3) ls (.long r :: rest))) : W p l e R s m args below meth c H locs cells slots Q (F0 m pc ls st0) :=
  vx_calll hr hS (fun x _ h => AF.up (by omega) hS.1 x h) (AF.up (by omega) hS.1) (fun x _ h => AF.up (by omega) hS.1 x h)
    (fun E ce q9 u _ H1 locs1 ht _ _ hB _ hk hS hce hcv hcl => kx E ce q9 u H1 locs1 hB.1 ((show va_P D vwCl (WX u) H1 by rw [← ht]; exact hB.2).app (out_kept ha hO hk)) hS hce hcv hcl)
    (fun r u _ H1 locs1 ht _ hw hB _ hk hS => kk r u H1 locs1 hw ((show va_P D vwCl (Wf u) H1 by rw [← ht]; exact hB).app (out_kept ha hO hk)) hS)
end LROWS
theorem EX.cast {A : Nat → Prop} {s : State} {args : Array Value} (h : EX A s) {z : String} (hz : z ∈ EXc) : (Cond.castable z z).before args s = true := va_Nw.use rfl (h.2.2.2.2 z hz)

set_option maxRecDepth 20000 in
theorem lkL_distance_13 : Cond.classLink RL 13 "java/lang/IllegalArgumentException" ∈ wsL_distance := by decide +kernel
abbrev QL_distance (dC : Nat → ClassId) (dI : Nat → Nat → Nat) (cI cJ cZ : ClassId) (q : Nat → Nat) (sz : Nat) (ps : Int32) (np : Int32) (nq : Int32) (ns : Int32) (rl : Int32) (bx : (Nat → Int32)) (xl : (Nat → Int32)) (xr : (Nat → Int32)) (yl : (Nat → Int32)) (yh : (Nat → Int32)) (ms : (Nat → Int32)) (wt : (Nat → Int32)) (pf : (Nat → Int32)) (nr : (Nat → Int64)) (sl : (Nat → Int32)) (cl : (Nat → Int32)) (hu : (Nat → Int32)) (uu : (Nat → Int32)) (pd : (Nat → Int64)) (ro : (Nat → Int32)) (rc : (Nat → Int64)) (K : Int32 → (Int32 × Int32 × Int32 × Int32 × Int32 × (Nat → Int64)) → Prop) : Array Value → State → Outcome → State → Prop := va_Qi (fun (r : Int32) (u : Int32 × Int32 × Int32 × Int32 × Int32 × (Nat → Int64)) => K r u) (fun (u : Int32 × Int32 × Int32 × Int32 × Int32 × (Nat → Int64)) t => va_P (dC, dI) vwCl (WL q cI cJ cZ u.1 ps u.2.1 np nq ns u.2.2.1 u.2.2.2.1 u.2.2.2.2.1 rl bx xl xr yl yh ms wt pf nr sl cl hu uu pd ro rc u.2.2.2.2.2) t.heap) (AF q 22 sz)
def wL_distance (pg : Int32) (nf : Int32) (po : Int32) (pt : Int32) (rf : Int32) (ou : (Nat → Int64)) (v1 : Int32) (K : Int32 → (Int32 × Int32 × Int32 × Int32 × Int32 × (Nat → Int64)) → Prop) : Prop := wX4_distance pg nf po pt rf v1 (fun (r : Int32) (u : Int32 × Int32 × Int32 × Int32 × Int32) => (vp_in 0 1 ∧ (∀ f1 : (Nat → Int64), f1 = vp_updL ou (0 : Int32).toNatClampNeg r.toInt64 → K 0 (u.1, u.2.1, u.2.2.1, u.2.2.2.1, u.2.2.2.2, f1)))) (fun (E : String) (u : Int32 × Int32 × Int32 × Int32 × Int32) => (E = "java/lang/IllegalArgumentException" ∧ K 1 (u.1, u.2.1, u.2.2.1, u.2.2.2.1, u.2.2.2.2, ou)))
set_option maxHeartbeats 4000000 in
set_option maxRecDepth 100000 in
theorem ktL_distance (l : Launch) (hlt : l.stackTraces = false) (dC : Nat → ClassId) (dI : Nat → Nat → Nat) (q : Nat → Nat) (cI cJ cZ : ClassId) (sz : Nat) (pg : Int32) (ps : Int32) (nf : Int32) (np : Int32) (nq : Int32) (ns : Int32) (po : Int32) (pt : Int32) (rf : Int32) (rl : Int32) (bx : (Nat → Int32)) (xl : (Nat → Int32)) (xr : (Nat → Int32)) (yl : (Nat → Int32)) (yh : (Nat → Int32)) (ms : (Nat → Int32)) (wt : (Nat → Int32)) (pf : (Nat → Int32)) (nr : (Nat → Int64)) (sl : (Nat → Int32)) (cl : (Nat → Int32)) (hu : (Nat → Int32)) (uu : (Nat → Int32)) (pd : (Nat → Int64)) (ro : (Nat → Int32)) (rc : (Nat → Int64)) (ou : (Nat → Int64)) (v1 : Int32) {K : Int32 → (Int32 × Int32 × Int32 × Int32 × Int32 × (Nat → Int64)) → Prop} (h : wL_distance pg nf po pt rf ou v1 K) : vx_Met l yL_distance wsL_distance { frames := 7, cells := 1, slots := 6, locals := 114 } (va_Pc [.ref (q 0), .int v1, .ref (q 21)] (wl dC dI cI cJ cZ q sz (WL q cI cJ cZ pg ps nf np nq ns po pt rf rl bx xl xr yl yh ms wt pf nr sl cl hu uu pd ro rc ou))) (QL_distance dC dI cI cJ cZ q sz ps np nq ns rl bx xl xr yl yh ms wt pf nr sl cl hu uu pd ro rc K) (XX (dC, dI) q 22 sz (fun _ (_ : Unit) => False) (fun _ => [])) 1 6 (AF q 22 sz) := by
  refine lmet_of [.ref (q 0), .int v1, .ref (q 21)] (by decide +kernel) rfl (Nat.le_of_ble_eq_true rfl) ?_
  intro p e s m below meth c ls hsz C hT hK ha hN hE hC hl hP
  subst hsz
  obtain ⟨hx, hb, hr, hml, hown, hts, hlk⟩ := id C
  have hl : lv_has ls 4 [(0, .ref (q 0)), (1, .int v1), (2, .ref (q 21))] := hl
  refine w_go (Pw := fun H => va_P (dC, dI) vwCl (WL q cI cJ cZ pg ps nf np nq ns po pt rf rl bx xl xr yl yh ms wt pf nr sl cl hu uu pd ro rc ou) H) (A := AF q 22 s.heap.size) (fun H locs hP hS => ?_) hP
  unfold wL_distance at h
  refine lv_aload_n hx hb dL_distance_0 rfl (lv_at hl 2 rfl) ?_
  refine lv_iconst (v := 0) hx hb dL_distance_1 (by decide) ?_
  refine lv_aload_n hx hb dL_distance_2 rfl (lv_at hl 0 rfl) ?_
  refine lv_iload_n hx hb dL_distance_3 rfl (lv_at hl 1 rfl) ?_
  refine xl_i (vx_runV (As := [.int v1]) (rest := [.int 0, .ref (q 21)]) ⟨hx, hb, hml, hown, hts⟩ (ktX4_distance l hlt dC dI q cI cJ cZ H.size pg ps nf np nq ns po pt rf rl bx xl xr yl yh ms wt pf nr sl cl hu uu pd ro rc v1 h) (cwV 1 hts gL_distance_X4_distance rfl rfl rfl (by decide +kernel) ⟨Nat.le_of_ble_eq_true rfl, Nat.le_of_ble_eq_true rfl⟩) ⟨wx.blind, va_recv hK hP (ci := 4) (q0 := 0) rfl rfl, fun U hU hW => ⟨rfl, wd.at (hP.sub [0, 1, 2, 3, 4, 5, 6, 7, 8, 9, 10, 11, 12, 13, 14, 15, 16, 17, 18, 19, 20] rfl) hK (fun i j hi hj => ha i j (by omega) (by omega)) hN hU hW, hE.at hS hU hW (AF.up (by omega) hS.1)⟩⟩ rfl rfl hl.1 rfl (lv_room (Nat.le_of_ble_eq_true rfl)) dL_distance_4 ⟨Nat.le_of_ble_eq_true rfl, Nat.le_of_ble_eq_true rfl⟩) hS ha (hP.sub [21] rfl)
    (fun E ce q9 u H locs h hP hS hce hcv hcl => by
          obtain ⟨rfl, h⟩ := h
          refine vx_catch (own := RL) (name := "java/lang/IllegalArgumentException") hown [] ⟨0, 9, 12, 13⟩ [] (hT.trans rfl) (fun z hz => absurd hz List.not_mem_nil) (by decide) (by decide) (hts _ lkL_distance_13) (hE.cast (by decide)) hce hcv hcl ?_
          refine lv_astore_n (lv' := [(3, .ref q9), (0, .ref (q 0)), (1, .int v1), (2, .ref (q 21))]) hx hb dL_distance_12 rfl hl (by decide) rfl (fun ls hl => ?_)
          refine lv_iconst (v := 1) hx hb dL_distance_13 (by decide) ?_
          exact vx_ret (rt_i (u.1, u.2.1, u.2.2.1, u.2.2.2.1, u.2.2.2.2, ou) hx hb hr hlk h (fun t ht => by rw [ht]; exact hP) hS dL_distance_14))
    (fun r u H locs h hP hS => ?_)
  have hP : va_P (dC, dI) vwCl (WL q cI cJ cZ u.1 ps u.2.1 np nq ns u.2.2.1 u.2.2.2.1 u.2.2.2.2 rl bx xl xr yl yh ms wt pf nr sl cl hu uu pd ro rc ou) H := hP
  refine lv_i2l hx hb dL_distance_7 rfl ?_
  obtain ⟨b1, h⟩ := h
  refine va_last (D := (dC, dI)) hx hb hK hP (d_WL ha) hS 21 1 rfl rfl b1 dL_distance_8 (fun H locs hP _ hS => ?_)
  obtain ⟨f1, ef1⟩ : ∃ z : (Nat → Int64), z = vp_updL ou (0 : Int32).toNatClampNeg r.toInt64 := ⟨_, rfl⟩
  have h := h f1 ef1
  have hP : va_P (dC, dI) vwCl (WL q cI cJ cZ u.1 ps u.2.1 np nq ns u.2.2.1 u.2.2.2.1 u.2.2.2.2 rl bx xl xr yl yh ms wt pf nr sl cl hu uu pd ro rc f1) H := by rw [ef1]; exact hP
  refine lv_goto (tgt := 15) hx hb dL_distance_9 (by decide) ?_
  refine lv_iconst (v := 0) hx hb dL_distance_15 (by decide) ?_
  exact vx_ret (rt_i (u.1, u.2.1, u.2.2.1, u.2.2.2.1, u.2.2.2.2, f1) hx hb hr hlk h (fun t ht => by rw [ht]; exact hP) hS dL_distance_16)

set_option maxRecDepth 20000 in
theorem lkL_shape_19 : Cond.classLink RL 19 "java/lang/IllegalStateException" ∈ wsL_shape := by decide +kernel
abbrev QL_shape (dC : Nat → ClassId) (dI : Nat → Nat → Nat) (cI cJ cZ : ClassId) (q : Nat → Nat) (sz : Nat) (pg : Int32) (np : Int32) (nq : Int32) (ns : Int32) (rl : Int32) (bx : (Nat → Int32)) (xl : (Nat → Int32)) (xr : (Nat → Int32)) (yl : (Nat → Int32)) (yh : (Nat → Int32)) (ms : (Nat → Int32)) (wt : (Nat → Int32)) (pf : (Nat → Int32)) (nr : (Nat → Int64)) (sl : (Nat → Int32)) (cl : (Nat → Int32)) (hu : (Nat → Int32)) (uu : (Nat → Int32)) (pd : (Nat → Int64)) (ro : (Nat → Int32)) (rc : (Nat → Int64)) (K : Int32 → (Int32 × Int32 × Int32 × Int32 × Int32 × (Nat → Int64)) → Prop) : Array Value → State → Outcome → State → Prop := va_Qi (fun (r : Int32) (u : Int32 × Int32 × Int32 × Int32 × Int32 × (Nat → Int64)) => K r u) (fun (u : Int32 × Int32 × Int32 × Int32 × Int32 × (Nat → Int64)) t => va_P (dC, dI) vwCl (WL q cI cJ cZ pg u.1 u.2.1 np nq ns u.2.2.1 u.2.2.2.1 u.2.2.2.2.1 rl bx xl xr yl yh ms wt pf nr sl cl hu uu pd ro rc u.2.2.2.2.2) t.heap) (AF q 22 sz)
def wL_shape (ps : Int32) (nf : Int32) (po : Int32) (pt : Int32) (rf : Int32) (ou : (Nat → Int64))  (K : Int32 → (Int32 × Int32 × Int32 × Int32 × Int32 × (Nat → Int64)) → Prop) : Prop := wX4_shape ps nf po pt rf  (fun (r : Int32) (u : Int32 × Int32 × Int32 × Int32 × Int32) => (vp_in 0 1 ∧ (∀ f1 : (Nat → Int64), f1 = vp_updL ou (0 : Int32).toNatClampNeg r.toInt64 → K 0 (u.1, u.2.1, u.2.2.1, u.2.2.2.1, u.2.2.2.2, f1)))) (fun (E : String) (u : Int32 × Int32 × Int32 × Int32 × Int32) => (E = "java/lang/IllegalStateException" ∧ K 1 (u.1, u.2.1, u.2.2.1, u.2.2.2.1, u.2.2.2.2, ou)))
set_option maxHeartbeats 4000000 in
set_option maxRecDepth 100000 in
theorem ktL_shape (l : Launch) (hlt : l.stackTraces = false) (dC : Nat → ClassId) (dI : Nat → Nat → Nat) (q : Nat → Nat) (cI cJ cZ : ClassId) (sz : Nat) (pg : Int32) (ps : Int32) (nf : Int32) (np : Int32) (nq : Int32) (ns : Int32) (po : Int32) (pt : Int32) (rf : Int32) (rl : Int32) (bx : (Nat → Int32)) (xl : (Nat → Int32)) (xr : (Nat → Int32)) (yl : (Nat → Int32)) (yh : (Nat → Int32)) (ms : (Nat → Int32)) (wt : (Nat → Int32)) (pf : (Nat → Int32)) (nr : (Nat → Int64)) (sl : (Nat → Int32)) (cl : (Nat → Int32)) (hu : (Nat → Int32)) (uu : (Nat → Int32)) (pd : (Nat → Int64)) (ro : (Nat → Int32)) (rc : (Nat → Int64)) (ou : (Nat → Int64))  {K : Int32 → (Int32 × Int32 × Int32 × Int32 × Int32 × (Nat → Int64)) → Prop} (h : wL_shape ps nf po pt rf ou  K) : vx_Met l yL_shape wsL_shape { frames := 7, cells := 1, slots := 6, locals := 112 } (va_Pc [.ref (q 0), .ref (q 21)] (wl dC dI cI cJ cZ q sz (WL q cI cJ cZ pg ps nf np nq ns po pt rf rl bx xl xr yl yh ms wt pf nr sl cl hu uu pd ro rc ou))) (QL_shape dC dI cI cJ cZ q sz pg np nq ns rl bx xl xr yl yh ms wt pf nr sl cl hu uu pd ro rc K) (XX (dC, dI) q 22 sz (fun _ (_ : Unit) => False) (fun _ => [])) 1 6 (AF q 22 sz) := by
  refine lmet_of [.ref (q 0), .ref (q 21)] (by decide +kernel) rfl (Nat.le_of_ble_eq_true rfl) ?_
  intro p e s m below meth c ls hsz C hT hK ha hN hE hC hl hP
  subst hsz
  obtain ⟨hx, hb, hr, hml, hown, hts, hlk⟩ := id C
  have hl : lv_has ls 3 [(0, .ref (q 0)), (1, .ref (q 21))] := hl
  refine w_go (Pw := fun H => va_P (dC, dI) vwCl (WL q cI cJ cZ pg ps nf np nq ns po pt rf rl bx xl xr yl yh ms wt pf nr sl cl hu uu pd ro rc ou) H) (A := AF q 22 s.heap.size) (fun H locs hP hS => ?_) hP
  unfold wL_shape at h
  refine lv_aload_n hx hb dL_shape_0 rfl (lv_at hl 1 rfl) ?_
  refine lv_iconst (v := 0) hx hb dL_shape_1 (by decide) ?_
  refine lv_aload_n hx hb dL_shape_2 rfl (lv_at hl 0 rfl) ?_
  refine xl_i (vx_runV (As := []) (rest := [.int 0, .ref (q 21)]) ⟨hx, hb, hml, hown, hts⟩ (ktX4_shape l hlt dC dI q cI cJ cZ H.size pg ps nf np nq ns po pt rf rl bx xl xr yl yh ms wt pf nr sl cl hu uu pd ro rc  h) (cwV 0 hts gL_shape_X4_shape rfl rfl rfl (by decide +kernel) ⟨Nat.le_of_ble_eq_true rfl, Nat.le_of_ble_eq_true rfl⟩) ⟨wx.blind, va_recv hK hP (ci := 4) (q0 := 0) rfl rfl, fun U hU hW => ⟨rfl, wd.at (hP.sub [0, 1, 2, 3, 4, 5, 6, 7, 8, 9, 10, 11, 12, 13, 14, 15, 16, 17, 18, 19, 20] rfl) hK (fun i j hi hj => ha i j (by omega) (by omega)) hN hU hW, hE.at hS hU hW (AF.up (by omega) hS.1)⟩⟩ rfl rfl hl.1 rfl (lv_room (Nat.le_of_ble_eq_true rfl)) dL_shape_3 ⟨Nat.le_of_ble_eq_true rfl, Nat.le_of_ble_eq_true rfl⟩) hS ha (hP.sub [21] rfl)
    (fun E ce q9 u H locs h hP hS hce hcv hcl => by
          obtain ⟨rfl, h⟩ := h
          refine vx_catch (own := RL) (name := "java/lang/IllegalStateException") hown [] ⟨0, 8, 11, 19⟩ [] (hT.trans rfl) (fun z hz => absurd hz List.not_mem_nil) (by decide) (by decide) (hts _ lkL_shape_19) (hE.cast (by decide)) hce hcv hcl ?_
          refine lv_astore_n (lv' := [(2, .ref q9), (0, .ref (q 0)), (1, .ref (q 21))]) hx hb dL_shape_11 rfl hl (by decide) rfl (fun ls hl => ?_)
          refine lv_iconst (v := 1) hx hb dL_shape_12 (by decide) ?_
          exact vx_ret (rt_i (u.1, u.2.1, u.2.2.1, u.2.2.2.1, u.2.2.2.2, ou) hx hb hr hlk h (fun t ht => by rw [ht]; exact hP) hS dL_shape_13))
    (fun r u H locs h hP hS => ?_)
  have hP : va_P (dC, dI) vwCl (WL q cI cJ cZ pg u.1 u.2.1 np nq ns u.2.2.1 u.2.2.2.1 u.2.2.2.2 rl bx xl xr yl yh ms wt pf nr sl cl hu uu pd ro rc ou) H := hP
  refine lv_i2l hx hb dL_shape_6 rfl ?_
  obtain ⟨b1, h⟩ := h
  refine va_last (D := (dC, dI)) hx hb hK hP (d_WL ha) hS 21 1 rfl rfl b1 dL_shape_7 (fun H locs hP _ hS => ?_)
  obtain ⟨f1, ef1⟩ : ∃ z : (Nat → Int64), z = vp_updL ou (0 : Int32).toNatClampNeg r.toInt64 := ⟨_, rfl⟩
  have h := h f1 ef1
  have hP : va_P (dC, dI) vwCl (WL q cI cJ cZ pg u.1 u.2.1 np nq ns u.2.2.1 u.2.2.2.1 u.2.2.2.2 rl bx xl xr yl yh ms wt pf nr sl cl hu uu pd ro rc f1) H := by rw [ef1]; exact hP
  refine lv_goto (tgt := 14) hx hb dL_shape_8 (by decide) ?_
  refine lv_iconst (v := 0) hx hb dL_shape_14 (by decide) ?_
  exact vx_ret (rt_i (u.1, u.2.1, u.2.2.1, u.2.2.2.1, u.2.2.2.2, f1) hx hb hr hlk h (fun t ht => by rw [ht]; exact hP) hS dL_shape_15)

set_option maxRecDepth 20000 in
theorem lkL_box_25 : Cond.classLink RL 25 "java/lang/IndexOutOfBoundsException" ∈ wsL_box := by decide +kernel
set_option maxRecDepth 20000 in
theorem lkL_box_13 : Cond.classLink RL 13 "java/lang/IllegalArgumentException" ∈ wsL_box := by decide +kernel
set_option maxRecDepth 20000 in
theorem lkL_box_19 : Cond.classLink RL 19 "java/lang/IllegalStateException" ∈ wsL_box := by decide +kernel
abbrev QL_box (dC : Nat → ClassId) (dI : Nat → Nat → Nat) (cI cJ cZ : ClassId) (q : Nat → Nat) (sz : Nat) (pg : Int32) (ps : Int32) (np : Int32) (nq : Int32) (ns : Int32) (rl : Int32) (ms : (Nat → Int32)) (wt : (Nat → Int32)) (pf : (Nat → Int32)) (nr : (Nat → Int64)) (sl : (Nat → Int32)) (cl : (Nat → Int32)) (hu : (Nat → Int32)) (uu : (Nat → Int32)) (pd : (Nat → Int64)) (ro : (Nat → Int32)) (rc : (Nat → Int64)) (K : Int32 → (Int32 × Int32 × Int32 × Int32 × (Nat → Int32) × (Nat → Int32) × (Nat → Int32) × (Nat → Int32) × (Nat → Int32) × (Nat → Int64)) → Prop) : Array Value → State → Outcome → State → Prop := va_Qi (fun (r : Int32) (u : Int32 × Int32 × Int32 × Int32 × (Nat → Int32) × (Nat → Int32) × (Nat → Int32) × (Nat → Int32) × (Nat → Int32) × (Nat → Int64)) => K r u) (fun (u : Int32 × Int32 × Int32 × Int32 × (Nat → Int32) × (Nat → Int32) × (Nat → Int32) × (Nat → Int32) × (Nat → Int32) × (Nat → Int64)) t => va_P (dC, dI) vwCl (WL q cI cJ cZ pg ps u.1 np nq ns u.2.1 u.2.2.1 u.2.2.2.1 rl u.2.2.2.2.1 u.2.2.2.2.2.1 u.2.2.2.2.2.2.1 u.2.2.2.2.2.2.2.1 u.2.2.2.2.2.2.2.2.1 ms wt pf nr sl cl hu uu pd ro rc u.2.2.2.2.2.2.2.2.2) t.heap) (AF q 22 sz)
def wL_box (ps : Int32) (nf : Int32) (po : Int32) (pt : Int32) (rf : Int32) (bx : (Nat → Int32)) (xl : (Nat → Int32)) (xr : (Nat → Int32)) (yl : (Nat → Int32)) (yh : (Nat → Int32)) (ou : (Nat → Int64)) (v1 : Int32) (v2 : Int32) (v3 : Int32) (v4 : Int32) (v5 : Int32) (K : Int32 → (Int32 × Int32 × Int32 × Int32 × (Nat → Int32) × (Nat → Int32) × (Nat → Int32) × (Nat → Int32) × (Nat → Int32) × (Nat → Int64)) → Prop) : Prop := wX4_box ps nf po pt rf bx xl xr yl yh v1 v2 v3 v4 v5 (fun (r : Int32) (u : Int32 × Int32 × Int32 × Int32 × (Nat → Int32) × (Nat → Int32) × (Nat → Int32) × (Nat → Int32) × (Nat → Int32)) => (vp_in 0 1 ∧ (∀ f1 : (Nat → Int64), f1 = vp_updL ou (0 : Int32).toNatClampNeg r.toInt64 → K 0 (u.1, u.2.1, u.2.2.1, u.2.2.2.1, u.2.2.2.2.1, u.2.2.2.2.2.1, u.2.2.2.2.2.2.1, u.2.2.2.2.2.2.2.1, u.2.2.2.2.2.2.2.2, f1)))) (fun (E : String) (u : Int32 × Int32 × Int32 × Int32 × (Nat → Int32) × (Nat → Int32) × (Nat → Int32) × (Nat → Int32) × (Nat → Int32)) => (E = "java/lang/IndexOutOfBoundsException" ∧ K 1 (u.1, u.2.1, u.2.2.1, u.2.2.2.1, u.2.2.2.2.1, u.2.2.2.2.2.1, u.2.2.2.2.2.2.1, u.2.2.2.2.2.2.2.1, u.2.2.2.2.2.2.2.2, ou)) ∨ (E = "java/lang/IllegalArgumentException" ∧ K 2 (u.1, u.2.1, u.2.2.1, u.2.2.2.1, u.2.2.2.2.1, u.2.2.2.2.2.1, u.2.2.2.2.2.2.1, u.2.2.2.2.2.2.2.1, u.2.2.2.2.2.2.2.2, ou)) ∨ (E = "java/lang/IllegalStateException" ∧ K 3 (u.1, u.2.1, u.2.2.1, u.2.2.2.1, u.2.2.2.2.1, u.2.2.2.2.2.1, u.2.2.2.2.2.2.1, u.2.2.2.2.2.2.2.1, u.2.2.2.2.2.2.2.2, ou)))
set_option maxHeartbeats 4000000 in
set_option maxRecDepth 100000 in
theorem ktL_box (l : Launch) (hlt : l.stackTraces = false) (dC : Nat → ClassId) (dI : Nat → Nat → Nat) (q : Nat → Nat) (cI cJ cZ : ClassId) (sz : Nat) (pg : Int32) (ps : Int32) (nf : Int32) (np : Int32) (nq : Int32) (ns : Int32) (po : Int32) (pt : Int32) (rf : Int32) (rl : Int32) (bx : (Nat → Int32)) (xl : (Nat → Int32)) (xr : (Nat → Int32)) (yl : (Nat → Int32)) (yh : (Nat → Int32)) (ms : (Nat → Int32)) (wt : (Nat → Int32)) (pf : (Nat → Int32)) (nr : (Nat → Int64)) (sl : (Nat → Int32)) (cl : (Nat → Int32)) (hu : (Nat → Int32)) (uu : (Nat → Int32)) (pd : (Nat → Int64)) (ro : (Nat → Int32)) (rc : (Nat → Int64)) (ou : (Nat → Int64)) (v1 : Int32) (v2 : Int32) (v3 : Int32) (v4 : Int32) (v5 : Int32) {K : Int32 → (Int32 × Int32 × Int32 × Int32 × (Nat → Int32) × (Nat → Int32) × (Nat → Int32) × (Nat → Int32) × (Nat → Int32) × (Nat → Int64)) → Prop} (h : wL_box ps nf po pt rf bx xl xr yl yh ou v1 v2 v3 v4 v5 K) : vx_Met l yL_box wsL_box { frames := 7, cells := 1, slots := 6, locals := 117 } (va_Pc [.ref (q 0), .int v1, .int v2, .int v3, .int v4, .int v5, .ref (q 21)] (wl dC dI cI cJ cZ q sz (WL q cI cJ cZ pg ps nf np nq ns po pt rf rl bx xl xr yl yh ms wt pf nr sl cl hu uu pd ro rc ou))) (QL_box dC dI cI cJ cZ q sz pg ps np nq ns rl ms wt pf nr sl cl hu uu pd ro rc K) (XX (dC, dI) q 22 sz (fun _ (_ : Unit) => False) (fun _ => [])) 1 6 (AF q 22 sz) := by
  refine lmet_of [.ref (q 0), .int v1, .int v2, .int v3, .int v4, .int v5, .ref (q 21)] (by decide +kernel) rfl (Nat.le_of_ble_eq_true rfl) ?_
  intro p e s m below meth c ls hsz C hT hK ha hN hE hC hl hP
  subst hsz
  obtain ⟨hx, hb, hr, hml, hown, hts, hlk⟩ := id C
  have hl : lv_has ls 8 [(0, .ref (q 0)), (1, .int v1), (2, .int v2), (3, .int v3), (4, .int v4), (5, .int v5), (6, .ref (q 21))] := hl
  refine w_go (Pw := fun H => va_P (dC, dI) vwCl (WL q cI cJ cZ pg ps nf np nq ns po pt rf rl bx xl xr yl yh ms wt pf nr sl cl hu uu pd ro rc ou) H) (A := AF q 22 s.heap.size) (fun H locs hP hS => ?_) hP
  unfold wL_box at h
  refine lv_aload hx hb dL_box_0 (lv_at hl 6 rfl) ?_
  refine lv_iconst (v := 0) hx hb dL_box_2 (by decide) ?_
  refine lv_aload_n hx hb dL_box_3 rfl (lv_at hl 0 rfl) ?_
  refine lv_iload_n hx hb dL_box_4 rfl (lv_at hl 1 rfl) ?_
  refine lv_iload_n hx hb dL_box_5 rfl (lv_at hl 2 rfl) ?_
  refine lv_iload_n hx hb dL_box_6 rfl (lv_at hl 3 rfl) ?_
  refine lv_iload hx hb dL_box_7 (lv_at hl 4 rfl) ?_
  refine lv_iload hx hb dL_box_9 (lv_at hl 5 rfl) ?_
  refine xl_i (vx_runV (As := [.int v1, .int v2, .int v3, .int v4, .int v5]) (rest := [.int 0, .ref (q 21)]) ⟨hx, hb, hml, hown, hts⟩ (ktX4_box l hlt dC dI q cI cJ cZ H.size pg ps nf np nq ns po pt rf rl bx xl xr yl yh ms wt pf nr sl cl hu uu pd ro rc v1 v2 v3 v4 v5 h) (cwV 5 hts gL_box_X4_box rfl rfl rfl (by decide +kernel) ⟨Nat.le_of_ble_eq_true rfl, Nat.le_of_ble_eq_true rfl⟩) ⟨wx.blind, va_recv hK hP (ci := 4) (q0 := 0) rfl rfl, fun U hU hW => ⟨rfl, wd.at (hP.sub [0, 1, 2, 3, 4, 5, 6, 7, 8, 9, 10, 11, 12, 13, 14, 15, 16, 17, 18, 19, 20] rfl) hK (fun i j hi hj => ha i j (by omega) (by omega)) hN hU hW, hE.at hS hU hW (AF.up (by omega) hS.1)⟩⟩ rfl rfl hl.1 rfl (lv_room (Nat.le_of_ble_eq_true rfl)) dL_box_11 ⟨Nat.le_of_ble_eq_true rfl, Nat.le_of_ble_eq_true rfl⟩) hS ha (hP.sub [21] rfl)
    (fun E ce q9 u H locs h hP hS hce hcv hcl => by
          rcases h with ⟨rfl, h⟩ | ⟨rfl, h⟩ | ⟨rfl, h⟩
          · refine vx_catch (own := RL) (name := "java/lang/IndexOutOfBoundsException") hown [] ⟨0, 16, 19, 25⟩ [⟨0, 16, 23, 13⟩, ⟨0, 16, 27, 19⟩] (hT.trans rfl) (fun z hz => absurd hz List.not_mem_nil) (by decide) (by decide) (hts _ lkL_box_25) (hE.cast (by decide)) hce hcv hcl ?_
            refine lv_astore (lv' := [(7, .ref q9), (0, .ref (q 0)), (1, .int v1), (2, .int v2), (3, .int v3), (4, .int v4), (5, .int v5), (6, .ref (q 21))]) hx hb dL_box_19 hl (by decide) rfl (fun ls hl => ?_)
            refine lv_iconst (v := 1) hx hb dL_box_21 (by decide) ?_
            exact vx_ret (rt_i (u.1, u.2.1, u.2.2.1, u.2.2.2.1, u.2.2.2.2.1, u.2.2.2.2.2.1, u.2.2.2.2.2.2.1, u.2.2.2.2.2.2.2.1, u.2.2.2.2.2.2.2.2, ou) hx hb hr hlk h (fun t ht => by rw [ht]; exact hP) hS dL_box_22)
          · refine vx_catch (own := RL) (name := "java/lang/IllegalArgumentException") hown [⟨0, 16, 19, 25⟩] ⟨0, 16, 23, 13⟩ [⟨0, 16, 27, 19⟩] (hT.trans rfl) (fun z hz => by
            simp only [List.mem_cons, List.not_mem_nil, or_false] at hz
            subst hz
            exact Or.inr ⟨by decide, "java/lang/IndexOutOfBoundsException", hts _ lkL_box_25, hC.1⟩) (by decide) (by decide) (hts _ lkL_box_13) (hE.cast (by decide)) hce hcv hcl ?_
            refine lv_astore (lv' := [(7, .ref q9), (0, .ref (q 0)), (1, .int v1), (2, .int v2), (3, .int v3), (4, .int v4), (5, .int v5), (6, .ref (q 21))]) hx hb dL_box_23 hl (by decide) rfl (fun ls hl => ?_)
            refine lv_iconst (v := 2) hx hb dL_box_25 (by decide) ?_
            exact vx_ret (rt_i (u.1, u.2.1, u.2.2.1, u.2.2.2.1, u.2.2.2.2.1, u.2.2.2.2.2.1, u.2.2.2.2.2.2.1, u.2.2.2.2.2.2.2.1, u.2.2.2.2.2.2.2.2, ou) hx hb hr hlk h (fun t ht => by rw [ht]; exact hP) hS dL_box_26)
          · refine vx_catch (own := RL) (name := "java/lang/IllegalStateException") hown [⟨0, 16, 19, 25⟩, ⟨0, 16, 23, 13⟩] ⟨0, 16, 27, 19⟩ [] (hT.trans rfl) (fun z hz => by
            simp only [List.mem_cons, List.not_mem_nil, or_false] at hz
            rcases hz with rfl | rfl
            · exact Or.inr ⟨by decide, "java/lang/IndexOutOfBoundsException", hts _ lkL_box_25, hC.2.1⟩
            · exact Or.inr ⟨by decide, "java/lang/IllegalArgumentException", hts _ lkL_box_13, hC.2.2⟩) (by decide) (by decide) (hts _ lkL_box_19) (hE.cast (by decide)) hce hcv hcl ?_
            refine lv_astore (lv' := [(7, .ref q9), (0, .ref (q 0)), (1, .int v1), (2, .int v2), (3, .int v3), (4, .int v4), (5, .int v5), (6, .ref (q 21))]) hx hb dL_box_27 hl (by decide) rfl (fun ls hl => ?_)
            refine lv_iconst (v := 3) hx hb dL_box_29 (by decide) ?_
            exact vx_ret (rt_i (u.1, u.2.1, u.2.2.1, u.2.2.2.1, u.2.2.2.2.1, u.2.2.2.2.2.1, u.2.2.2.2.2.2.1, u.2.2.2.2.2.2.2.1, u.2.2.2.2.2.2.2.2, ou) hx hb hr hlk h (fun t ht => by rw [ht]; exact hP) hS dL_box_30))
    (fun r u H locs h hP hS => ?_)
  have hP : va_P (dC, dI) vwCl (WL q cI cJ cZ pg ps u.1 np nq ns u.2.1 u.2.2.1 u.2.2.2.1 rl u.2.2.2.2.1 u.2.2.2.2.2.1 u.2.2.2.2.2.2.1 u.2.2.2.2.2.2.2.1 u.2.2.2.2.2.2.2.2 ms wt pf nr sl cl hu uu pd ro rc ou) H := hP
  refine lv_i2l hx hb dL_box_14 rfl ?_
  obtain ⟨b1, h⟩ := h
  refine va_last (D := (dC, dI)) hx hb hK hP (d_WL ha) hS 21 1 rfl rfl b1 dL_box_15 (fun H locs hP _ hS => ?_)
  obtain ⟨f1, ef1⟩ : ∃ z : (Nat → Int64), z = vp_updL ou (0 : Int32).toNatClampNeg r.toInt64 := ⟨_, rfl⟩
  have h := h f1 ef1
  have hP : va_P (dC, dI) vwCl (WL q cI cJ cZ pg ps u.1 np nq ns u.2.1 u.2.2.1 u.2.2.2.1 rl u.2.2.2.2.1 u.2.2.2.2.2.1 u.2.2.2.2.2.2.1 u.2.2.2.2.2.2.2.1 u.2.2.2.2.2.2.2.2 ms wt pf nr sl cl hu uu pd ro rc f1) H := by rw [ef1]; exact hP
  refine lv_goto (tgt := 31) hx hb dL_box_16 (by decide) ?_
  refine lv_iconst (v := 0) hx hb dL_box_31 (by decide) ?_
  exact vx_ret (rt_i (u.1, u.2.1, u.2.2.1, u.2.2.2.1, u.2.2.2.2.1, u.2.2.2.2.2.1, u.2.2.2.2.2.2.1, u.2.2.2.2.2.2.2.1, u.2.2.2.2.2.2.2.2, f1) hx hb hr hlk h (fun t ht => by rw [ht]; exact hP) hS dL_box_32)

set_option maxRecDepth 20000 in
theorem lkL_stitch_25 : Cond.classLink RL 25 "java/lang/IndexOutOfBoundsException" ∈ wsL_stitch := by decide +kernel
abbrev QL_stitch (dC : Nat → ClassId) (dI : Nat → Nat → Nat) (cI cJ cZ : ClassId) (q : Nat → Nat) (sz : Nat) (pg : Int32) (ps : Int32) (np : Int32) (nq : Int32) (ns : Int32) (rl : Int32) (bx : (Nat → Int32)) (xl : (Nat → Int32)) (xr : (Nat → Int32)) (yl : (Nat → Int32)) (yh : (Nat → Int32)) (wt : (Nat → Int32)) (pf : (Nat → Int32)) (nr : (Nat → Int64)) (sl : (Nat → Int32)) (cl : (Nat → Int32)) (hu : (Nat → Int32)) (uu : (Nat → Int32)) (pd : (Nat → Int64)) (ro : (Nat → Int32)) (rc : (Nat → Int64)) (K : Int32 → (Int32 × Int32 × Int32 × Int32 × (Nat → Int32) × (Nat → Int64)) → Prop) : Array Value → State → Outcome → State → Prop := va_Qi (fun (r : Int32) (u : Int32 × Int32 × Int32 × Int32 × (Nat → Int32) × (Nat → Int64)) => K r u) (fun (u : Int32 × Int32 × Int32 × Int32 × (Nat → Int32) × (Nat → Int64)) t => va_P (dC, dI) vwCl (WL q cI cJ cZ pg ps u.1 np nq ns u.2.1 u.2.2.1 u.2.2.2.1 rl bx xl xr yl yh u.2.2.2.2.1 wt pf nr sl cl hu uu pd ro rc u.2.2.2.2.2) t.heap) (AF q 22 sz)
def wL_stitch (ps : Int32) (bx : (Nat → Int32)) (nf : Int32) (po : Int32) (pt : Int32) (rf : Int32) (ms : (Nat → Int32)) (ou : (Nat → Int64)) (v1 : Int32) (v2 : Int32) (v3 : Int32) (K : Int32 → (Int32 × Int32 × Int32 × Int32 × (Nat → Int32) × (Nat → Int64)) → Prop) : Prop := wX4_stitch ps bx nf po pt rf ms v1 v2 v3 (fun (r : Int32) (u : Int32 × Int32 × Int32 × Int32 × (Nat → Int32)) => ((r = 0 → (vp_in 0 1 ∧ (∀ f1 : (Nat → Int64), f1 = vp_updL ou (0 : Int32).toNatClampNeg 0 → K 0 (u.1, u.2.1, u.2.2.1, u.2.2.2.1, u.2.2.2.2, f1)))) ∧ (¬ (r = 0) → (vp_in 0 1 ∧ (∀ f1 : (Nat → Int64), f1 = vp_updL ou (0 : Int32).toNatClampNeg 1 → K 0 (u.1, u.2.1, u.2.2.1, u.2.2.2.1, u.2.2.2.2, f1)))))) (fun (E : String) (u : Int32 × Int32 × Int32 × Int32 × (Nat → Int32)) => (E = "java/lang/IndexOutOfBoundsException" ∧ K 1 (u.1, u.2.1, u.2.2.1, u.2.2.2.1, u.2.2.2.2, ou)))
set_option maxHeartbeats 4000000 in
set_option maxRecDepth 100000 in
theorem ktL_stitch (l : Launch) (hlt : l.stackTraces = false) (dC : Nat → ClassId) (dI : Nat → Nat → Nat) (q : Nat → Nat) (cI cJ cZ : ClassId) (sz : Nat) (pg : Int32) (ps : Int32) (nf : Int32) (np : Int32) (nq : Int32) (ns : Int32) (po : Int32) (pt : Int32) (rf : Int32) (rl : Int32) (bx : (Nat → Int32)) (xl : (Nat → Int32)) (xr : (Nat → Int32)) (yl : (Nat → Int32)) (yh : (Nat → Int32)) (ms : (Nat → Int32)) (wt : (Nat → Int32)) (pf : (Nat → Int32)) (nr : (Nat → Int64)) (sl : (Nat → Int32)) (cl : (Nat → Int32)) (hu : (Nat → Int32)) (uu : (Nat → Int32)) (pd : (Nat → Int64)) (ro : (Nat → Int32)) (rc : (Nat → Int64)) (ou : (Nat → Int64)) (v1 : Int32) (v2 : Int32) (v3 : Int32) {K : Int32 → (Int32 × Int32 × Int32 × Int32 × (Nat → Int32) × (Nat → Int64)) → Prop} (h : wL_stitch ps bx nf po pt rf ms ou v1 v2 v3 K) : vx_Met l yL_stitch wsL_stitch { frames := 8, cells := 1, slots := 6, locals := 139 } (va_Pc [.ref (q 0), .int v1, .int v2, .int v3, .ref (q 21)] (wl dC dI cI cJ cZ q sz (WL q cI cJ cZ pg ps nf np nq ns po pt rf rl bx xl xr yl yh ms wt pf nr sl cl hu uu pd ro rc ou))) (QL_stitch dC dI cI cJ cZ q sz pg ps np nq ns rl bx xl xr yl yh wt pf nr sl cl hu uu pd ro rc K) (XX (dC, dI) q 22 sz (fun _ (_ : Unit) => False) (fun _ => [])) 1 6 (AF q 22 sz) := by
  refine lmet_of [.ref (q 0), .int v1, .int v2, .int v3, .ref (q 21)] (by decide +kernel) rfl (Nat.le_of_ble_eq_true rfl) ?_
  intro p e s m below meth c ls hsz C hT hK ha hN hE hC hl hP
  subst hsz
  obtain ⟨hx, hb, hr, hml, hown, hts, hlk⟩ := id C
  have hl : lv_has ls 6 [(0, .ref (q 0)), (1, .int v1), (2, .int v2), (3, .int v3), (4, .ref (q 21))] := hl
  refine w_go (Pw := fun H => va_P (dC, dI) vwCl (WL q cI cJ cZ pg ps nf np nq ns po pt rf rl bx xl xr yl yh ms wt pf nr sl cl hu uu pd ro rc ou) H) (A := AF q 22 s.heap.size) (fun H locs hP hS => ?_) hP
  unfold wL_stitch at h
  refine lv_aload hx hb dL_stitch_0 (lv_at hl 4 rfl) ?_
  refine lv_iconst (v := 0) hx hb dL_stitch_2 (by decide) ?_
  refine lv_aload_n hx hb dL_stitch_3 rfl (lv_at hl 0 rfl) ?_
  refine lv_iload_n hx hb dL_stitch_4 rfl (lv_at hl 1 rfl) ?_
  refine lv_iload_n hx hb dL_stitch_5 rfl (lv_at hl 2 rfl) ?_
  refine lv_iload_n hx hb dL_stitch_6 rfl (lv_at hl 3 rfl) ?_
  refine xl_i (vx_runV (As := [.int v1, .int v2, .int v3]) (rest := [.int 0, .ref (q 21)]) ⟨hx, hb, hml, hown, hts⟩ (ktX4_stitch l hlt dC dI q cI cJ cZ H.size pg ps nf np nq ns po pt rf rl bx xl xr yl yh ms wt pf nr sl cl hu uu pd ro rc v1 v2 v3 h) (cwV 3 hts gL_stitch_X4_stitch rfl rfl rfl (by decide +kernel) ⟨Nat.le_of_ble_eq_true rfl, Nat.le_of_ble_eq_true rfl⟩) ⟨wx.blind, va_recv hK hP (ci := 4) (q0 := 0) rfl rfl, fun U hU hW => ⟨rfl, wd.at (hP.sub [0, 1, 2, 3, 4, 5, 6, 7, 8, 9, 10, 11, 12, 13, 14, 15, 16, 17, 18, 19, 20] rfl) hK (fun i j hi hj => ha i j (by omega) (by omega)) hN hU hW, hE.at hS hU hW (AF.up (by omega) hS.1)⟩⟩ rfl rfl hl.1 rfl (lv_room (Nat.le_of_ble_eq_true rfl)) dL_stitch_7 ⟨Nat.le_of_ble_eq_true rfl, Nat.le_of_ble_eq_true rfl⟩) hS ha (hP.sub [21] rfl)
    (fun E ce q9 u H locs h hP hS hce hcv hcl => by
          obtain ⟨rfl, h⟩ := h
          refine vx_catch (own := RL) (name := "java/lang/IndexOutOfBoundsException") hown [] ⟨0, 19, 22, 25⟩ [] (hT.trans rfl) (fun z hz => absurd hz List.not_mem_nil) (by decide) (by decide) (hts _ lkL_stitch_25) (hE.cast (by decide)) hce hcv hcl ?_
          refine lv_astore (lv' := [(5, .ref q9), (0, .ref (q 0)), (1, .int v1), (2, .int v2), (3, .int v3), (4, .ref (q 21))]) hx hb dL_stitch_22 hl (by decide) rfl (fun ls hl => ?_)
          refine lv_iconst (v := 1) hx hb dL_stitch_24 (by decide) ?_
          exact vx_ret (rt_i (u.1, u.2.1, u.2.2.1, u.2.2.2.1, u.2.2.2.2, ou) hx hb hr hlk h (fun t ht => by rw [ht]; exact hP) hS dL_stitch_25))
    (fun r u H locs h hP hS => ?_)
  have hP : va_P (dC, dI) vwCl (WL q cI cJ cZ pg ps u.1 np nq ns u.2.1 u.2.2.1 u.2.2.2.1 rl bx xl xr yl yh u.2.2.2.2 wt pf nr sl cl hu uu pd ro rc ou) H := hP
  refine lv_if_eq (tgt := 17) hx hb dL_stitch_10 (by decide) (fun c1 => ?_) (fun c1 => ?_)
  · have h := h.1 c1
    refine lv_lconst (v := 0) hx hb dL_stitch_17 (by decide) ?_
    obtain ⟨b1, h⟩ := h
    refine va_last (D := (dC, dI)) hx hb hK hP (d_WL ha) hS 21 1 rfl rfl b1 dL_stitch_18 (fun H locs hP _ hS => ?_)
    obtain ⟨f1, ef1⟩ : ∃ z : (Nat → Int64), z = vp_updL ou (0 : Int32).toNatClampNeg 0 := ⟨_, rfl⟩
    have h := h f1 ef1
    have hP : va_P (dC, dI) vwCl (WL q cI cJ cZ pg ps u.1 np nq ns u.2.1 u.2.2.1 u.2.2.2.1 rl bx xl xr yl yh u.2.2.2.2 wt pf nr sl cl hu uu pd ro rc f1) H := by rw [ef1]; exact hP
    refine lv_goto (tgt := 26) hx hb dL_stitch_19 (by decide) ?_
    refine lv_iconst (v := 0) hx hb dL_stitch_26 (by decide) ?_
    exact vx_ret (rt_i (u.1, u.2.1, u.2.2.1, u.2.2.2.1, u.2.2.2.2, f1) hx hb hr hlk h (fun t ht => by rw [ht]; exact hP) hS dL_stitch_27)
  · have h := h.2 c1
    refine lv_lconst (v := 1) hx hb dL_stitch_13 (by decide) ?_
    refine lv_goto (tgt := 18) hx hb dL_stitch_14 (by decide) ?_
    obtain ⟨b1, h⟩ := h
    refine va_last (D := (dC, dI)) hx hb hK hP (d_WL ha) hS 21 1 rfl rfl b1 dL_stitch_18 (fun H locs hP _ hS => ?_)
    obtain ⟨f1, ef1⟩ : ∃ z : (Nat → Int64), z = vp_updL ou (0 : Int32).toNatClampNeg 1 := ⟨_, rfl⟩
    have h := h f1 ef1
    have hP : va_P (dC, dI) vwCl (WL q cI cJ cZ pg ps u.1 np nq ns u.2.1 u.2.2.1 u.2.2.2.1 rl bx xl xr yl yh u.2.2.2.2 wt pf nr sl cl hu uu pd ro rc f1) H := by rw [ef1]; exact hP
    refine lv_goto (tgt := 26) hx hb dL_stitch_19 (by decide) ?_
    refine lv_iconst (v := 0) hx hb dL_stitch_26 (by decide) ?_
    exact vx_ret (rt_i (u.1, u.2.1, u.2.2.1, u.2.2.2.1, u.2.2.2.2, f1) hx hb hr hlk h (fun t ht => by rw [ht]; exact hP) hS dL_stitch_27)

set_option maxRecDepth 20000 in
theorem lkL_pre_25 : Cond.classLink RL 25 "java/lang/IndexOutOfBoundsException" ∈ wsL_pre := by decide +kernel
set_option maxRecDepth 20000 in
theorem lkL_pre_13 : Cond.classLink RL 13 "java/lang/IllegalArgumentException" ∈ wsL_pre := by decide +kernel
abbrev QL_pre (dC : Nat → ClassId) (dI : Nat → Nat → Nat) (cI cJ cZ : ClassId) (q : Nat → Nat) (sz : Nat) (pg : Int32) (ps : Int32) (np : Int32) (nq : Int32) (ns : Int32) (rl : Int32) (bx : (Nat → Int32)) (xl : (Nat → Int32)) (xr : (Nat → Int32)) (yl : (Nat → Int32)) (yh : (Nat → Int32)) (ms : (Nat → Int32)) (pf : (Nat → Int32)) (nr : (Nat → Int64)) (sl : (Nat → Int32)) (cl : (Nat → Int32)) (hu : (Nat → Int32)) (uu : (Nat → Int32)) (pd : (Nat → Int64)) (ro : (Nat → Int32)) (rc : (Nat → Int64)) (K : Int32 → (Int32 × Int32 × Int32 × Int32 × (Nat → Int32) × (Nat → Int64)) → Prop) : Array Value → State → Outcome → State → Prop := va_Qi (fun (r : Int32) (u : Int32 × Int32 × Int32 × Int32 × (Nat → Int32) × (Nat → Int64)) => K r u) (fun (u : Int32 × Int32 × Int32 × Int32 × (Nat → Int32) × (Nat → Int64)) t => va_P (dC, dI) vwCl (WL q cI cJ cZ pg ps u.1 np nq ns u.2.1 u.2.2.1 u.2.2.2.1 rl bx xl xr yl yh ms u.2.2.2.2.1 pf nr sl cl hu uu pd ro rc u.2.2.2.2.2) t.heap) (AF q 22 sz)
def wL_pre (ps : Int32) (bx : (Nat → Int32)) (nf : Int32) (po : Int32) (pt : Int32) (rf : Int32) (wt : (Nat → Int32)) (ou : (Nat → Int64)) (v1 : Int32) (v2 : Int32) (v3 : Int32) (K : Int32 → (Int32 × Int32 × Int32 × Int32 × (Nat → Int32) × (Nat → Int64)) → Prop) : Prop := wX4_pre ps bx nf po pt rf wt v1 v2 v3 (fun (r : Int32) (u : Int32 × Int32 × Int32 × Int32 × (Nat → Int32)) => (vp_in 0 1 ∧ (∀ f1 : (Nat → Int64), f1 = vp_updL ou (0 : Int32).toNatClampNeg r.toInt64 → K 0 (u.1, u.2.1, u.2.2.1, u.2.2.2.1, u.2.2.2.2, f1)))) (fun (E : String) (u : Int32 × Int32 × Int32 × Int32 × (Nat → Int32)) => (E = "java/lang/IndexOutOfBoundsException" ∧ K 1 (u.1, u.2.1, u.2.2.1, u.2.2.2.1, u.2.2.2.2, ou)) ∨ (E = "java/lang/IllegalArgumentException" ∧ K 2 (u.1, u.2.1, u.2.2.1, u.2.2.2.1, u.2.2.2.2, ou)))
set_option maxHeartbeats 4000000 in
set_option maxRecDepth 100000 in
theorem ktL_pre (l : Launch) (hlt : l.stackTraces = false) (dC : Nat → ClassId) (dI : Nat → Nat → Nat) (q : Nat → Nat) (cI cJ cZ : ClassId) (sz : Nat) (pg : Int32) (ps : Int32) (nf : Int32) (np : Int32) (nq : Int32) (ns : Int32) (po : Int32) (pt : Int32) (rf : Int32) (rl : Int32) (bx : (Nat → Int32)) (xl : (Nat → Int32)) (xr : (Nat → Int32)) (yl : (Nat → Int32)) (yh : (Nat → Int32)) (ms : (Nat → Int32)) (wt : (Nat → Int32)) (pf : (Nat → Int32)) (nr : (Nat → Int64)) (sl : (Nat → Int32)) (cl : (Nat → Int32)) (hu : (Nat → Int32)) (uu : (Nat → Int32)) (pd : (Nat → Int64)) (ro : (Nat → Int32)) (rc : (Nat → Int64)) (ou : (Nat → Int64)) (v1 : Int32) (v2 : Int32) (v3 : Int32) {K : Int32 → (Int32 × Int32 × Int32 × Int32 × (Nat → Int32) × (Nat → Int64)) → Prop} (h : wL_pre ps bx nf po pt rf wt ou v1 v2 v3 K) : vx_Met l yL_pre wsL_pre { frames := 8, cells := 2, slots := 12, locals := 139 } (va_Pc [.ref (q 0), .int v1, .int v2, .int v3, .ref (q 21)] (wl dC dI cI cJ cZ q sz (WL q cI cJ cZ pg ps nf np nq ns po pt rf rl bx xl xr yl yh ms wt pf nr sl cl hu uu pd ro rc ou))) (QL_pre dC dI cI cJ cZ q sz pg ps np nq ns rl bx xl xr yl yh ms pf nr sl cl hu uu pd ro rc K) (XX (dC, dI) q 22 sz (fun _ (_ : Unit) => False) (fun _ => [])) 2 12 (AF q 22 sz) := by
  refine lmet_of [.ref (q 0), .int v1, .int v2, .int v3, .ref (q 21)] (by decide +kernel) rfl (Nat.le_of_ble_eq_true rfl) ?_
  intro p e s m below meth c ls hsz C hT hK ha hN hE hC hl hP
  subst hsz
  obtain ⟨hx, hb, hr, hml, hown, hts, hlk⟩ := id C
  have hl : lv_has ls 6 [(0, .ref (q 0)), (1, .int v1), (2, .int v2), (3, .int v3), (4, .ref (q 21))] := hl
  refine w_go (Pw := fun H => va_P (dC, dI) vwCl (WL q cI cJ cZ pg ps nf np nq ns po pt rf rl bx xl xr yl yh ms wt pf nr sl cl hu uu pd ro rc ou) H) (A := AF q 22 s.heap.size) (fun H locs hP hS => ?_) hP
  unfold wL_pre at h
  refine lv_aload hx hb dL_pre_0 (lv_at hl 4 rfl) ?_
  refine lv_iconst (v := 0) hx hb dL_pre_2 (by decide) ?_
  refine lv_aload_n hx hb dL_pre_3 rfl (lv_at hl 0 rfl) ?_
  refine lv_iload_n hx hb dL_pre_4 rfl (lv_at hl 1 rfl) ?_
  refine lv_iload_n hx hb dL_pre_5 rfl (lv_at hl 2 rfl) ?_
  refine lv_iload_n hx hb dL_pre_6 rfl (lv_at hl 3 rfl) ?_
  refine xl_i (vx_runV (As := [.int v1, .int v2, .int v3]) (rest := [.int 0, .ref (q 21)]) ⟨hx, hb, hml, hown, hts⟩ (ktX4_pre l hlt dC dI q cI cJ cZ H.size pg ps nf np nq ns po pt rf rl bx xl xr yl yh ms wt pf nr sl cl hu uu pd ro rc v1 v2 v3 h) (cwV 3 hts gL_pre_X4_pre rfl rfl rfl (by decide +kernel) ⟨Nat.le_of_ble_eq_true rfl, Nat.le_of_ble_eq_true rfl⟩) ⟨wx.blind, va_recv hK hP (ci := 4) (q0 := 0) rfl rfl, fun U hU hW => ⟨rfl, wd.at (hP.sub [0, 1, 2, 3, 4, 5, 6, 7, 8, 9, 10, 11, 12, 13, 14, 15, 16, 17, 18, 19, 20] rfl) hK (fun i j hi hj => ha i j (by omega) (by omega)) hN hU hW, hE.at hS hU hW (AF.up (by omega) hS.1)⟩⟩ rfl rfl hl.1 rfl (lv_room (Nat.le_of_ble_eq_true rfl)) dL_pre_7 ⟨Nat.le_of_ble_eq_true rfl, Nat.le_of_ble_eq_true rfl⟩) hS ha (hP.sub [21] rfl)
    (fun E ce q9 u H locs h hP hS hce hcv hcl => by
          rcases h with ⟨rfl, h⟩ | ⟨rfl, h⟩
          · refine vx_catch (own := RL) (name := "java/lang/IndexOutOfBoundsException") hown [] ⟨0, 12, 15, 25⟩ [⟨0, 12, 19, 13⟩] (hT.trans rfl) (fun z hz => absurd hz List.not_mem_nil) (by decide) (by decide) (hts _ lkL_pre_25) (hE.cast (by decide)) hce hcv hcl ?_
            refine lv_astore (lv' := [(5, .ref q9), (0, .ref (q 0)), (1, .int v1), (2, .int v2), (3, .int v3), (4, .ref (q 21))]) hx hb dL_pre_15 hl (by decide) rfl (fun ls hl => ?_)
            refine lv_iconst (v := 1) hx hb dL_pre_17 (by decide) ?_
            exact vx_ret (rt_i (u.1, u.2.1, u.2.2.1, u.2.2.2.1, u.2.2.2.2, ou) hx hb hr hlk h (fun t ht => by rw [ht]; exact hP) hS dL_pre_18)
          · refine vx_catch (own := RL) (name := "java/lang/IllegalArgumentException") hown [⟨0, 12, 15, 25⟩] ⟨0, 12, 19, 13⟩ [] (hT.trans rfl) (fun z hz => by
            simp only [List.mem_cons, List.not_mem_nil, or_false] at hz
            subst hz
            exact Or.inr ⟨by decide, "java/lang/IndexOutOfBoundsException", hts _ lkL_pre_25, hC.1⟩) (by decide) (by decide) (hts _ lkL_pre_13) (hE.cast (by decide)) hce hcv hcl ?_
            refine lv_astore (lv' := [(5, .ref q9), (0, .ref (q 0)), (1, .int v1), (2, .int v2), (3, .int v3), (4, .ref (q 21))]) hx hb dL_pre_19 hl (by decide) rfl (fun ls hl => ?_)
            refine lv_iconst (v := 2) hx hb dL_pre_21 (by decide) ?_
            exact vx_ret (rt_i (u.1, u.2.1, u.2.2.1, u.2.2.2.1, u.2.2.2.2, ou) hx hb hr hlk h (fun t ht => by rw [ht]; exact hP) hS dL_pre_22))
    (fun r u H locs h hP hS => ?_)
  have hP : va_P (dC, dI) vwCl (WL q cI cJ cZ pg ps u.1 np nq ns u.2.1 u.2.2.1 u.2.2.2.1 rl bx xl xr yl yh ms u.2.2.2.2 pf nr sl cl hu uu pd ro rc ou) H := hP
  refine lv_i2l hx hb dL_pre_10 rfl ?_
  obtain ⟨b1, h⟩ := h
  refine va_last (D := (dC, dI)) hx hb hK hP (d_WL ha) hS 21 1 rfl rfl b1 dL_pre_11 (fun H locs hP _ hS => ?_)
  obtain ⟨f1, ef1⟩ : ∃ z : (Nat → Int64), z = vp_updL ou (0 : Int32).toNatClampNeg r.toInt64 := ⟨_, rfl⟩
  have h := h f1 ef1
  have hP : va_P (dC, dI) vwCl (WL q cI cJ cZ pg ps u.1 np nq ns u.2.1 u.2.2.1 u.2.2.2.1 rl bx xl xr yl yh ms u.2.2.2.2 pf nr sl cl hu uu pd ro rc f1) H := by rw [ef1]; exact hP
  refine lv_goto (tgt := 23) hx hb dL_pre_12 (by decide) ?_
  refine lv_iconst (v := 0) hx hb dL_pre_23 (by decide) ?_
  exact vx_ret (rt_i (u.1, u.2.1, u.2.2.1, u.2.2.2.1, u.2.2.2.2, f1) hx hb hr hlk h (fun t ht => by rw [ht]; exact hP) hS dL_pre_24)

set_option maxRecDepth 20000 in
theorem lkL_part_25 : Cond.classLink RL 25 "java/lang/IndexOutOfBoundsException" ∈ wsL_part := by decide +kernel
abbrev QL_part (dC : Nat → ClassId) (dI : Nat → Nat → Nat) (cI cJ cZ : ClassId) (q : Nat → Nat) (sz : Nat) (pg : Int32) (ps : Int32) (po : Int32) (pt : Int32) (rf : Int32) (rl : Int32) (bx : (Nat → Int32)) (xl : (Nat → Int32)) (xr : (Nat → Int32)) (yl : (Nat → Int32)) (yh : (Nat → Int32)) (ms : (Nat → Int32)) (wt : (Nat → Int32)) (hu : (Nat → Int32)) (uu : (Nat → Int32)) (pd : (Nat → Int64)) (ro : (Nat → Int32)) (rc : (Nat → Int64)) (K : Int32 → (Int32 × Int32 × Int32 × Int32 × (Nat → Int32) × (Nat → Int64) × (Nat → Int32) × (Nat → Int32) × (Nat → Int64)) → Prop) : Array Value → State → Outcome → State → Prop := va_Qi (fun (r : Int32) (u : Int32 × Int32 × Int32 × Int32 × (Nat → Int32) × (Nat → Int64) × (Nat → Int32) × (Nat → Int32) × (Nat → Int64)) => K r u) (fun (u : Int32 × Int32 × Int32 × Int32 × (Nat → Int32) × (Nat → Int64) × (Nat → Int32) × (Nat → Int32) × (Nat → Int64)) t => va_P (dC, dI) vwCl (WL q cI cJ cZ pg ps u.1 u.2.1 u.2.2.1 u.2.2.2.1 po pt rf rl bx xl xr yl yh ms wt u.2.2.2.2.1 u.2.2.2.2.2.1 u.2.2.2.2.2.2.1 u.2.2.2.2.2.2.2.1 hu uu pd ro rc u.2.2.2.2.2.2.2.2) t.heap) (AF q 22 sz)
def wL_part (pg : Int32) (ps : Int32) (bx : (Nat → Int32)) (xl : (Nat → Int32)) (xr : (Nat → Int32)) (yl : (Nat → Int32)) (yh : (Nat → Int32)) (ms : (Nat → Int32)) (wt : (Nat → Int32)) (nf : Int32) (np : Int32) (nq : Int32) (ns : Int32) (pf : (Nat → Int32)) (nr : (Nat → Int64)) (sl : (Nat → Int32)) (cl : (Nat → Int32)) (ou : (Nat → Int64)) (v1 : Int32) (v2 : Int32) (K : Int32 → (Int32 × Int32 × Int32 × Int32 × (Nat → Int32) × (Nat → Int64) × (Nat → Int32) × (Nat → Int32) × (Nat → Int64)) → Prop) : Prop := wX4_part pg ps bx xl xr yl yh ms wt nf np nq ns pf nr sl cl v1 v2 (fun (r : Int32) (u : Int32 × Int32 × Int32 × Int32 × (Nat → Int32) × (Nat → Int64) × (Nat → Int32) × (Nat → Int32)) => (vp_in 0 1 ∧ (∀ f1 : (Nat → Int64), f1 = vp_updL ou (0 : Int32).toNatClampNeg r.toInt64 → K 0 (u.1, u.2.1, u.2.2.1, u.2.2.2.1, u.2.2.2.2.1, u.2.2.2.2.2.1, u.2.2.2.2.2.2.1, u.2.2.2.2.2.2.2, f1)))) (fun (E : String) (u : Int32 × Int32 × Int32 × Int32 × (Nat → Int32) × (Nat → Int64) × (Nat → Int32) × (Nat → Int32)) => (E = "java/lang/IndexOutOfBoundsException" ∧ K 1 (u.1, u.2.1, u.2.2.1, u.2.2.2.1, u.2.2.2.2.1, u.2.2.2.2.2.1, u.2.2.2.2.2.2.1, u.2.2.2.2.2.2.2, ou)))
set_option maxHeartbeats 4000000 in
set_option maxRecDepth 100000 in
theorem ktL_part (l : Launch) (hlt : l.stackTraces = false) (dC : Nat → ClassId) (dI : Nat → Nat → Nat) (q : Nat → Nat) (cI cJ cZ : ClassId) (sz : Nat) (pg : Int32) (ps : Int32) (nf : Int32) (np : Int32) (nq : Int32) (ns : Int32) (po : Int32) (pt : Int32) (rf : Int32) (rl : Int32) (bx : (Nat → Int32)) (xl : (Nat → Int32)) (xr : (Nat → Int32)) (yl : (Nat → Int32)) (yh : (Nat → Int32)) (ms : (Nat → Int32)) (wt : (Nat → Int32)) (pf : (Nat → Int32)) (nr : (Nat → Int64)) (sl : (Nat → Int32)) (cl : (Nat → Int32)) (hu : (Nat → Int32)) (uu : (Nat → Int32)) (pd : (Nat → Int64)) (ro : (Nat → Int32)) (rc : (Nat → Int64)) (ou : (Nat → Int64)) (v1 : Int32) (v2 : Int32) {K : Int32 → (Int32 × Int32 × Int32 × Int32 × (Nat → Int32) × (Nat → Int64) × (Nat → Int32) × (Nat → Int32) × (Nat → Int64)) → Prop} (h : wL_part pg ps bx xl xr yl yh ms wt nf np nq ns pf nr sl cl ou v1 v2 K) : vx_Met l yL_part wsL_part { frames := 8, cells := 1, slots := 6, locals := 164 } (va_Pc [.ref (q 0), .int v1, .int v2, .ref (q 21)] (wl dC dI cI cJ cZ q sz (WL q cI cJ cZ pg ps nf np nq ns po pt rf rl bx xl xr yl yh ms wt pf nr sl cl hu uu pd ro rc ou))) (QL_part dC dI cI cJ cZ q sz pg ps po pt rf rl bx xl xr yl yh ms wt hu uu pd ro rc K) (XX (dC, dI) q 22 sz (fun _ (_ : Unit) => False) (fun _ => [])) 1 6 (AF q 22 sz) := by
  refine lmet_of [.ref (q 0), .int v1, .int v2, .ref (q 21)] (by decide +kernel) rfl (Nat.le_of_ble_eq_true rfl) ?_
  intro p e s m below meth c ls hsz C hT hK ha hN hE hC hl hP
  subst hsz
  obtain ⟨hx, hb, hr, hml, hown, hts, hlk⟩ := id C
  have hl : lv_has ls 5 [(0, .ref (q 0)), (1, .int v1), (2, .int v2), (3, .ref (q 21))] := hl
  refine w_go (Pw := fun H => va_P (dC, dI) vwCl (WL q cI cJ cZ pg ps nf np nq ns po pt rf rl bx xl xr yl yh ms wt pf nr sl cl hu uu pd ro rc ou) H) (A := AF q 22 s.heap.size) (fun H locs hP hS => ?_) hP
  unfold wL_part at h
  refine lv_aload_n hx hb dL_part_0 rfl (lv_at hl 3 rfl) ?_
  refine lv_iconst (v := 0) hx hb dL_part_1 (by decide) ?_
  refine lv_aload_n hx hb dL_part_2 rfl (lv_at hl 0 rfl) ?_
  refine lv_iload_n hx hb dL_part_3 rfl (lv_at hl 1 rfl) ?_
  refine lv_iload_n hx hb dL_part_4 rfl (lv_at hl 2 rfl) ?_
  refine xl_i (vx_runV (As := [.int v1, .int v2]) (rest := [.int 0, .ref (q 21)]) ⟨hx, hb, hml, hown, hts⟩ (ktX4_part l hlt dC dI q cI cJ cZ H.size pg ps nf np nq ns po pt rf rl bx xl xr yl yh ms wt pf nr sl cl hu uu pd ro rc v1 v2 h) (cwV 2 hts gL_part_X4_part rfl rfl rfl (by decide +kernel) ⟨Nat.le_of_ble_eq_true rfl, Nat.le_of_ble_eq_true rfl⟩) ⟨wx.blind, va_recv hK hP (ci := 4) (q0 := 0) rfl rfl, fun U hU hW => ⟨rfl, wd.at (hP.sub [0, 1, 2, 3, 4, 5, 6, 7, 8, 9, 10, 11, 12, 13, 14, 15, 16, 17, 18, 19, 20] rfl) hK (fun i j hi hj => ha i j (by omega) (by omega)) hN hU hW, hE.at hS hU hW (AF.up (by omega) hS.1)⟩⟩ rfl rfl hl.1 rfl (lv_room (Nat.le_of_ble_eq_true rfl)) dL_part_5 ⟨Nat.le_of_ble_eq_true rfl, Nat.le_of_ble_eq_true rfl⟩) hS ha (hP.sub [21] rfl)
    (fun E ce q9 u H locs h hP hS hce hcv hcl => by
          obtain ⟨rfl, h⟩ := h
          refine vx_catch (own := RL) (name := "java/lang/IndexOutOfBoundsException") hown [] ⟨0, 10, 13, 25⟩ [] (hT.trans rfl) (fun z hz => absurd hz List.not_mem_nil) (by decide) (by decide) (hts _ lkL_part_25) (hE.cast (by decide)) hce hcv hcl ?_
          refine lv_astore (lv' := [(4, .ref q9), (0, .ref (q 0)), (1, .int v1), (2, .int v2), (3, .ref (q 21))]) hx hb dL_part_13 hl (by decide) rfl (fun ls hl => ?_)
          refine lv_iconst (v := 1) hx hb dL_part_15 (by decide) ?_
          exact vx_ret (rt_i (u.1, u.2.1, u.2.2.1, u.2.2.2.1, u.2.2.2.2.1, u.2.2.2.2.2.1, u.2.2.2.2.2.2.1, u.2.2.2.2.2.2.2, ou) hx hb hr hlk h (fun t ht => by rw [ht]; exact hP) hS dL_part_16))
    (fun r u H locs h hP hS => ?_)
  have hP : va_P (dC, dI) vwCl (WL q cI cJ cZ pg ps u.1 u.2.1 u.2.2.1 u.2.2.2.1 po pt rf rl bx xl xr yl yh ms wt u.2.2.2.2.1 u.2.2.2.2.2.1 u.2.2.2.2.2.2.1 u.2.2.2.2.2.2.2 hu uu pd ro rc ou) H := hP
  refine lv_i2l hx hb dL_part_8 rfl ?_
  obtain ⟨b1, h⟩ := h
  refine va_last (D := (dC, dI)) hx hb hK hP (d_WL ha) hS 21 1 rfl rfl b1 dL_part_9 (fun H locs hP _ hS => ?_)
  obtain ⟨f1, ef1⟩ : ∃ z : (Nat → Int64), z = vp_updL ou (0 : Int32).toNatClampNeg r.toInt64 := ⟨_, rfl⟩
  have h := h f1 ef1
  have hP : va_P (dC, dI) vwCl (WL q cI cJ cZ pg ps u.1 u.2.1 u.2.2.1 u.2.2.2.1 po pt rf rl bx xl xr yl yh ms wt u.2.2.2.2.1 u.2.2.2.2.2.1 u.2.2.2.2.2.2.1 u.2.2.2.2.2.2.2 hu uu pd ro rc f1) H := by rw [ef1]; exact hP
  refine lv_goto (tgt := 17) hx hb dL_part_10 (by decide) ?_
  refine lv_iconst (v := 0) hx hb dL_part_17 (by decide) ?_
  exact vx_ret (rt_i (u.1, u.2.1, u.2.2.1, u.2.2.2.1, u.2.2.2.2.1, u.2.2.2.2.2.1, u.2.2.2.2.2.2.1, u.2.2.2.2.2.2.2, f1) hx hb hr hlk h (fun t ht => by rw [ht]; exact hP) hS dL_part_18)

set_option maxRecDepth 20000 in
theorem lkL_pair_25 : Cond.classLink RL 25 "java/lang/IndexOutOfBoundsException" ∈ wsL_pair := by decide +kernel
set_option maxRecDepth 20000 in
theorem lkL_pair_13 : Cond.classLink RL 13 "java/lang/IllegalArgumentException" ∈ wsL_pair := by decide +kernel
abbrev QL_pair (dC : Nat → ClassId) (dI : Nat → Nat → Nat) (cI cJ cZ : ClassId) (q : Nat → Nat) (sz : Nat) (pg : Int32) (ps : Int32) (po : Int32) (pt : Int32) (rf : Int32) (rl : Int32) (bx : (Nat → Int32)) (xl : (Nat → Int32)) (xr : (Nat → Int32)) (yl : (Nat → Int32)) (yh : (Nat → Int32)) (ms : (Nat → Int32)) (wt : (Nat → Int32)) (hu : (Nat → Int32)) (uu : (Nat → Int32)) (pd : (Nat → Int64)) (ro : (Nat → Int32)) (rc : (Nat → Int64)) (K : Int32 → (Int32 × Int32 × Int32 × Int32 × (Nat → Int32) × (Nat → Int64) × (Nat → Int32) × (Nat → Int32) × (Nat → Int64)) → Prop) : Array Value → State → Outcome → State → Prop := va_Qi (fun (r : Int32) (u : Int32 × Int32 × Int32 × Int32 × (Nat → Int32) × (Nat → Int64) × (Nat → Int32) × (Nat → Int32) × (Nat → Int64)) => K r u) (fun (u : Int32 × Int32 × Int32 × Int32 × (Nat → Int32) × (Nat → Int64) × (Nat → Int32) × (Nat → Int32) × (Nat → Int64)) t => va_P (dC, dI) vwCl (WL q cI cJ cZ pg ps u.1 u.2.1 u.2.2.1 u.2.2.2.1 po pt rf rl bx xl xr yl yh ms wt u.2.2.2.2.1 u.2.2.2.2.2.1 u.2.2.2.2.2.2.1 u.2.2.2.2.2.2.2.1 hu uu pd ro rc u.2.2.2.2.2.2.2.2) t.heap) (AF q 22 sz)
def wL_pair (pg : Int32) (ps : Int32) (bx : (Nat → Int32)) (xl : (Nat → Int32)) (xr : (Nat → Int32)) (yl : (Nat → Int32)) (yh : (Nat → Int32)) (ms : (Nat → Int32)) (wt : (Nat → Int32)) (nf : Int32) (np : Int32) (nq : Int32) (ns : Int32) (pf : (Nat → Int32)) (nr : (Nat → Int64)) (sl : (Nat → Int32)) (cl : (Nat → Int32)) (ou : (Nat → Int64)) (v1 : Int32) (v2 : Int32) (K : Int32 → (Int32 × Int32 × Int32 × Int32 × (Nat → Int32) × (Nat → Int64) × (Nat → Int32) × (Nat → Int32) × (Nat → Int64)) → Prop) : Prop := wX4_pair pg ps bx xl xr yl yh ms wt nf np nq ns pf nr sl cl v1 v2 (fun (r : Int32) (u : Int32 × Int32 × Int32 × Int32 × (Nat → Int32) × (Nat → Int64) × (Nat → Int32) × (Nat → Int32)) => (vp_in 0 1 ∧ (∀ f1 : (Nat → Int64), f1 = vp_updL ou (0 : Int32).toNatClampNeg r.toInt64 → K 0 (u.1, u.2.1, u.2.2.1, u.2.2.2.1, u.2.2.2.2.1, u.2.2.2.2.2.1, u.2.2.2.2.2.2.1, u.2.2.2.2.2.2.2, f1)))) (fun (E : String) (u : Int32 × Int32 × Int32 × Int32 × (Nat → Int32) × (Nat → Int64) × (Nat → Int32) × (Nat → Int32)) => (E = "java/lang/IndexOutOfBoundsException" ∧ K 1 (u.1, u.2.1, u.2.2.1, u.2.2.2.1, u.2.2.2.2.1, u.2.2.2.2.2.1, u.2.2.2.2.2.2.1, u.2.2.2.2.2.2.2, ou)) ∨ (E = "java/lang/IllegalArgumentException" ∧ K 2 (u.1, u.2.1, u.2.2.1, u.2.2.2.1, u.2.2.2.2.1, u.2.2.2.2.2.1, u.2.2.2.2.2.2.1, u.2.2.2.2.2.2.2, ou)))
set_option maxHeartbeats 4000000 in
set_option maxRecDepth 100000 in
theorem ktL_pair (l : Launch) (hlt : l.stackTraces = false) (dC : Nat → ClassId) (dI : Nat → Nat → Nat) (q : Nat → Nat) (cI cJ cZ : ClassId) (sz : Nat) (pg : Int32) (ps : Int32) (nf : Int32) (np : Int32) (nq : Int32) (ns : Int32) (po : Int32) (pt : Int32) (rf : Int32) (rl : Int32) (bx : (Nat → Int32)) (xl : (Nat → Int32)) (xr : (Nat → Int32)) (yl : (Nat → Int32)) (yh : (Nat → Int32)) (ms : (Nat → Int32)) (wt : (Nat → Int32)) (pf : (Nat → Int32)) (nr : (Nat → Int64)) (sl : (Nat → Int32)) (cl : (Nat → Int32)) (hu : (Nat → Int32)) (uu : (Nat → Int32)) (pd : (Nat → Int64)) (ro : (Nat → Int32)) (rc : (Nat → Int64)) (ou : (Nat → Int64)) (v1 : Int32) (v2 : Int32) {K : Int32 → (Int32 × Int32 × Int32 × Int32 × (Nat → Int32) × (Nat → Int64) × (Nat → Int32) × (Nat → Int32) × (Nat → Int64)) → Prop} (h : wL_pair pg ps bx xl xr yl yh ms wt nf np nq ns pf nr sl cl ou v1 v2 K) : vx_Met l yL_pair wsL_pair { frames := 7, cells := 1, slots := 6, locals := 163 } (va_Pc [.ref (q 0), .int v1, .int v2, .ref (q 21)] (wl dC dI cI cJ cZ q sz (WL q cI cJ cZ pg ps nf np nq ns po pt rf rl bx xl xr yl yh ms wt pf nr sl cl hu uu pd ro rc ou))) (QL_pair dC dI cI cJ cZ q sz pg ps po pt rf rl bx xl xr yl yh ms wt hu uu pd ro rc K) (XX (dC, dI) q 22 sz (fun _ (_ : Unit) => False) (fun _ => [])) 1 6 (AF q 22 sz) := by
  refine lmet_of [.ref (q 0), .int v1, .int v2, .ref (q 21)] (by decide +kernel) rfl (Nat.le_of_ble_eq_true rfl) ?_
  intro p e s m below meth c ls hsz C hT hK ha hN hE hC hl hP
  subst hsz
  obtain ⟨hx, hb, hr, hml, hown, hts, hlk⟩ := id C
  have hl : lv_has ls 5 [(0, .ref (q 0)), (1, .int v1), (2, .int v2), (3, .ref (q 21))] := hl
  refine w_go (Pw := fun H => va_P (dC, dI) vwCl (WL q cI cJ cZ pg ps nf np nq ns po pt rf rl bx xl xr yl yh ms wt pf nr sl cl hu uu pd ro rc ou) H) (A := AF q 22 s.heap.size) (fun H locs hP hS => ?_) hP
  unfold wL_pair at h
  refine lv_aload_n hx hb dL_pair_0 rfl (lv_at hl 3 rfl) ?_
  refine lv_iconst (v := 0) hx hb dL_pair_1 (by decide) ?_
  refine lv_aload_n hx hb dL_pair_2 rfl (lv_at hl 0 rfl) ?_
  refine lv_iload_n hx hb dL_pair_3 rfl (lv_at hl 1 rfl) ?_
  refine lv_iload_n hx hb dL_pair_4 rfl (lv_at hl 2 rfl) ?_
  refine xl_i (vx_runV (As := [.int v1, .int v2]) (rest := [.int 0, .ref (q 21)]) ⟨hx, hb, hml, hown, hts⟩ (ktX4_pair l hlt dC dI q cI cJ cZ H.size pg ps nf np nq ns po pt rf rl bx xl xr yl yh ms wt pf nr sl cl hu uu pd ro rc v1 v2 h) (cwV 2 hts gL_pair_X4_pair rfl rfl rfl (by decide +kernel) ⟨Nat.le_of_ble_eq_true rfl, Nat.le_of_ble_eq_true rfl⟩) ⟨wx.blind, va_recv hK hP (ci := 4) (q0 := 0) rfl rfl, fun U hU hW => ⟨rfl, wd.at (hP.sub [0, 1, 2, 3, 4, 5, 6, 7, 8, 9, 10, 11, 12, 13, 14, 15, 16, 17, 18, 19, 20] rfl) hK (fun i j hi hj => ha i j (by omega) (by omega)) hN hU hW, hE.at hS hU hW (AF.up (by omega) hS.1)⟩⟩ rfl rfl hl.1 rfl (lv_room (Nat.le_of_ble_eq_true rfl)) dL_pair_5 ⟨Nat.le_of_ble_eq_true rfl, Nat.le_of_ble_eq_true rfl⟩) hS ha (hP.sub [21] rfl)
    (fun E ce q9 u H locs h hP hS hce hcv hcl => by
          rcases h with ⟨rfl, h⟩ | ⟨rfl, h⟩
          · refine vx_catch (own := RL) (name := "java/lang/IndexOutOfBoundsException") hown [] ⟨0, 10, 13, 25⟩ [⟨0, 10, 17, 13⟩] (hT.trans rfl) (fun z hz => absurd hz List.not_mem_nil) (by decide) (by decide) (hts _ lkL_pair_25) (hE.cast (by decide)) hce hcv hcl ?_
            refine lv_astore (lv' := [(4, .ref q9), (0, .ref (q 0)), (1, .int v1), (2, .int v2), (3, .ref (q 21))]) hx hb dL_pair_13 hl (by decide) rfl (fun ls hl => ?_)
            refine lv_iconst (v := 1) hx hb dL_pair_15 (by decide) ?_
            exact vx_ret (rt_i (u.1, u.2.1, u.2.2.1, u.2.2.2.1, u.2.2.2.2.1, u.2.2.2.2.2.1, u.2.2.2.2.2.2.1, u.2.2.2.2.2.2.2, ou) hx hb hr hlk h (fun t ht => by rw [ht]; exact hP) hS dL_pair_16)
          · refine vx_catch (own := RL) (name := "java/lang/IllegalArgumentException") hown [⟨0, 10, 13, 25⟩] ⟨0, 10, 17, 13⟩ [] (hT.trans rfl) (fun z hz => by
            simp only [List.mem_cons, List.not_mem_nil, or_false] at hz
            subst hz
            exact Or.inr ⟨by decide, "java/lang/IndexOutOfBoundsException", hts _ lkL_pair_25, hC.1⟩) (by decide) (by decide) (hts _ lkL_pair_13) (hE.cast (by decide)) hce hcv hcl ?_
            refine lv_astore (lv' := [(4, .ref q9), (0, .ref (q 0)), (1, .int v1), (2, .int v2), (3, .ref (q 21))]) hx hb dL_pair_17 hl (by decide) rfl (fun ls hl => ?_)
            refine lv_iconst (v := 2) hx hb dL_pair_19 (by decide) ?_
            exact vx_ret (rt_i (u.1, u.2.1, u.2.2.1, u.2.2.2.1, u.2.2.2.2.1, u.2.2.2.2.2.1, u.2.2.2.2.2.2.1, u.2.2.2.2.2.2.2, ou) hx hb hr hlk h (fun t ht => by rw [ht]; exact hP) hS dL_pair_20))
    (fun r u H locs h hP hS => ?_)
  have hP : va_P (dC, dI) vwCl (WL q cI cJ cZ pg ps u.1 u.2.1 u.2.2.1 u.2.2.2.1 po pt rf rl bx xl xr yl yh ms wt u.2.2.2.2.1 u.2.2.2.2.2.1 u.2.2.2.2.2.2.1 u.2.2.2.2.2.2.2 hu uu pd ro rc ou) H := hP
  refine lv_i2l hx hb dL_pair_8 rfl ?_
  obtain ⟨b1, h⟩ := h
  refine va_last (D := (dC, dI)) hx hb hK hP (d_WL ha) hS 21 1 rfl rfl b1 dL_pair_9 (fun H locs hP _ hS => ?_)
  obtain ⟨f1, ef1⟩ : ∃ z : (Nat → Int64), z = vp_updL ou (0 : Int32).toNatClampNeg r.toInt64 := ⟨_, rfl⟩
  have h := h f1 ef1
  have hP : va_P (dC, dI) vwCl (WL q cI cJ cZ pg ps u.1 u.2.1 u.2.2.1 u.2.2.2.1 po pt rf rl bx xl xr yl yh ms wt u.2.2.2.2.1 u.2.2.2.2.2.1 u.2.2.2.2.2.2.1 u.2.2.2.2.2.2.2 hu uu pd ro rc f1) H := by rw [ef1]; exact hP
  refine lv_goto (tgt := 21) hx hb dL_pair_10 (by decide) ?_
  refine lv_iconst (v := 0) hx hb dL_pair_21 (by decide) ?_
  exact vx_ret (rt_i (u.1, u.2.1, u.2.2.1, u.2.2.2.1, u.2.2.2.2.1, u.2.2.2.2.2.1, u.2.2.2.2.2.2.1, u.2.2.2.2.2.2.2, f1) hx hb hr hlk h (fun t ht => by rw [ht]; exact hP) hS dL_pair_22)

set_option maxRecDepth 20000 in
theorem lkL_run_13 : Cond.classLink RL 13 "java/lang/IllegalArgumentException" ∈ wsL_run := by decide +kernel
abbrev QL_run (dC : Nat → ClassId) (dI : Nat → Nat → Nat) (cI cJ cZ : ClassId) (q : Nat → Nat) (sz : Nat) (pg : Int32) (ps : Int32) (rf : Int32) (rl : Int32) (bx : (Nat → Int32)) (xl : (Nat → Int32)) (xr : (Nat → Int32)) (yl : (Nat → Int32)) (yh : (Nat → Int32)) (ms : (Nat → Int32)) (wt : (Nat → Int32)) (ro : (Nat → Int32)) (rc : (Nat → Int64)) (K : Int32 → (Int32 × Int32 × Int32 × Int32 × Int32 × Int32 × (Nat → Int32) × (Nat → Int64) × (Nat → Int32) × (Nat → Int32) × (Nat → Int32) × (Nat → Int32) × (Nat → Int64) × (Nat → Int64)) → Prop) : Array Value → State → Outcome → State → Prop := va_Qi (fun (r : Int32) (u : Int32 × Int32 × Int32 × Int32 × Int32 × Int32 × (Nat → Int32) × (Nat → Int64) × (Nat → Int32) × (Nat → Int32) × (Nat → Int32) × (Nat → Int32) × (Nat → Int64) × (Nat → Int64)) => K r u) (fun (u : Int32 × Int32 × Int32 × Int32 × Int32 × Int32 × (Nat → Int32) × (Nat → Int64) × (Nat → Int32) × (Nat → Int32) × (Nat → Int32) × (Nat → Int32) × (Nat → Int64) × (Nat → Int64)) t => va_P (dC, dI) vwCl (WL q cI cJ cZ pg ps u.1 u.2.1 u.2.2.1 u.2.2.2.1 u.2.2.2.2.1 u.2.2.2.2.2.1 rf rl bx xl xr yl yh ms wt u.2.2.2.2.2.2.1 u.2.2.2.2.2.2.2.1 u.2.2.2.2.2.2.2.2.1 u.2.2.2.2.2.2.2.2.2.1 u.2.2.2.2.2.2.2.2.2.2.1 u.2.2.2.2.2.2.2.2.2.2.2.1 u.2.2.2.2.2.2.2.2.2.2.2.2.1 ro rc u.2.2.2.2.2.2.2.2.2.2.2.2.2) t.heap) (AF q 22 sz)
def wL_run (pg : Int32) (ps : Int32) (bx : (Nat → Int32)) (xl : (Nat → Int32)) (xr : (Nat → Int32)) (yl : (Nat → Int32)) (yh : (Nat → Int32)) (ms : (Nat → Int32)) (wt : (Nat → Int32)) (nf : Int32) (np : Int32) (nq : Int32) (ns : Int32) (po : Int32) (pt : Int32) (pf : (Nat → Int32)) (nr : (Nat → Int64)) (sl : (Nat → Int32)) (cl : (Nat → Int32)) (hu : (Nat → Int32)) (uu : (Nat → Int32)) (pd : (Nat → Int64)) (ou : (Nat → Int64)) (v1 : Int32) (v2 : Int32) (K : Int32 → (Int32 × Int32 × Int32 × Int32 × Int32 × Int32 × (Nat → Int32) × (Nat → Int64) × (Nat → Int32) × (Nat → Int32) × (Nat → Int32) × (Nat → Int32) × (Nat → Int64) × (Nat → Int64)) → Prop) : Prop := wX4_run pg ps bx xl xr yl yh ms wt nf np nq ns po pt pf nr sl cl hu uu pd v1 v2 (fun (r : Int32) (u : Int32 × Int32 × Int32 × Int32 × Int32 × Int32 × (Nat → Int32) × (Nat → Int64) × (Nat → Int32) × (Nat → Int32) × (Nat → Int32) × (Nat → Int32) × (Nat → Int64)) => (vp_in 0 1 ∧ (∀ f1 : (Nat → Int64), f1 = vp_updL ou (0 : Int32).toNatClampNeg r.toInt64 → K 0 (u.1, u.2.1, u.2.2.1, u.2.2.2.1, u.2.2.2.2.1, u.2.2.2.2.2.1, u.2.2.2.2.2.2.1, u.2.2.2.2.2.2.2.1, u.2.2.2.2.2.2.2.2.1, u.2.2.2.2.2.2.2.2.2.1, u.2.2.2.2.2.2.2.2.2.2.1, u.2.2.2.2.2.2.2.2.2.2.2.1, u.2.2.2.2.2.2.2.2.2.2.2.2, f1)))) (fun (E : String) (u : Int32 × Int32 × Int32 × Int32 × Int32 × Int32 × (Nat → Int32) × (Nat → Int64) × (Nat → Int32) × (Nat → Int32) × (Nat → Int32) × (Nat → Int32) × (Nat → Int64)) => (E = "java/lang/IllegalArgumentException" ∧ K 1 (u.1, u.2.1, u.2.2.1, u.2.2.2.1, u.2.2.2.2.1, u.2.2.2.2.2.1, u.2.2.2.2.2.2.1, u.2.2.2.2.2.2.2.1, u.2.2.2.2.2.2.2.2.1, u.2.2.2.2.2.2.2.2.2.1, u.2.2.2.2.2.2.2.2.2.2.1, u.2.2.2.2.2.2.2.2.2.2.2.1, u.2.2.2.2.2.2.2.2.2.2.2.2, ou)))
set_option maxHeartbeats 4000000 in
set_option maxRecDepth 100000 in
theorem ktL_run (l : Launch) (hlt : l.stackTraces = false) (dC : Nat → ClassId) (dI : Nat → Nat → Nat) (q : Nat → Nat) (cI cJ cZ : ClassId) (sz : Nat) (pg : Int32) (ps : Int32) (nf : Int32) (np : Int32) (nq : Int32) (ns : Int32) (po : Int32) (pt : Int32) (rf : Int32) (rl : Int32) (bx : (Nat → Int32)) (xl : (Nat → Int32)) (xr : (Nat → Int32)) (yl : (Nat → Int32)) (yh : (Nat → Int32)) (ms : (Nat → Int32)) (wt : (Nat → Int32)) (pf : (Nat → Int32)) (nr : (Nat → Int64)) (sl : (Nat → Int32)) (cl : (Nat → Int32)) (hu : (Nat → Int32)) (uu : (Nat → Int32)) (pd : (Nat → Int64)) (ro : (Nat → Int32)) (rc : (Nat → Int64)) (ou : (Nat → Int64)) (v1 : Int32) (v2 : Int32) {K : Int32 → (Int32 × Int32 × Int32 × Int32 × Int32 × Int32 × (Nat → Int32) × (Nat → Int64) × (Nat → Int32) × (Nat → Int32) × (Nat → Int32) × (Nat → Int32) × (Nat → Int64) × (Nat → Int64)) → Prop} (h : wL_run pg ps bx xl xr yl yh ms wt nf np nq ns po pt pf nr sl cl hu uu pd ou v1 v2 K) : vx_Met l yL_run wsL_run { frames := 7, cells := 1, slots := 6, locals := 163 } (va_Pc [.ref (q 0), .int v1, .int v2, .ref (q 21)] (wl dC dI cI cJ cZ q sz (WL q cI cJ cZ pg ps nf np nq ns po pt rf rl bx xl xr yl yh ms wt pf nr sl cl hu uu pd ro rc ou))) (QL_run dC dI cI cJ cZ q sz pg ps rf rl bx xl xr yl yh ms wt ro rc K) (XX (dC, dI) q 22 sz (fun _ (_ : Unit) => False) (fun _ => [])) 1 6 (AF q 22 sz) := by
  refine lmet_of [.ref (q 0), .int v1, .int v2, .ref (q 21)] (by decide +kernel) rfl (Nat.le_of_ble_eq_true rfl) ?_
  intro p e s m below meth c ls hsz C hT hK ha hN hE hC hl hP
  subst hsz
  obtain ⟨hx, hb, hr, hml, hown, hts, hlk⟩ := id C
  have hl : lv_has ls 5 [(0, .ref (q 0)), (1, .int v1), (2, .int v2), (3, .ref (q 21))] := hl
  refine w_go (Pw := fun H => va_P (dC, dI) vwCl (WL q cI cJ cZ pg ps nf np nq ns po pt rf rl bx xl xr yl yh ms wt pf nr sl cl hu uu pd ro rc ou) H) (A := AF q 22 s.heap.size) (fun H locs hP hS => ?_) hP
  unfold wL_run at h
  refine lv_aload_n hx hb dL_run_0 rfl (lv_at hl 3 rfl) ?_
  refine lv_iconst (v := 0) hx hb dL_run_1 (by decide) ?_
  refine lv_aload_n hx hb dL_run_2 rfl (lv_at hl 0 rfl) ?_
  refine lv_iload_n hx hb dL_run_3 rfl (lv_at hl 1 rfl) ?_
  refine lv_iload_n hx hb dL_run_4 rfl (lv_at hl 2 rfl) ?_
  refine xl_i (vx_runV (As := [.int v1, .int v2]) (rest := [.int 0, .ref (q 21)]) ⟨hx, hb, hml, hown, hts⟩ (ktX4_run l hlt dC dI q cI cJ cZ H.size pg ps nf np nq ns po pt rf rl bx xl xr yl yh ms wt pf nr sl cl hu uu pd ro rc v1 v2 h) (cwV 2 hts gL_run_X4_run rfl rfl rfl (by decide +kernel) ⟨Nat.le_of_ble_eq_true rfl, Nat.le_of_ble_eq_true rfl⟩) ⟨wx.blind, va_recv hK hP (ci := 4) (q0 := 0) rfl rfl, fun U hU hW => ⟨rfl, wd.at (hP.sub [0, 1, 2, 3, 4, 5, 6, 7, 8, 9, 10, 11, 12, 13, 14, 15, 16, 17, 18, 19, 20] rfl) hK (fun i j hi hj => ha i j (by omega) (by omega)) hN hU hW, hE.at hS hU hW (AF.up (by omega) hS.1)⟩⟩ rfl rfl hl.1 rfl (lv_room (Nat.le_of_ble_eq_true rfl)) dL_run_5 ⟨Nat.le_of_ble_eq_true rfl, Nat.le_of_ble_eq_true rfl⟩) hS ha (hP.sub [21] rfl)
    (fun E ce q9 u H locs h hP hS hce hcv hcl => by
          obtain ⟨rfl, h⟩ := h
          refine vx_catch (own := RL) (name := "java/lang/IllegalArgumentException") hown [] ⟨0, 10, 13, 13⟩ [] (hT.trans rfl) (fun z hz => absurd hz List.not_mem_nil) (by decide) (by decide) (hts _ lkL_run_13) (hE.cast (by decide)) hce hcv hcl ?_
          refine lv_astore (lv' := [(4, .ref q9), (0, .ref (q 0)), (1, .int v1), (2, .int v2), (3, .ref (q 21))]) hx hb dL_run_13 hl (by decide) rfl (fun ls hl => ?_)
          refine lv_iconst (v := 1) hx hb dL_run_15 (by decide) ?_
          exact vx_ret (rt_i (u.1, u.2.1, u.2.2.1, u.2.2.2.1, u.2.2.2.2.1, u.2.2.2.2.2.1, u.2.2.2.2.2.2.1, u.2.2.2.2.2.2.2.1, u.2.2.2.2.2.2.2.2.1, u.2.2.2.2.2.2.2.2.2.1, u.2.2.2.2.2.2.2.2.2.2.1, u.2.2.2.2.2.2.2.2.2.2.2.1, u.2.2.2.2.2.2.2.2.2.2.2.2, ou) hx hb hr hlk h (fun t ht => by rw [ht]; exact hP) hS dL_run_16))
    (fun r u H locs h hP hS => ?_)
  have hP : va_P (dC, dI) vwCl (WL q cI cJ cZ pg ps u.1 u.2.1 u.2.2.1 u.2.2.2.1 u.2.2.2.2.1 u.2.2.2.2.2.1 rf rl bx xl xr yl yh ms wt u.2.2.2.2.2.2.1 u.2.2.2.2.2.2.2.1 u.2.2.2.2.2.2.2.2.1 u.2.2.2.2.2.2.2.2.2.1 u.2.2.2.2.2.2.2.2.2.2.1 u.2.2.2.2.2.2.2.2.2.2.2.1 u.2.2.2.2.2.2.2.2.2.2.2.2 ro rc ou) H := hP
  refine lv_i2l hx hb dL_run_8 rfl ?_
  obtain ⟨b1, h⟩ := h
  refine va_last (D := (dC, dI)) hx hb hK hP (d_WL ha) hS 21 1 rfl rfl b1 dL_run_9 (fun H locs hP _ hS => ?_)
  obtain ⟨f1, ef1⟩ : ∃ z : (Nat → Int64), z = vp_updL ou (0 : Int32).toNatClampNeg r.toInt64 := ⟨_, rfl⟩
  have h := h f1 ef1
  have hP : va_P (dC, dI) vwCl (WL q cI cJ cZ pg ps u.1 u.2.1 u.2.2.1 u.2.2.2.1 u.2.2.2.2.1 u.2.2.2.2.2.1 rf rl bx xl xr yl yh ms wt u.2.2.2.2.2.2.1 u.2.2.2.2.2.2.2.1 u.2.2.2.2.2.2.2.2.1 u.2.2.2.2.2.2.2.2.2.1 u.2.2.2.2.2.2.2.2.2.2.1 u.2.2.2.2.2.2.2.2.2.2.2.1 u.2.2.2.2.2.2.2.2.2.2.2.2 ro rc f1) H := by rw [ef1]; exact hP
  refine lv_goto (tgt := 17) hx hb dL_run_10 (by decide) ?_
  refine lv_iconst (v := 0) hx hb dL_run_17 (by decide) ?_
  exact vx_ret (rt_i (u.1, u.2.1, u.2.2.1, u.2.2.2.1, u.2.2.2.2.1, u.2.2.2.2.2.1, u.2.2.2.2.2.2.1, u.2.2.2.2.2.2.2.1, u.2.2.2.2.2.2.2.2.1, u.2.2.2.2.2.2.2.2.2.1, u.2.2.2.2.2.2.2.2.2.2.1, u.2.2.2.2.2.2.2.2.2.2.2.1, u.2.2.2.2.2.2.2.2.2.2.2.2, f1) hx hb hr hlk h (fun t ht => by rw [ht]; exact hP) hS dL_run_18)

set_option maxRecDepth 20000 in
theorem lkL_colour_25 : Cond.classLink RL 25 "java/lang/IndexOutOfBoundsException" ∈ wsL_colour := by decide +kernel
abbrev QL_colour (dC : Nat → ClassId) (dI : Nat → Nat → Nat) (cI cJ cZ : ClassId) (q : Nat → Nat) (sz : Nat) (pg : Int32) (ps : Int32) (nf : Int32) (np : Int32) (nq : Int32) (ns : Int32) (po : Int32) (pt : Int32) (rf : Int32) (rl : Int32) (bx : (Nat → Int32)) (xl : (Nat → Int32)) (xr : (Nat → Int32)) (yl : (Nat → Int32)) (yh : (Nat → Int32)) (ms : (Nat → Int32)) (wt : (Nat → Int32)) (pf : (Nat → Int32)) (nr : (Nat → Int64)) (sl : (Nat → Int32)) (cl : (Nat → Int32)) (hu : (Nat → Int32)) (uu : (Nat → Int32)) (pd : (Nat → Int64)) (ro : (Nat → Int32)) (rc : (Nat → Int64)) (K : Int32 → (Nat → Int64) → Prop) : Array Value → State → Outcome → State → Prop := va_Qi (fun (r : Int32) (u : (Nat → Int64)) => K r u) (fun (u : (Nat → Int64)) t => va_P (dC, dI) vwCl (WL q cI cJ cZ pg ps nf np nq ns po pt rf rl bx xl xr yl yh ms wt pf nr sl cl hu uu pd ro rc u) t.heap) (AF q 22 sz)
def wL_colour (ps : Int32) (po : Int32) (bx : (Nat → Int32)) (pf : (Nat → Int32)) (hu : (Nat → Int32)) (ou : (Nat → Int64)) (v1 : Int32) (v2 : Int32) (K : Int32 → (Nat → Int64) → Prop) : Prop := wX4_colour ps po bx pf hu v1 v2 (fun (r : Int32) => (vp_in 0 1 ∧ (∀ f1 : (Nat → Int64), f1 = vp_updL ou (0 : Int32).toNatClampNeg r.toInt64 → K 0 f1))) (fun (E : String) => (E = "java/lang/IndexOutOfBoundsException" ∧ K 1 ou))
set_option maxHeartbeats 4000000 in
set_option maxRecDepth 100000 in
theorem ktL_colour (l : Launch) (hlt : l.stackTraces = false) (dC : Nat → ClassId) (dI : Nat → Nat → Nat) (q : Nat → Nat) (cI cJ cZ : ClassId) (sz : Nat) (pg : Int32) (ps : Int32) (nf : Int32) (np : Int32) (nq : Int32) (ns : Int32) (po : Int32) (pt : Int32) (rf : Int32) (rl : Int32) (bx : (Nat → Int32)) (xl : (Nat → Int32)) (xr : (Nat → Int32)) (yl : (Nat → Int32)) (yh : (Nat → Int32)) (ms : (Nat → Int32)) (wt : (Nat → Int32)) (pf : (Nat → Int32)) (nr : (Nat → Int64)) (sl : (Nat → Int32)) (cl : (Nat → Int32)) (hu : (Nat → Int32)) (uu : (Nat → Int32)) (pd : (Nat → Int64)) (ro : (Nat → Int32)) (rc : (Nat → Int64)) (ou : (Nat → Int64)) (v1 : Int32) (v2 : Int32) {K : Int32 → (Nat → Int64) → Prop} (h : wL_colour ps po bx pf hu ou v1 v2 K) : vx_Met l yL_colour wsL_colour { frames := 8, cells := 1, slots := 6, locals := 137 } (va_Pc [.ref (q 0), .int v1, .int v2, .ref (q 21)] (wl dC dI cI cJ cZ q sz (WL q cI cJ cZ pg ps nf np nq ns po pt rf rl bx xl xr yl yh ms wt pf nr sl cl hu uu pd ro rc ou))) (QL_colour dC dI cI cJ cZ q sz pg ps nf np nq ns po pt rf rl bx xl xr yl yh ms wt pf nr sl cl hu uu pd ro rc K) (XX (dC, dI) q 22 sz (fun _ (_ : Unit) => False) (fun _ => [])) 1 6 (AF q 22 sz) := by
  refine lmet_of [.ref (q 0), .int v1, .int v2, .ref (q 21)] (by decide +kernel) rfl (Nat.le_of_ble_eq_true rfl) ?_
  intro p e s m below meth c ls hsz C hT hK ha hN hE hC hl hP
  subst hsz
  obtain ⟨hx, hb, hr, hml, hown, hts, hlk⟩ := id C
  have hl : lv_has ls 5 [(0, .ref (q 0)), (1, .int v1), (2, .int v2), (3, .ref (q 21))] := hl
  refine w_go (Pw := fun H => va_P (dC, dI) vwCl (WL q cI cJ cZ pg ps nf np nq ns po pt rf rl bx xl xr yl yh ms wt pf nr sl cl hu uu pd ro rc ou) H) (A := AF q 22 s.heap.size) (fun H locs hP hS => ?_) hP
  unfold wL_colour at h
  refine lv_aload_n hx hb dL_colour_0 rfl (lv_at hl 3 rfl) ?_
  refine lv_iconst (v := 0) hx hb dL_colour_1 (by decide) ?_
  refine lv_aload_n hx hb dL_colour_2 rfl (lv_at hl 0 rfl) ?_
  refine lv_iload_n hx hb dL_colour_3 rfl (lv_at hl 1 rfl) ?_
  refine lv_iload_n hx hb dL_colour_4 rfl (lv_at hl 2 rfl) ?_
  refine xl_i (vx_runV (As := [.int v1, .int v2]) (rest := [.int 0, .ref (q 21)]) ⟨hx, hb, hml, hown, hts⟩ (ktX4_colour l hlt dC dI q cI cJ cZ H.size pg ps nf np nq ns po pt rf rl bx xl xr yl yh ms wt pf nr sl cl hu uu pd ro rc v1 v2 h) (cwV 2 hts gL_colour_X4_colour rfl rfl rfl (by decide +kernel) ⟨Nat.le_of_ble_eq_true rfl, Nat.le_of_ble_eq_true rfl⟩) ⟨wx.blind, va_recv hK hP (ci := 4) (q0 := 0) rfl rfl, fun U hU hW => ⟨rfl, wd.at (hP.sub [0, 1, 2, 3, 4, 5, 6, 7, 8, 9, 10, 11, 12, 13, 14, 15, 16, 17, 18, 19, 20] rfl) hK (fun i j hi hj => ha i j (by omega) (by omega)) hN hU hW, hE.at hS hU hW (AF.up (by omega) hS.1)⟩⟩ rfl rfl hl.1 rfl (lv_room (Nat.le_of_ble_eq_true rfl)) dL_colour_5 ⟨Nat.le_of_ble_eq_true rfl, Nat.le_of_ble_eq_true rfl⟩) hS ha (hP.sub [21] rfl)
    (fun E ce q9 _ H locs h hP hS hce hcv hcl => by
          obtain ⟨rfl, h⟩ := h
          refine vx_catch (own := RL) (name := "java/lang/IndexOutOfBoundsException") hown [] ⟨0, 10, 13, 25⟩ [] (hT.trans rfl) (fun z hz => absurd hz List.not_mem_nil) (by decide) (by decide) (hts _ lkL_colour_25) (hE.cast (by decide)) hce hcv hcl ?_
          refine lv_astore (lv' := [(4, .ref q9), (0, .ref (q 0)), (1, .int v1), (2, .int v2), (3, .ref (q 21))]) hx hb dL_colour_13 hl (by decide) rfl (fun ls hl => ?_)
          refine lv_iconst (v := 1) hx hb dL_colour_15 (by decide) ?_
          exact vx_ret (rt_i ou hx hb hr hlk h (fun t ht => by rw [ht]; exact hP) hS dL_colour_16))
    (fun r _ H locs h hP hS => ?_)
  have hP : va_P (dC, dI) vwCl (WL q cI cJ cZ pg ps nf np nq ns po pt rf rl bx xl xr yl yh ms wt pf nr sl cl hu uu pd ro rc ou) H := hP
  refine lv_i2l hx hb dL_colour_8 rfl ?_
  obtain ⟨b1, h⟩ := h
  refine va_last (D := (dC, dI)) hx hb hK hP (d_WL ha) hS 21 1 rfl rfl b1 dL_colour_9 (fun H locs hP _ hS => ?_)
  obtain ⟨f1, ef1⟩ : ∃ z : (Nat → Int64), z = vp_updL ou (0 : Int32).toNatClampNeg r.toInt64 := ⟨_, rfl⟩
  have h := h f1 ef1
  have hP : va_P (dC, dI) vwCl (WL q cI cJ cZ pg ps nf np nq ns po pt rf rl bx xl xr yl yh ms wt pf nr sl cl hu uu pd ro rc f1) H := by rw [ef1]; exact hP
  refine lv_goto (tgt := 17) hx hb dL_colour_10 (by decide) ?_
  refine lv_iconst (v := 0) hx hb dL_colour_17 (by decide) ?_
  exact vx_ret (rt_i f1 hx hb hr hlk h (fun t ht => by rw [ht]; exact hP) hS dL_colour_18)

set_option maxRecDepth 20000 in
theorem lkL_area_13 : Cond.classLink RL 13 "java/lang/IllegalArgumentException" ∈ wsL_area := by decide +kernel
abbrev QL_area (dC : Nat → ClassId) (dI : Nat → Nat → Nat) (cI cJ cZ : ClassId) (q : Nat → Nat) (sz : Nat) (pg : Int32) (ps : Int32) (nf : Int32) (np : Int32) (nq : Int32) (ns : Int32) (po : Int32) (pt : Int32) (rf : Int32) (rl : Int32) (bx : (Nat → Int32)) (xl : (Nat → Int32)) (xr : (Nat → Int32)) (yl : (Nat → Int32)) (yh : (Nat → Int32)) (ms : (Nat → Int32)) (wt : (Nat → Int32)) (pf : (Nat → Int32)) (nr : (Nat → Int64)) (sl : (Nat → Int32)) (cl : (Nat → Int32)) (hu : (Nat → Int32)) (uu : (Nat → Int32)) (pd : (Nat → Int64)) (ro : (Nat → Int32)) (rc : (Nat → Int64)) (K : Int32 → (Nat → Int64) → Prop) : Array Value → State → Outcome → State → Prop := va_Qi (fun (r : Int32) (u : (Nat → Int64)) => K r u) (fun (u : (Nat → Int64)) t => va_P (dC, dI) vwCl (WL q cI cJ cZ pg ps nf np nq ns po pt rf rl bx xl xr yl yh ms wt pf nr sl cl hu uu pd ro rc u) t.heap) (AF q 22 sz)
def wL_area (ps : Int32) (po : Int32) (bx : (Nat → Int32)) (xl : (Nat → Int32)) (xr : (Nat → Int32)) (yl : (Nat → Int32)) (yh : (Nat → Int32)) (pf : (Nat → Int32)) (hu : (Nat → Int32)) (ou : (Nat → Int64)) (v1 : Int32) (K : Int32 → (Nat → Int64) → Prop) : Prop := wX4_area ps po bx xl xr yl yh pf hu v1 (fun (r : Int64) => (vp_in 0 1 ∧ (∀ f1 : (Nat → Int64), f1 = vp_updL ou (0 : Int32).toNatClampNeg r → K 0 f1))) (fun (E : String) => (E = "java/lang/IllegalArgumentException" ∧ K 1 ou))
set_option maxHeartbeats 4000000 in
set_option maxRecDepth 100000 in
theorem ktL_area (l : Launch) (hlt : l.stackTraces = false) (dC : Nat → ClassId) (dI : Nat → Nat → Nat) (q : Nat → Nat) (cI cJ cZ : ClassId) (sz : Nat) (pg : Int32) (ps : Int32) (nf : Int32) (np : Int32) (nq : Int32) (ns : Int32) (po : Int32) (pt : Int32) (rf : Int32) (rl : Int32) (bx : (Nat → Int32)) (xl : (Nat → Int32)) (xr : (Nat → Int32)) (yl : (Nat → Int32)) (yh : (Nat → Int32)) (ms : (Nat → Int32)) (wt : (Nat → Int32)) (pf : (Nat → Int32)) (nr : (Nat → Int64)) (sl : (Nat → Int32)) (cl : (Nat → Int32)) (hu : (Nat → Int32)) (uu : (Nat → Int32)) (pd : (Nat → Int64)) (ro : (Nat → Int32)) (rc : (Nat → Int64)) (ou : (Nat → Int64)) (v1 : Int32) {K : Int32 → (Nat → Int64) → Prop} (h : wL_area ps po bx xl xr yl yh pf hu ou v1 K) : vx_Met l yL_area wsL_area { frames := 7, cells := 1, slots := 6, locals := 113 } (va_Pc [.ref (q 0), .int v1, .ref (q 21)] (wl dC dI cI cJ cZ q sz (WL q cI cJ cZ pg ps nf np nq ns po pt rf rl bx xl xr yl yh ms wt pf nr sl cl hu uu pd ro rc ou))) (QL_area dC dI cI cJ cZ q sz pg ps nf np nq ns po pt rf rl bx xl xr yl yh ms wt pf nr sl cl hu uu pd ro rc K) (XX (dC, dI) q 22 sz (fun _ (_ : Unit) => False) (fun _ => [])) 1 6 (AF q 22 sz) := by
  refine lmet_of [.ref (q 0), .int v1, .ref (q 21)] (by decide +kernel) rfl (Nat.le_of_ble_eq_true rfl) ?_
  intro p e s m below meth c ls hsz C hT hK ha hN hE hC hl hP
  subst hsz
  obtain ⟨hx, hb, hr, hml, hown, hts, hlk⟩ := id C
  have hl : lv_has ls 4 [(0, .ref (q 0)), (1, .int v1), (2, .ref (q 21))] := hl
  refine w_go (Pw := fun H => va_P (dC, dI) vwCl (WL q cI cJ cZ pg ps nf np nq ns po pt rf rl bx xl xr yl yh ms wt pf nr sl cl hu uu pd ro rc ou) H) (A := AF q 22 s.heap.size) (fun H locs hP hS => ?_) hP
  unfold wL_area at h
  refine lv_aload_n hx hb dL_area_0 rfl (lv_at hl 2 rfl) ?_
  refine lv_iconst (v := 0) hx hb dL_area_1 (by decide) ?_
  refine lv_aload_n hx hb dL_area_2 rfl (lv_at hl 0 rfl) ?_
  refine lv_iload_n hx hb dL_area_3 rfl (lv_at hl 1 rfl) ?_
  refine xl_l (vx_runV (As := [.int v1]) (rest := [.int 0, .ref (q 21)]) ⟨hx, hb, hml, hown, hts⟩ (ktX4_area l hlt dC dI q cI cJ cZ H.size pg ps nf np nq ns po pt rf rl bx xl xr yl yh ms wt pf nr sl cl hu uu pd ro rc v1 h) (cwV 1 hts gL_area_X4_area rfl rfl rfl (by decide +kernel) ⟨Nat.le_of_ble_eq_true rfl, Nat.le_of_ble_eq_true rfl⟩) ⟨wx.blind, va_recv hK hP (ci := 4) (q0 := 0) rfl rfl, fun U hU hW => ⟨rfl, wd.at (hP.sub [0, 1, 2, 3, 4, 5, 6, 7, 8, 9, 10, 11, 12, 13, 14, 15, 16, 17, 18, 19, 20] rfl) hK (fun i j hi hj => ha i j (by omega) (by omega)) hN hU hW, hE.at hS hU hW (AF.up (by omega) hS.1)⟩⟩ rfl rfl hl.1 rfl (lv_room (Nat.le_of_ble_eq_true rfl)) dL_area_4 ⟨Nat.le_of_ble_eq_true rfl, Nat.le_of_ble_eq_true rfl⟩) hS ha (hP.sub [21] rfl)
    (fun E ce q9 _ H locs h hP hS hce hcv hcl => by
          obtain ⟨rfl, h⟩ := h
          refine vx_catch (own := RL) (name := "java/lang/IllegalArgumentException") hown [] ⟨0, 8, 11, 13⟩ [] (hT.trans rfl) (fun z hz => absurd hz List.not_mem_nil) (by decide) (by decide) (hts _ lkL_area_13) (hE.cast (by decide)) hce hcv hcl ?_
          refine lv_astore_n (lv' := [(3, .ref q9), (0, .ref (q 0)), (1, .int v1), (2, .ref (q 21))]) hx hb dL_area_11 rfl hl (by decide) rfl (fun ls hl => ?_)
          refine lv_iconst (v := 1) hx hb dL_area_12 (by decide) ?_
          exact vx_ret (rt_i ou hx hb hr hlk h (fun t ht => by rw [ht]; exact hP) hS dL_area_13))
    (fun r _ H locs h hP hS => ?_)
  have hP : va_P (dC, dI) vwCl (WL q cI cJ cZ pg ps nf np nq ns po pt rf rl bx xl xr yl yh ms wt pf nr sl cl hu uu pd ro rc ou) H := hP
  obtain ⟨b1, h⟩ := h
  refine va_last (D := (dC, dI)) hx hb hK hP (d_WL ha) hS 21 1 rfl rfl b1 dL_area_7 (fun H locs hP _ hS => ?_)
  obtain ⟨f1, ef1⟩ : ∃ z : (Nat → Int64), z = vp_updL ou (0 : Int32).toNatClampNeg r := ⟨_, rfl⟩
  have h := h f1 ef1
  have hP : va_P (dC, dI) vwCl (WL q cI cJ cZ pg ps nf np nq ns po pt rf rl bx xl xr yl yh ms wt pf nr sl cl hu uu pd ro rc f1) H := by rw [ef1]; exact hP
  refine lv_goto (tgt := 14) hx hb dL_area_8 (by decide) ?_
  refine lv_iconst (v := 0) hx hb dL_area_14 (by decide) ?_
  exact vx_ret (rt_i f1 hx hb hr hlk h (fun t ht => by rw [ht]; exact hP) hS dL_area_15)

set_option maxRecDepth 20000 in
theorem lkL_ringAt_25 : Cond.classLink RL 25 "java/lang/IndexOutOfBoundsException" ∈ wsL_ringAt := by decide +kernel
abbrev QL_ringAt (dC : Nat → ClassId) (dI : Nat → Nat → Nat) (cI cJ cZ : ClassId) (q : Nat → Nat) (sz : Nat) (pg : Int32) (ps : Int32) (po : Int32) (pt : Int32) (bx : (Nat → Int32)) (xl : (Nat → Int32)) (xr : (Nat → Int32)) (yl : (Nat → Int32)) (yh : (Nat → Int32)) (ms : (Nat → Int32)) (wt : (Nat → Int32)) (hu : (Nat → Int32)) (uu : (Nat → Int32)) (pd : (Nat → Int64)) (K : Int32 → (Int32 × Int32 × Int32 × Int32 × Int32 × Int32 × (Nat → Int32) × (Nat → Int64) × (Nat → Int32) × (Nat → Int32) × (Nat → Int32) × (Nat → Int64) × (Nat → Int64)) → Prop) : Array Value → State → Outcome → State → Prop := va_Qi (fun (r : Int32) (u : Int32 × Int32 × Int32 × Int32 × Int32 × Int32 × (Nat → Int32) × (Nat → Int64) × (Nat → Int32) × (Nat → Int32) × (Nat → Int32) × (Nat → Int64) × (Nat → Int64)) => K r u) (fun (u : Int32 × Int32 × Int32 × Int32 × Int32 × Int32 × (Nat → Int32) × (Nat → Int64) × (Nat → Int32) × (Nat → Int32) × (Nat → Int32) × (Nat → Int64) × (Nat → Int64)) t => va_P (dC, dI) vwCl (WL q cI cJ cZ pg ps u.1 u.2.1 u.2.2.1 u.2.2.2.1 po pt u.2.2.2.2.1 u.2.2.2.2.2.1 bx xl xr yl yh ms wt u.2.2.2.2.2.2.1 u.2.2.2.2.2.2.2.1 u.2.2.2.2.2.2.2.2.1 u.2.2.2.2.2.2.2.2.2.1 hu uu pd u.2.2.2.2.2.2.2.2.2.2.1 u.2.2.2.2.2.2.2.2.2.2.2.1 u.2.2.2.2.2.2.2.2.2.2.2.2) t.heap) (AF q 22 sz)
def wL_ringAt (pg : Int32) (ps : Int32) (bx : (Nat → Int32)) (xl : (Nat → Int32)) (xr : (Nat → Int32)) (yl : (Nat → Int32)) (yh : (Nat → Int32)) (ms : (Nat → Int32)) (wt : (Nat → Int32)) (nf : Int32) (np : Int32) (nq : Int32) (ns : Int32) (rf : Int32) (rl : Int32) (pf : (Nat → Int32)) (nr : (Nat → Int64)) (sl : (Nat → Int32)) (cl : (Nat → Int32)) (ro : (Nat → Int32)) (rc : (Nat → Int64)) (ou : (Nat → Int64)) (v1 : Int32) (K : Int32 → (Int32 × Int32 × Int32 × Int32 × Int32 × Int32 × (Nat → Int32) × (Nat → Int64) × (Nat → Int32) × (Nat → Int32) × (Nat → Int32) × (Nat → Int64) × (Nat → Int64)) → Prop) : Prop := wX4_ringAt pg ps bx xl xr yl yh ms wt nf np nq ns rf rl pf nr sl cl ro rc v1 (fun (r : Int32) (u : Int32 × Int32 × Int32 × Int32 × Int32 × Int32 × (Nat → Int32) × (Nat → Int64) × (Nat → Int32) × (Nat → Int32) × (Nat → Int32) × (Nat → Int64)) => (vp_in 0 1 ∧ (∀ f1 : (Nat → Int64), f1 = vp_updL ou (0 : Int32).toNatClampNeg r.toInt64 → K 0 (u.1, u.2.1, u.2.2.1, u.2.2.2.1, u.2.2.2.2.1, u.2.2.2.2.2.1, u.2.2.2.2.2.2.1, u.2.2.2.2.2.2.2.1, u.2.2.2.2.2.2.2.2.1, u.2.2.2.2.2.2.2.2.2.1, u.2.2.2.2.2.2.2.2.2.2.1, u.2.2.2.2.2.2.2.2.2.2.2, f1)))) (fun (E : String) (u : Int32 × Int32 × Int32 × Int32 × Int32 × Int32 × (Nat → Int32) × (Nat → Int64) × (Nat → Int32) × (Nat → Int32) × (Nat → Int32) × (Nat → Int64)) => (E = "java/lang/IndexOutOfBoundsException" ∧ K 1 (u.1, u.2.1, u.2.2.1, u.2.2.2.1, u.2.2.2.2.1, u.2.2.2.2.2.1, u.2.2.2.2.2.2.1, u.2.2.2.2.2.2.2.1, u.2.2.2.2.2.2.2.2.1, u.2.2.2.2.2.2.2.2.2.1, u.2.2.2.2.2.2.2.2.2.2.1, u.2.2.2.2.2.2.2.2.2.2.2, ou)))
set_option maxHeartbeats 4000000 in
set_option maxRecDepth 100000 in
theorem ktL_ringAt (l : Launch) (hlt : l.stackTraces = false) (dC : Nat → ClassId) (dI : Nat → Nat → Nat) (q : Nat → Nat) (cI cJ cZ : ClassId) (sz : Nat) (pg : Int32) (ps : Int32) (nf : Int32) (np : Int32) (nq : Int32) (ns : Int32) (po : Int32) (pt : Int32) (rf : Int32) (rl : Int32) (bx : (Nat → Int32)) (xl : (Nat → Int32)) (xr : (Nat → Int32)) (yl : (Nat → Int32)) (yh : (Nat → Int32)) (ms : (Nat → Int32)) (wt : (Nat → Int32)) (pf : (Nat → Int32)) (nr : (Nat → Int64)) (sl : (Nat → Int32)) (cl : (Nat → Int32)) (hu : (Nat → Int32)) (uu : (Nat → Int32)) (pd : (Nat → Int64)) (ro : (Nat → Int32)) (rc : (Nat → Int64)) (ou : (Nat → Int64)) (v1 : Int32) {K : Int32 → (Int32 × Int32 × Int32 × Int32 × Int32 × Int32 × (Nat → Int32) × (Nat → Int64) × (Nat → Int32) × (Nat → Int32) × (Nat → Int32) × (Nat → Int64) × (Nat → Int64)) → Prop} (h : wL_ringAt pg ps bx xl xr yl yh ms wt nf np nq ns rf rl pf nr sl cl ro rc ou v1 K) : vx_Met l yL_ringAt wsL_ringAt { frames := 7, cells := 1, slots := 6, locals := 162 } (va_Pc [.ref (q 0), .int v1, .ref (q 21)] (wl dC dI cI cJ cZ q sz (WL q cI cJ cZ pg ps nf np nq ns po pt rf rl bx xl xr yl yh ms wt pf nr sl cl hu uu pd ro rc ou))) (QL_ringAt dC dI cI cJ cZ q sz pg ps po pt bx xl xr yl yh ms wt hu uu pd K) (XX (dC, dI) q 22 sz (fun _ (_ : Unit) => False) (fun _ => [])) 1 6 (AF q 22 sz) := by
  refine lmet_of [.ref (q 0), .int v1, .ref (q 21)] (by decide +kernel) rfl (Nat.le_of_ble_eq_true rfl) ?_
  intro p e s m below meth c ls hsz C hT hK ha hN hE hC hl hP
  subst hsz
  obtain ⟨hx, hb, hr, hml, hown, hts, hlk⟩ := id C
  have hl : lv_has ls 4 [(0, .ref (q 0)), (1, .int v1), (2, .ref (q 21))] := hl
  refine w_go (Pw := fun H => va_P (dC, dI) vwCl (WL q cI cJ cZ pg ps nf np nq ns po pt rf rl bx xl xr yl yh ms wt pf nr sl cl hu uu pd ro rc ou) H) (A := AF q 22 s.heap.size) (fun H locs hP hS => ?_) hP
  unfold wL_ringAt at h
  refine lv_aload_n hx hb dL_ringAt_0 rfl (lv_at hl 2 rfl) ?_
  refine lv_iconst (v := 0) hx hb dL_ringAt_1 (by decide) ?_
  refine lv_aload_n hx hb dL_ringAt_2 rfl (lv_at hl 0 rfl) ?_
  refine lv_iload_n hx hb dL_ringAt_3 rfl (lv_at hl 1 rfl) ?_
  refine xl_i (vx_runV (As := [.int v1]) (rest := [.int 0, .ref (q 21)]) ⟨hx, hb, hml, hown, hts⟩ (ktX4_ringAt l hlt dC dI q cI cJ cZ H.size pg ps nf np nq ns po pt rf rl bx xl xr yl yh ms wt pf nr sl cl hu uu pd ro rc v1 h) (cwV 1 hts gL_ringAt_X4_ringAt rfl rfl rfl (by decide +kernel) ⟨Nat.le_of_ble_eq_true rfl, Nat.le_of_ble_eq_true rfl⟩) ⟨wx.blind, va_recv hK hP (ci := 4) (q0 := 0) rfl rfl, fun U hU hW => ⟨rfl, wd.at (hP.sub [0, 1, 2, 3, 4, 5, 6, 7, 8, 9, 10, 11, 12, 13, 14, 15, 16, 17, 18, 19, 20] rfl) hK (fun i j hi hj => ha i j (by omega) (by omega)) hN hU hW, hE.at hS hU hW (AF.up (by omega) hS.1)⟩⟩ rfl rfl hl.1 rfl (lv_room (Nat.le_of_ble_eq_true rfl)) dL_ringAt_4 ⟨Nat.le_of_ble_eq_true rfl, Nat.le_of_ble_eq_true rfl⟩) hS ha (hP.sub [21] rfl)
    (fun E ce q9 u H locs h hP hS hce hcv hcl => by
          obtain ⟨rfl, h⟩ := h
          refine vx_catch (own := RL) (name := "java/lang/IndexOutOfBoundsException") hown [] ⟨0, 9, 12, 25⟩ [] (hT.trans rfl) (fun z hz => absurd hz List.not_mem_nil) (by decide) (by decide) (hts _ lkL_ringAt_25) (hE.cast (by decide)) hce hcv hcl ?_
          refine lv_astore_n (lv' := [(3, .ref q9), (0, .ref (q 0)), (1, .int v1), (2, .ref (q 21))]) hx hb dL_ringAt_12 rfl hl (by decide) rfl (fun ls hl => ?_)
          refine lv_iconst (v := 1) hx hb dL_ringAt_13 (by decide) ?_
          exact vx_ret (rt_i (u.1, u.2.1, u.2.2.1, u.2.2.2.1, u.2.2.2.2.1, u.2.2.2.2.2.1, u.2.2.2.2.2.2.1, u.2.2.2.2.2.2.2.1, u.2.2.2.2.2.2.2.2.1, u.2.2.2.2.2.2.2.2.2.1, u.2.2.2.2.2.2.2.2.2.2.1, u.2.2.2.2.2.2.2.2.2.2.2, ou) hx hb hr hlk h (fun t ht => by rw [ht]; exact hP) hS dL_ringAt_14))
    (fun r u H locs h hP hS => ?_)
  have hP : va_P (dC, dI) vwCl (WL q cI cJ cZ pg ps u.1 u.2.1 u.2.2.1 u.2.2.2.1 po pt u.2.2.2.2.1 u.2.2.2.2.2.1 bx xl xr yl yh ms wt u.2.2.2.2.2.2.1 u.2.2.2.2.2.2.2.1 u.2.2.2.2.2.2.2.2.1 u.2.2.2.2.2.2.2.2.2.1 hu uu pd u.2.2.2.2.2.2.2.2.2.2.1 u.2.2.2.2.2.2.2.2.2.2.2 ou) H := hP
  refine lv_i2l hx hb dL_ringAt_7 rfl ?_
  obtain ⟨b1, h⟩ := h
  refine va_last (D := (dC, dI)) hx hb hK hP (d_WL ha) hS 21 1 rfl rfl b1 dL_ringAt_8 (fun H locs hP _ hS => ?_)
  obtain ⟨f1, ef1⟩ : ∃ z : (Nat → Int64), z = vp_updL ou (0 : Int32).toNatClampNeg r.toInt64 := ⟨_, rfl⟩
  have h := h f1 ef1
  have hP : va_P (dC, dI) vwCl (WL q cI cJ cZ pg ps u.1 u.2.1 u.2.2.1 u.2.2.2.1 po pt u.2.2.2.2.1 u.2.2.2.2.2.1 bx xl xr yl yh ms wt u.2.2.2.2.2.2.1 u.2.2.2.2.2.2.2.1 u.2.2.2.2.2.2.2.2.1 u.2.2.2.2.2.2.2.2.2.1 hu uu pd u.2.2.2.2.2.2.2.2.2.2.1 u.2.2.2.2.2.2.2.2.2.2.2 f1) H := by rw [ef1]; exact hP
  refine lv_goto (tgt := 15) hx hb dL_ringAt_9 (by decide) ?_
  refine lv_iconst (v := 0) hx hb dL_ringAt_15 (by decide) ?_
  exact vx_ret (rt_i (u.1, u.2.1, u.2.2.1, u.2.2.2.1, u.2.2.2.2.1, u.2.2.2.2.2.1, u.2.2.2.2.2.2.1, u.2.2.2.2.2.2.2.1, u.2.2.2.2.2.2.2.2.1, u.2.2.2.2.2.2.2.2.2.1, u.2.2.2.2.2.2.2.2.2.2.1, u.2.2.2.2.2.2.2.2.2.2.2, f1) hx hb hr hlk h (fun t ht => by rw [ht]; exact hP) hS dL_ringAt_16)

set_option maxRecDepth 20000 in
theorem lkL_told_13 : Cond.classLink RL 13 "java/lang/IllegalArgumentException" ∈ wsL_told := by decide +kernel
abbrev QL_told (dC : Nat → ClassId) (dI : Nat → Nat → Nat) (cI cJ cZ : ClassId) (q : Nat → Nat) (sz : Nat) (pg : Int32) (ps : Int32) (po : Int32) (pt : Int32) (rf : Int32) (rl : Int32) (bx : (Nat → Int32)) (xl : (Nat → Int32)) (xr : (Nat → Int32)) (yl : (Nat → Int32)) (yh : (Nat → Int32)) (ms : (Nat → Int32)) (wt : (Nat → Int32)) (hu : (Nat → Int32)) (uu : (Nat → Int32)) (pd : (Nat → Int64)) (ro : (Nat → Int32)) (rc : (Nat → Int64)) (K : Int32 → (Int32 × Int32 × Int32 × Int32 × (Nat → Int32) × (Nat → Int64) × (Nat → Int32) × (Nat → Int32) × (Nat → Int64)) → Prop) : Array Value → State → Outcome → State → Prop := va_Qi (fun (r : Int32) (u : Int32 × Int32 × Int32 × Int32 × (Nat → Int32) × (Nat → Int64) × (Nat → Int32) × (Nat → Int32) × (Nat → Int64)) => K r u) (fun (u : Int32 × Int32 × Int32 × Int32 × (Nat → Int32) × (Nat → Int64) × (Nat → Int32) × (Nat → Int32) × (Nat → Int64)) t => va_P (dC, dI) vwCl (WL q cI cJ cZ pg ps u.1 u.2.1 u.2.2.1 u.2.2.2.1 po pt rf rl bx xl xr yl yh ms wt u.2.2.2.2.1 u.2.2.2.2.2.1 u.2.2.2.2.2.2.1 u.2.2.2.2.2.2.2.1 hu uu pd ro rc u.2.2.2.2.2.2.2.2) t.heap) (AF q 22 sz)
def wL_told (pg : Int32) (ps : Int32) (bx : (Nat → Int32)) (xl : (Nat → Int32)) (xr : (Nat → Int32)) (yl : (Nat → Int32)) (yh : (Nat → Int32)) (ms : (Nat → Int32)) (wt : (Nat → Int32)) (nf : Int32) (np : Int32) (nq : Int32) (ns : Int32) (pf : (Nat → Int32)) (nr : (Nat → Int64)) (sl : (Nat → Int32)) (cl : (Nat → Int32)) (ou : (Nat → Int64)) (v1 : Int32) (K : Int32 → (Int32 × Int32 × Int32 × Int32 × (Nat → Int32) × (Nat → Int64) × (Nat → Int32) × (Nat → Int32) × (Nat → Int64)) → Prop) : Prop := wX4_told pg ps bx xl xr yl yh ms wt nf np nq ns pf nr sl cl v1 (fun (r : Int32) (u : Int32 × Int32 × Int32 × Int32 × (Nat → Int32) × (Nat → Int64) × (Nat → Int32) × (Nat → Int32)) => (vp_in 0 1 ∧ (∀ f1 : (Nat → Int64), f1 = vp_updL ou (0 : Int32).toNatClampNeg r.toInt64 → K 0 (u.1, u.2.1, u.2.2.1, u.2.2.2.1, u.2.2.2.2.1, u.2.2.2.2.2.1, u.2.2.2.2.2.2.1, u.2.2.2.2.2.2.2, f1)))) (fun (E : String) (u : Int32 × Int32 × Int32 × Int32 × (Nat → Int32) × (Nat → Int64) × (Nat → Int32) × (Nat → Int32)) => (E = "java/lang/IllegalArgumentException" ∧ K 1 (u.1, u.2.1, u.2.2.1, u.2.2.2.1, u.2.2.2.2.1, u.2.2.2.2.2.1, u.2.2.2.2.2.2.1, u.2.2.2.2.2.2.2, ou)))
set_option maxHeartbeats 4000000 in
set_option maxRecDepth 100000 in
theorem ktL_told (l : Launch) (hlt : l.stackTraces = false) (dC : Nat → ClassId) (dI : Nat → Nat → Nat) (q : Nat → Nat) (cI cJ cZ : ClassId) (sz : Nat) (pg : Int32) (ps : Int32) (nf : Int32) (np : Int32) (nq : Int32) (ns : Int32) (po : Int32) (pt : Int32) (rf : Int32) (rl : Int32) (bx : (Nat → Int32)) (xl : (Nat → Int32)) (xr : (Nat → Int32)) (yl : (Nat → Int32)) (yh : (Nat → Int32)) (ms : (Nat → Int32)) (wt : (Nat → Int32)) (pf : (Nat → Int32)) (nr : (Nat → Int64)) (sl : (Nat → Int32)) (cl : (Nat → Int32)) (hu : (Nat → Int32)) (uu : (Nat → Int32)) (pd : (Nat → Int64)) (ro : (Nat → Int32)) (rc : (Nat → Int64)) (ou : (Nat → Int64)) (v1 : Int32) {K : Int32 → (Int32 × Int32 × Int32 × Int32 × (Nat → Int32) × (Nat → Int64) × (Nat → Int32) × (Nat → Int32) × (Nat → Int64)) → Prop} (h : wL_told pg ps bx xl xr yl yh ms wt nf np nq ns pf nr sl cl ou v1 K) : vx_Met l yL_told wsL_told { frames := 7, cells := 1, slots := 6, locals := 162 } (va_Pc [.ref (q 0), .int v1, .ref (q 21)] (wl dC dI cI cJ cZ q sz (WL q cI cJ cZ pg ps nf np nq ns po pt rf rl bx xl xr yl yh ms wt pf nr sl cl hu uu pd ro rc ou))) (QL_told dC dI cI cJ cZ q sz pg ps po pt rf rl bx xl xr yl yh ms wt hu uu pd ro rc K) (XX (dC, dI) q 22 sz (fun _ (_ : Unit) => False) (fun _ => [])) 1 6 (AF q 22 sz) := by
  refine lmet_of [.ref (q 0), .int v1, .ref (q 21)] (by decide +kernel) rfl (Nat.le_of_ble_eq_true rfl) ?_
  intro p e s m below meth c ls hsz C hT hK ha hN hE hC hl hP
  subst hsz
  obtain ⟨hx, hb, hr, hml, hown, hts, hlk⟩ := id C
  have hl : lv_has ls 4 [(0, .ref (q 0)), (1, .int v1), (2, .ref (q 21))] := hl
  refine w_go (Pw := fun H => va_P (dC, dI) vwCl (WL q cI cJ cZ pg ps nf np nq ns po pt rf rl bx xl xr yl yh ms wt pf nr sl cl hu uu pd ro rc ou) H) (A := AF q 22 s.heap.size) (fun H locs hP hS => ?_) hP
  unfold wL_told at h
  refine lv_aload_n hx hb dL_told_0 rfl (lv_at hl 2 rfl) ?_
  refine lv_iconst (v := 0) hx hb dL_told_1 (by decide) ?_
  refine lv_aload_n hx hb dL_told_2 rfl (lv_at hl 0 rfl) ?_
  refine lv_iload_n hx hb dL_told_3 rfl (lv_at hl 1 rfl) ?_
  refine xl_i (vx_runV (As := [.int v1]) (rest := [.int 0, .ref (q 21)]) ⟨hx, hb, hml, hown, hts⟩ (ktX4_told l hlt dC dI q cI cJ cZ H.size pg ps nf np nq ns po pt rf rl bx xl xr yl yh ms wt pf nr sl cl hu uu pd ro rc v1 h) (cwV 1 hts gL_told_X4_told rfl rfl rfl (by decide +kernel) ⟨Nat.le_of_ble_eq_true rfl, Nat.le_of_ble_eq_true rfl⟩) ⟨wx.blind, va_recv hK hP (ci := 4) (q0 := 0) rfl rfl, fun U hU hW => ⟨rfl, wd.at (hP.sub [0, 1, 2, 3, 4, 5, 6, 7, 8, 9, 10, 11, 12, 13, 14, 15, 16, 17, 18, 19, 20] rfl) hK (fun i j hi hj => ha i j (by omega) (by omega)) hN hU hW, hE.at hS hU hW (AF.up (by omega) hS.1)⟩⟩ rfl rfl hl.1 rfl (lv_room (Nat.le_of_ble_eq_true rfl)) dL_told_4 ⟨Nat.le_of_ble_eq_true rfl, Nat.le_of_ble_eq_true rfl⟩) hS ha (hP.sub [21] rfl)
    (fun E ce q9 u H locs h hP hS hce hcv hcl => by
          obtain ⟨rfl, h⟩ := h
          refine vx_catch (own := RL) (name := "java/lang/IllegalArgumentException") hown [] ⟨0, 9, 12, 13⟩ [] (hT.trans rfl) (fun z hz => absurd hz List.not_mem_nil) (by decide) (by decide) (hts _ lkL_told_13) (hE.cast (by decide)) hce hcv hcl ?_
          refine lv_astore_n (lv' := [(3, .ref q9), (0, .ref (q 0)), (1, .int v1), (2, .ref (q 21))]) hx hb dL_told_12 rfl hl (by decide) rfl (fun ls hl => ?_)
          refine lv_iconst (v := 1) hx hb dL_told_13 (by decide) ?_
          exact vx_ret (rt_i (u.1, u.2.1, u.2.2.1, u.2.2.2.1, u.2.2.2.2.1, u.2.2.2.2.2.1, u.2.2.2.2.2.2.1, u.2.2.2.2.2.2.2, ou) hx hb hr hlk h (fun t ht => by rw [ht]; exact hP) hS dL_told_14))
    (fun r u H locs h hP hS => ?_)
  have hP : va_P (dC, dI) vwCl (WL q cI cJ cZ pg ps u.1 u.2.1 u.2.2.1 u.2.2.2.1 po pt rf rl bx xl xr yl yh ms wt u.2.2.2.2.1 u.2.2.2.2.2.1 u.2.2.2.2.2.2.1 u.2.2.2.2.2.2.2 hu uu pd ro rc ou) H := hP
  refine lv_i2l hx hb dL_told_7 rfl ?_
  obtain ⟨b1, h⟩ := h
  refine va_last (D := (dC, dI)) hx hb hK hP (d_WL ha) hS 21 1 rfl rfl b1 dL_told_8 (fun H locs hP _ hS => ?_)
  obtain ⟨f1, ef1⟩ : ∃ z : (Nat → Int64), z = vp_updL ou (0 : Int32).toNatClampNeg r.toInt64 := ⟨_, rfl⟩
  have h := h f1 ef1
  have hP : va_P (dC, dI) vwCl (WL q cI cJ cZ pg ps u.1 u.2.1 u.2.2.1 u.2.2.2.1 po pt rf rl bx xl xr yl yh ms wt u.2.2.2.2.1 u.2.2.2.2.2.1 u.2.2.2.2.2.2.1 u.2.2.2.2.2.2.2 hu uu pd ro rc f1) H := by rw [ef1]; exact hP
  refine lv_goto (tgt := 15) hx hb dL_told_9 (by decide) ?_
  refine lv_iconst (v := 0) hx hb dL_told_15 (by decide) ?_
  exact vx_ret (rt_i (u.1, u.2.1, u.2.2.1, u.2.2.2.1, u.2.2.2.2.1, u.2.2.2.2.2.1, u.2.2.2.2.2.2.1, u.2.2.2.2.2.2.2, f1) hx hb hr hlk h (fun t ht => by rw [ht]; exact hP) hS dL_told_16)
