/-! kit 4: calls that throw -/
def strL : List (Nat × String) := [(53, "there are 12 arguments"), (82, "tolerance is not 0 to 9"), (128, "there is no such position"), (164, "there is no such argument"), (166, "the set contains something that is no argument"), (168, "weight is not 1 to 9"), (170, "kind is not 0 to 6")]
abbrev nIAE : String := "java/lang/IllegalArgumentException"
abbrev nISE : String := "java/lang/IllegalStateException"
abbrev nIOB : String := "java/lang/IndexOutOfBoundsException"
abbrev nmRT : List String := ["java/lang/RuntimeException", "java/lang/Exception"]
def excL : List String := [nIAE, nISE, nIOB]
def dclL : List String := ["java/lang/RuntimeException", "java/lang/Exception", Bundle.tN]
abbrev dclW : List Cond := dclL.map (fun Y => Cond.declares (Bundle.initS Y))
def ncL : List (String × String) := [(nIAE, nIOB), (nISE, nIAE), (nIOB, nIAE)]
def gX (U : State) : Prop := (∀ q ∈ strL, ∃ sa, vk_R RX3 q.1 q.2 sa U) ∧ (∀ C ∈ excL, va_Nw (.castable C C) U) ∧ (∀ Y ∈ dclL, va_Nw (.declares (Bundle.initS Y)) U) ∧ ∀ q ∈ ncL, va_Nc q.1 q.2 U
def gZz (A : Nat → Prop) (U : State) (H : Heap) : Prop := vx_Zq Bundle.tN "UNASSIGNED_STACK" Bundle.steD A U H ∧ vx_Zq Bundle.tN "SUPPRESSED_SENTINEL" Bundle.listD A U H
theorem gX_same {u U : State} (hv : U.vm = u.vm) (h : gX u) : gX U := ⟨fun q hq => (h.1 q hq).imp (fun _ h => vk_R.same hv h), fun C hC => va_Nw.same rfl hv.symm (h.2.1 C hC), fun Y hY => va_Nw.same rfl hv.symm (h.2.2.1 Y hY), fun q hq => va_Nc.moved (u := u) (U := U) (by rw [hv]; exact Vm.Alike.refl _) (h.2.2.2 q hq)⟩
theorem gX_warm {s U : State} (hW : s.WarmedH U.vm) (h : gX s) : gX U := ⟨fun q hq => (h.1 q hq).imp (fun _ h => vk_R.warm hW h), fun C hC => va_Nw.warmC hW (h.2.1 C hC), fun Y hY => va_Nw.warmD hW (h.2.2.1 Y hY), fun q hq => va_Nc.moved hW.alike (h.2.2.2 q hq)⟩
theorem gZz_moved {A : Nat → Prop} {u U : State} {H : Heap} (hvm : u.vm.Alike U.vm) (h : gZz A u H) : gZz A U H := ⟨vx_Zq.moved hvm h.1, vx_Zq.moved hvm h.2⟩
theorem gZz_kept {A : Nat → Prop} {U : State} {H H1 : Heap} (h : gZz A U H) (hq : ∀ a : Nat, a < H.size → ¬ A a → H1[a]? = H[a]?) : gZz A U H1 := ⟨h.1.kept hq, h.2.kept hq⟩
theorem gZz_narrow {A B : Nat → Prop} {U : State} {H : Heap} (h : gZz A U H) (hAB : ∀ q, B q → A q) : gZz B U H := ⟨h.1.narrow hAB, h.2.narrow hAB⟩
def gPX (g : GK) (w0 : va_W) (sz : Nat) : State → Prop := fun U => gP g w0 sz U ∧ gX U ∧ gZz (va_A w0 sz) U U.heap
theorem gPX_blind {g : GK} {ws : va_W} {sz : Nat} {As : List Value} : FrameBlind (va_Pc As (gPX g ws sz)) := fun a U gg mk h => ⟨h.1, (gP_blind (As := As) a U gg mk ⟨h.1, h.2.1⟩).2, gX_same rfl h.2.2.1, gZz_moved (u := U) (U := U.calling gg mk a) (Vm.Alike.refl U.vm) h.2.2.2⟩
abbrev qTQ {S : Type} (g : GK) (A : Nat → Prop) (below : List Frame) (E' : String) (w1 : S → va_W) (args : Array Value) (s : State) (mc ms : Nat) : State → Prop := vx_MQ below (fun _ _ _ _ => False) (vx_X (fun _ : S => True) (fun E9 u t => E9 = E' ∧ va_P g.1 vwCl (w1 u) t.heap ∧ va_D A (w1 u)) A) args s mc ms A
/-- a call that throws E' -/
def CT {S : Type} (l : Launch) (g : GK) (y : MethodName) (ws : List Cond) (rm : Room) (As : List Value) (w0 : va_W) (E' : String) (w1 : S → va_W) : Prop := ∀ sz : Nat, vx_Met l y ws rm (va_Pc As (gPX g w0 sz)) (fun _ _ _ _ => False) (vx_X (fun _ : S => True) (fun E9 u t => E9 = E' ∧ gB g w0 sz (w1 u) t) (va_A w0 sz)) rm.cells rm.slots (va_A w0 sz)
section QT
variable {p : Program} {l : Launch} {e : Env} {R : Room} {s : State} {m : MethodId} {args : Array Value} {below : List Frame} {meth : Method} {c : Code} {H : Heap} {locs : List Loc} {cells slots : Nat} {Q : State → Prop}
variable {cc : ByteArray} {pc nL : Nat} {ls : Array Slot} {rest : List Value} {g : GK} {A : Nat → Prop} {ws : va_W} {Ts : List Cond} {own : String}
theorem q_preSX (E : qE g p m c cc nL s args Ts own A) (EX : gX s ∧ gZz A s s.heap) (h : qH g A s ws H locs) {wc : va_W} {As : List Value} (isC : List Nat) (hnC : va_nd isC = true) (hC : isC.map (fun i => ws[i]?) = wc.map some) : PreS s H (va_Pc As (gPX g wc H.size)) As :=
  ⟨gPX_blind, fun U hU hW => ⟨rfl, ((q_preS (As := As) E h isC hnC hC).2 U hU hW).2, gX_warm hW EX.1, by rw [hU]; exact gZz_narrow (gZz_kept (gZz_moved hW.alike EX.2) h.2.2.2.1) (q_free h E.2.2 isC hC)⟩⟩
theorem q_preVX (E : qE g p m c cc nL s args Ts own A) (EX : gX s ∧ gZz A s s.heap) (h : qH g A s ws H locs) {wc : va_W} {b : Nat} {As : List Value} (isC : List Nat) (hnC : va_nd isC = true) (hC : isC.map (fun i => ws[i]?) = wc.map some) {C : String} {T : u_T} {N : Nat} (ci : Nat) (hc : vwCl[ci]? = some (C, T, N)) (q0 : Nat) {fs : List Value} (he : ws[q0]? = some (b, .inr (ci, fs))) : PreV s H C b (va_Pc (.ref b :: As) (gPX g wc H.size)) As :=
  ⟨gPX_blind, va_recv E.2.1.1 h.1 hc he, (q_preSX (As := .ref b :: As) E EX h isC hnC hC).2⟩
variable {st0 : List Value} {a : Array Value} {wc wr : va_W}
theorem q_kT {S : Type} {w1 w2 : S → va_W} {mc ms : Nat} {E' : String} {Qa : State → Outcome → State → Prop} (E : qE g p m c cc nL s args Ts own A) (h : qH g A s ws H locs) (isC isR is : List Nat) (hr : vx_Run p l e R s m args below meth c H locs cells slots mc ms (F0 m pc ls st0) rest Qa (vx_X (fun _ : S => True) (fun E9 u t => E9 = E' ∧ gB g wc H.size (w1 u) t) (va_A wc H.size)) (va_A wc H.size)) (hQa : ∀ x o t, ¬ Qa x o t)
    (hC : isC.map (fun i => ws[i]?) = wc.map some) (hR : isR.map (fun i => ws[i]?) = wr.map some) (hnR : va_nd isR = true) (hdis : ∀ i ∈ isR, i ∉ isC) (hn2 : va_nd is = true) (h2 : ∀ u, is.map (fun i => (wr ++ w1 u)[i]?) = (w2 u).map some)
    (kx : ∀ (ce : Cell) (q9 : Addr) (u : S) (H1 : Heap) (locs1 : List Loc), qH g A s (w2 u) H1 locs1 → H1[q9]? = some ce → ce.vm = .none → s.vm.findClass E' = some ce.cls → vx_W p l e R s m args below meth c H1 locs1 (cells + mc) (slots + ms) Q (F0 m pc ls rest) q9) : W p l e R s m args below meth c H locs cells slots Q (F0 m pc ls st0) := by
  have hF := q_free h E.2.2 isC hC
  intro T hT X
  rcases hr T hT X with ⟨v, st₀, t, T', L, h0, X', hL, e1, e2, hq, st⟩ | ⟨q, st₀, t, T', L, E9, ce, h0, X', hL, e1, e2, ⟨u, -, ⟨rfl, hP1, hD1⟩, hFr⟩, hce, hcv, hcl, st⟩
  · exact absurd hq (hQa _ _ _)
  · obtain ⟨k1, k2, k3⟩ := vx_keep h0 e1 h.2.2 (fun q _ z => hF q z) hF hL hFr
    rw [← e1] at hP1
    obtain ⟨hP, hD⟩ := va_join h.1 h.2.1 isC isR hC hR hnR hdis k2 hF hP1 hD1
    obtain ⟨t2, a1, b1⟩ := kx ce q u T'.heap (locs ++ L) (qH.perm ⟨hP, hD, k3⟩ is hn2 (h2 u)) (by rw [e1]; exact hce) hcv hcl T' rfl X'
    exact ⟨t2, st.trans a1, b1⟩
theorem q_out {S : Type} {w1 : S → va_W} {E' : String} {mc ms : Nat} {ce : Cell} {q : Addr} (u : S) (h : qH g A s (w1 u) H locs) (ht : ∀ x ∈ c.exceptionTable.toList, False) (hlocks : meth.locks = false) (hcell : H[q]? = some ce) (hv : ce.vm = .none) (hcl : s.vm.findClass E' = some ce.cls) (hc : cells ≤ mc) (hs : slots ≤ ms) :
    vx_W p l e R s m args below meth c H locs cells slots (qTQ g A below E' w1 args s mc ms) (F0 m pc ls rest) q :=
  vx_out (fun x hx => (ht x hx).elim) hlocks hcell hv hcl (fun t hH _ => ⟨u, trivial, ⟨rfl, by rw [hH]; exact h.1, h.2.1⟩, h.2.2.F hH⟩) h.2.2.2.2 hc hs
/-- 'throw new cls("text")' of the class itself -/
theorem q_thr {S : Type} {w1 : S → va_W} (E : qE g p m c cc nL s args Ts own A) (EX : gX s ∧ gZz A s s.heap) (hlt : l.stackTraces = false) (ht : ∀ x ∈ c.exceptionTable.toList, False) (hlocks : meth.locks = false) {xs : List (Nat × Value)} (hls : lv_has ls nL xs) (u : S) (h : qH g A s (w1 u) H locs) (how : own = RX3) {cls text : String} {ik is ic mc ms : Nat} (hstr : (is, text) ∈ strL) (hex : cls ∈ excL) (hcls : Bundle.fit cls = true) (hnm : ∀ n ∈ nmRT, Bundle.fit n = true)
    (hk : (Cond.classLink own ik cls).before args s = true) (hini : (Cond.initialized cls).before args s = true) (hat : ∀ w ∈ (vx_atS own ic cls nmRT).filter goodWord, w.before args s = true) (hbad : ∀ w ∈ (vx_atS own ic cls nmRT).filter (fun w => !goodWord w), w ∈ Cond.castable cls cls :: dclW)
    (hgood : ∀ w ∈ Cond.classLink own ik cls :: Cond.initialized cls :: vx_atS own ic cls nmRT, vx_ot w = true)
    (d0 : decode cc pc = .ok (.new ik, 3)) (d3 : decode cc (pc + 3) = .ok (.dup, 1)) (d4 : decode cc (pc + 4) = .ok (.ldc is, 2)) (d6 : decode cc (pc + 6) = .ok (.invokespecial ic, 3)) (d9 : decode cc (pc + 9) = .ok (.athrow, 1))
    (hRf : nmRT.length + 3 < R.frames) (hRl : (rest.map fun v => v.category).sum + (13 * (nmRT.length + 1) + 43) ≤ R.locals) (hRc : cells + 1 ≤ R.cells) (hRs : slots + 6 ≤ R.slots) (hc : cells + 1 ≤ mc) (hs : slots + 6 ≤ ms) :
    W p l e R s m args below meth c H locs cells slots (qTQ g A below cls w1 args s mc ms) (F0 m pc ls rest) := by
  subst how
  obtain ⟨sa, hsa⟩ := EX.1.1 _ hstr
  refine vx_throwS E.1.1 E.1.2.1 hlt E.1.2.2.2.1 hcls hnm hk hini hsa (vx_hat hat hbad (vx_c (va_Nw.use rfl (EX.1.2.1 _ hex)) (fun w9 h9 => by obtain ⟨Y, hY, rfl⟩ := List.mem_map.mp h9; exact va_Nw.use rfl (EX.1.2.2.1 Y hY)))) hgood EX.2.1 EX.2.2 h.2.2 (hls.1.trans E.1.2.2.1.symm) d0 d3 d4 d6 d9 (fun x hx => (ht x hx).elim) hRf hRl hRc hRs hlocks (fun t hal hz hq => ?_) h.2.2.2.2 hc hs
  exact ⟨u, trivial, ⟨rfl, h.1.kept (fun k x hx => hq x.1 (h.1 k x hx).lt), h.2.1⟩, Nat.le_trans h.2.2.1 hz, fun q h1 h2 => (hq q (Nat.lt_of_lt_of_le h1 h.2.2.1)).trans (h.2.2.2.1 q h1 h2)⟩
end QT
theorem q_ofT {S : Type} {l : Launch} {g : GK} {y : MethodName} {ws ws' : List Cond} {rm : Room} {cc : ByteArray} {maxL : Nat} {ret : Option FieldType} {As : List Value} {w0 : va_W} {E' : String} {w1 : S → va_W} {own : String} (hy : plainName y.cls = true) (hw : ws = Cond.code y cc maxL ret :: ws') (ho : y.cls = own) (hlen : (lg_sl As).length ≤ maxL)
    (body : ∀ (p : Program) (e : Env) (s : State) (m : MethodId) (below : List Frame) (meth : Method) (c : Code) (A : Nat → Prop) (args : Array Value), qE g p m c cc maxL s args ws own A → (gX s ∧ gZz A s s.heap) → (∀ x ∈ c.exceptionTable.toList, False) → meth.locks = false → qH g A s w0 s.heap [] →
      ∀ ls : Array Slot, lv_has ls maxL (lv_args 0 As) → W p l e rm s m args below meth c s.heap [] 0 0 (qTQ g A below E' w1 args s rm.cells rm.slots) (F0 m 0 ls [])) : CT l g y ws rm As w0 E' w1 := by
  subst ho
  intro sz
  refine vx_ofW hy hw ?_
  intro p e s m args below meth c s₁ B hml ht hv
  obtain ⟨rfl, ⟨hsz, hP, hK, hD0⟩, hX, hZ⟩ := hv
  subst hsz
  rw [lg_entry_eq]
  exact body p e s m below meth c (va_A w0 s.heap.size) _ ⟨⟨B.exec, B.bytes, hml, findClass_of_methodNamed B.named, atoms_spec (ws := ws) B.pre⟩, hK, fun q h => Or.inr h⟩ ⟨hX, hZ⟩ ht B.notSynchronized ⟨hP, hD0.self, va_S.rf⟩ _ (lv_entry As hlen)
