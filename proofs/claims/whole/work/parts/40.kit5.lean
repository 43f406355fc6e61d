/-! kit 5: methods with a table, that catch -/
theorem q_longs (f : Nat → Int64) (x : Int64) : vp_updL f 0 x 0 = x := rfl
section QW
variable {p : Program} {l : Launch} {e : Env} {R : Room} {s : State} {m : MethodId} {args : Array Value} {below : List Frame} {meth : Method} {c : Code} {H : Heap} {locs : List Loc} {cells slots : Nat} {Q : State → Prop}
variable {cc : ByteArray} {pc nL : Nat} {ls : Array Slot} {rest : List Value} {g : GK} {A : Nat → Prop} {ws : va_W} {Ts : List Cond} {own : String}
theorem q_last (E : qE g p m c cc nL s args Ts own A) (h : qH g A s ws H locs) (q0 : Nat) {a n i : Nat} {x : Int64} {f : Nat → Int64} (ha : ws[q0]? = some (a, .inl (gLo g, n, .inr (.inl f)))) (hi : i < n) (hn : n < 2 ^ 31) (hdg : decode cc pc = .ok (.lastore, 1)) {w2 : va_W} (h2 : ws.set q0 (a, .inl (gLo g, n, .inr (.inl (vp_updL f i x)))) = w2) (kk : ∀ (H1 : Heap) (locs1 : List Loc), qH g A s w2 H1 locs1 → W p l e R s m args below meth c H1 locs1 cells slots Q (F0 m (pc + 1) ls rest)) : W p l e R s m args below meth c H locs cells slots Q (F0 m pc ls (.long x :: .int (nI i) :: .ref a :: rest)) :=
  va_last (D := g.1) E.1.1 E.1.2.1 E.2.1.1 h.1 h.2.1 h.2.2 q0 3 ha rfl (vp_in_nI hi hn) hdg (fun H1 locs1 a1 a2 a3 => by
    rw [nI_clamp (Nat.lt_trans hi hn), h2] at a1 a2
    exact kk H1 locs1 ⟨a1, a2, a3⟩)
theorem q_dast (E : qE g p m c cc nL s args Ts own A) (h : qH g A s ws H locs) (q0 : Nat) {a n i : Nat} {x : UInt64} {f : Nat → UInt64} (ha : ws[q0]? = some (a, .inl (gDo g, n, .inr (.inr (.inr (.inl f)))))) (hi : i < n) (hn : n < 2 ^ 31) (hdg : decode cc pc = .ok (.dastore, 1)) {w2 : va_W} (h2 : ws.set q0 (a, .inl (gDo g, n, .inr (.inr (.inr (.inl (fun j => if j = i then x else f j)))))) = w2) (kk : ∀ (H1 : Heap) (locs1 : List Loc), qH g A s w2 H1 locs1 → W p l e R s m args below meth c H1 locs1 cells slots Q (F0 m (pc + 1) ls rest)) : W p l e R s m args below meth c H locs cells slots Q (F0 m pc ls (.double x :: .int (nI i) :: .ref a :: rest)) := by
  refine va_dast (D := g.1) E.1.1 E.1.2.1 E.2.1.1 h.1 h.2.1 h.2.2 q0 4 ha rfl (vp_in_nI hi hn) hdg (fun H1 locs1 a1 a2 a3 => ?_)
  rw [nI_clamp (Nat.lt_trans hi hn)] at a1 a2
  exact kk H1 locs1 ⟨h2 ▸ a1, h2 ▸ a2, a3⟩
/-- caught by the table's first row that takes it -/
theorem q_catch0 (E : qE g p m c cc nL s args Ts own A) (EX : gX s ∧ gZz A s s.heap) {ce : Cell} {q : Addr} {E' : String} {a1 b1 c1 d1 : Nat} {hh : List (Nat × Nat × Nat × Nat)} (hT : c.exceptionTable.toList = tableOf ((a1, b1, c1, d1) :: hh)) (hx : covers ⟨a1, b1, c1, d1⟩ pc = true) (h0 : d1 ≠ 0) (hex : E' ∈ excL) (hlink : (Cond.classLink own d1 E').before args s = true) (hcell : H[q]? = some ce) (hv : ce.vm = .none) (hcl : s.vm.findClass E' = some ce.cls)
    (kk : W p l e R s m args below meth c H locs cells slots Q (F0 m c1 ls [.ref q])) : vx_W p l e R s m args below meth c H locs cells slots Q (F0 m pc ls rest) q :=
  vx_catch E.1.2.2.2.1 [] ⟨a1, b1, c1, d1⟩ (tableOf hh) hT (fun _ hz => nomatch hz) hx h0 hlink (va_Nw.use rfl (EX.1.2.1 _ hex)) hcell hv hcl kk
/-- .. by its second -/
theorem q_catch1 (E : qE g p m c cc nL s args Ts own A) (EX : gX s ∧ gZz A s s.heap) {ce : Cell} {q : Addr} {E' E0 : String} {a0 b0 c0 d0 a1 b1 c1 d1 : Nat} {hh : List (Nat × Nat × Nat × Nat)} (hT : c.exceptionTable.toList = tableOf ((a0, b0, c0, d0) :: (a1, b1, c1, d1) :: hh)) (h00 : d0 ≠ 0) (hlink0 : (Cond.classLink own d0 E0).before args s = true) (hnc : (E', E0) ∈ ncL) (hx : covers ⟨a1, b1, c1, d1⟩ pc = true) (h0 : d1 ≠ 0) (hex : E' ∈ excL) (hlink : (Cond.classLink own d1 E').before args s = true) (hcell : H[q]? = some ce) (hv : ce.vm = .none) (hcl : s.vm.findClass E' = some ce.cls)
    (kk : W p l e R s m args below meth c H locs cells slots Q (F0 m c1 ls [.ref q])) : vx_W p l e R s m args below meth c H locs cells slots Q (F0 m pc ls rest) q :=
  vx_catch E.1.2.2.2.1 [⟨a0, b0, c0, d0⟩] ⟨a1, b1, c1, d1⟩ (tableOf hh) hT (fun z hz => by
    obtain rfl := List.mem_singleton.mp hz
    exact Or.inr ⟨h00, E0, hlink0, EX.1.2.2.2 _ hnc⟩) hx h0 hlink (va_Nw.use rfl (EX.1.2.1 _ hex)) hcell hv hcl kk
end QW
/-- a method of the law that catches: never throws -/
def CWr {S : Type} (l : Launch) (g : GK) (y : MethodName) (ws : List Cond) (rm : Room) (As : List Value) (w0 : va_W) (post : Int32 → S → Prop) (w1 : S → va_W) : Prop := ∀ sz : Nat, vx_Met l y ws rm (va_Pc As (gPX g w0 sz)) (va_Qi post (fun u t => gB g w0 sz (w1 u) t) (va_A w0 sz)) (fun _ _ _ => False) rm.cells rm.slots (va_A w0 sz)
theorem q_ofWr {S : Type} {l : Launch} {g : GK} {y : MethodName} {ws ws' : List Cond} {rm : Room} {cc : ByteArray} {maxL : Nat} {As : List Value} {w0 : va_W} {post : Int32 → S → Prop} {w1 : S → va_W} {own : String} {hh : List (Nat × Nat × Nat × Nat)} (hy : plainName y.cls = true) (hw : ws = Cond.codeWith y cc maxL (some .int) hh :: ws') (ho : y.cls = own) (hlen : (lg_sl As).length ≤ maxL)
    (body : ∀ (p : Program) (e : Env) (s : State) (m : MethodId) (below : List Frame) (meth : Method) (c : Code) (A : Nat → Prop) (Q : State → Prop) (args : Array Value), qE g p m c cc maxL s args ws own A → (gX s ∧ gZz A s s.heap) → c.exceptionTable.toList = tableOf hh → qH g A s w0 s.heap [] →
      (∀ (H : Heap) (locs : List Loc) (pc : Nat) (ls : Array Slot) (v : Int32) (u : S), qH g A s (w1 u) H locs → decode cc pc = .ok (.ireturn, 1) → post v u → ∀ {cells slots : Nat}, cells ≤ rm.cells → slots ≤ rm.slots → W p l e rm s m args below meth c H locs cells slots Q (F0 m pc ls [.int v])) →
      ∀ ls : Array Slot, lv_has ls maxL (lv_args 0 As) → W p l e rm s m args below meth c s.heap [] 0 0 Q (F0 m 0 ls [])) : CWr l g y ws rm As w0 post w1 := by
  subst ho
  intro sz
  refine vx_ofWH hy hw ?_
  intro p e s m args below meth c s₁ B hml hv
  obtain ⟨rfl, ⟨hsz, hP, hK, hD0⟩, hX, hZ⟩ := hv
  subst hsz
  have hw9 : ∀ w ∈ ws, w.before _ s = true := atoms_spec (ws := ws) B.pre
  have hT := vx_table (x := y) B (hw9 (Cond.codeWith y cc maxL (some .int) hh) (by rw [hw]; exact List.mem_cons_self))
  rw [lg_entry_eq]
  refine body p e s m below meth c (va_A w0 s.heap.size) _ _ ⟨⟨B.exec, B.bytes, hml, findClass_of_methodNamed B.named, hw9⟩, hK, fun q h => Or.inr h⟩ ⟨hX, hZ⟩ hT ⟨hP, hD0.self, va_S.rf⟩ ?_ _ (lv_entry As hlen)
  intro H locs pc ls v u h hd hp cells slots hc hs
  exact W.widen hc hs (vx_ret (W.zret B.exec B.bytes B.returns rfl (fun t ht hW => ⟨⟨v, u, rfl, hp, by rw [ht]; exact h.1, h.2.1⟩, h.2.2.F ht⟩) h.2.2.2.2 hd B.notSynchronized))
