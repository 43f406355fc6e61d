/-! kit 3: cells that are born, and a constructor's call -/
theorem q_arrId {g : GK} {cl : List vw_C} {tys : List (ClassId × FieldType)} {s : State} {t0 k : Nat} {cT cA : ClassId} {ty : FieldType} (hp : ∀ n, ty ≠ .object n) (h : va_K g.1 cl tys s) (h' : va_K g.1 cl (tys ++ [(cA, ty)]) s) (ht : tys[t0]? = some (cT, ty)) : cA = cT := by
  have a := (h.2 t0 _ ht).2
  have b := (h'.2 tys.length (cA, ty) (by simp)).2
  cases ty <;> first | exact absurd rfl (hp _) | exact Option.some.inj (b.symm.trans a)
section QK3
variable {p : Program} {l : Launch} {e : Env} {R : Room} {s : State} {m : MethodId} {args : Array Value} {below : List Frame} {meth : Method} {c : Code} {H : Heap} {locs : List Loc} {cells slots : Nat} {Q : State → Prop}
variable {cc : ByteArray} {pc nL : Nat} {ls : Array Slot} {rest : List Value} {g : GK} {A : Nat → Prop} {ws : va_W} {Ts : List Cond} {own : String}
theorem q_obj (E : qE g p m c cc nL s args Ts own A) {idx a : Nat} {xs : List (Nat × Value)} (hl : lv_has ls nL xs) (hlink : (Cond.methodLink own idx objectInit).before args s = true) (hinst : (Cond.instanceMethod objectInit).before args s = true) (hcode : (Cond.code objectInit ⟨#[0xb1]⟩ 1 none).before args s = true) (hdg : decode cc pc = .ok (.invokespecial idx, 3)) (hfr : 1 ≤ R.frames) (hlo : 12 ≤ R.locals)
    (k : W p l e R s m args below meth c H locs cells slots Q (F0 m (pc + 3) ls [])) : W p l e R s m args below meth c H locs cells slots Q (F0 m pc ls [.ref a]) :=
  W.objInit E.1.1 E.1.2.1 E.1.2.2.2.1 hlink hinst hcode rfl (hl.1.trans E.1.2.2.1.symm) rfl hdg hfr hlo k
theorem q_newa (E : qE g p m c cc nL s args Ts own A) (h : qH g A s ws H locs) {atype : ArrayType} {ty : FieldType} {N : Nat} (t0 : Nat) {cT : ClassId} (ht : (gT g)[t0]? = some (cT, ty)) (hp : ∀ n, ty ≠ .object n) (hty : newarray.typeOf atype = ty) (harr : (Cond.arrayClass ty).before args s = true) (hN : N < 2 ^ 31) {a0 : vp_A} (ha : ∀ cA, vp_cell cA a0 = arrV cA N (fun _ => defaultValue ty)) (hby : N * componentBytes ty ≤ 536870912) (hcells : cells + 1 ≤ R.cells) (hslots : slots + N ≤ R.slots) (hdg : decode cc pc = .ok (.newarray atype, 2))
    (kk : ∀ (q : Nat) (H1 : Heap), qH g A s (ws ++ [(q, .inl (cT, a0))]) H1 locs → W p l e R s m args below meth c H1 locs (cells + 1) (slots + N) Q (F0 m (pc + 2) ls (.ref q :: rest))) : W p l e R s m args below meth c H locs cells slots Q (F0 m pc ls (.int (nI N) :: rest)) := by
  subst hty
  refine va_newa (D := g.1) E.1.1 E.1.2.1 harr rfl E.2.1.1 h.1 h.2.1 h.2.2 E.2.2 ha (nI_pos hN) (nI_clamp hN) hby hcells hslots hdg (fun q cA H1 hK hP hD hS => ?_)
  have e1 := q_arrId (g := g) (k := 0) hp E.2.1.1 hK ht
  subst e1
  exact kk q H1 ⟨hP, hD, hS⟩
theorem q_new (E : qE g p m c cc nL s args Ts own A) (h : qH g A s ws H locs) {C : String} {T : u_T} {N : Nat} (ci : Nat) (hc : vwCl[ci]? = some (C, T, N)) (ty : Nat → FieldType) (hty : ∀ k, k < N → parseFieldDescriptor (T k).2.2.1 = some (ty k)) (hin : ∀ w ∈ u_ws C T N, w ∈ Ts) {index : Nat} (hcl : (Cond.classLink own index C).before args s = true) (hinst : (Cond.instantiable C N).before args s = true) (hini : (Cond.initialized C).before args s = true) {fs : List Value} (hfs : ∀ j, j < N → defaultValue (ty j) = vp_V fs j) (hcells : cells + 1 ≤ R.cells) (hslots : slots + N ≤ R.slots) (hdg : decode cc pc = .ok (.new index, 3))
    (kk : ∀ (q : Nat) (H1 : Heap), qH g A s (ws ++ [(q, .inr (ci, fs))]) H1 locs → W p l e R s m args below meth c H1 locs (cells + 1) (slots + N) Q (F0 m (pc + 3) ls (.ref q :: rest))) : W p l e R s m args below meth c H locs cells slots Q (F0 m pc ls rest) :=
  va_new (D := g.1) E.1.1 E.1.2.1 E.1.2.2.2.2 hin ty hty E.1.2.2.2.1 hcl hinst hini E.2.1.1 h.1 h.2.1 h.2.2 E.2.2 hc hfs hcells hslots hdg (fun q H1 hP hD hS => kk q H1 ⟨hP, hD, hS⟩)
variable {st0 : List Value} {a : Array Value} {wc wr : va_W}
theorem q_kn {S : Type} {post : S → Prop} {w1 w2 : S → va_W} {mc ms : Nat} (E : qE g p m c cc nL s args Ts own A) (h : qH g A s ws H locs) (isC isR is : List Nat) (hr : va_Run p l e R s m args below meth c H locs cells slots mc ms (F0 m pc ls st0) rest (va_Qv post (fun u t => gB g wc H.size (w1 u) t) (va_A wc H.size) a) (va_A wc H.size))
    (hC : isC.map (fun i => ws[i]?) = wc.map some) (hR : isR.map (fun i => ws[i]?) = wr.map some) (hnR : va_nd isR = true) (hdis : ∀ i ∈ isR, i ∉ isC) (hn2 : va_nd is = true) (h2 : ∀ u, is.map (fun i => (wr ++ w1 u)[i]?) = (w2 u).map some)
    (kk : ∀ (u : S) (H1 : Heap) (locs1 : List Loc), post u → qH g A s (w2 u) H1 locs1 → W p l e R s m args below meth c H1 locs1 (cells + mc) (slots + ms) Q (F0 m (pc + 3) ls rest)) : W p l e R s m args below meth c H locs cells slots Q (F0 m pc ls st0) := by
  have hF := q_free h E.2.2 isC hC
  refine va_callv hr h.2.2 (fun q _ z => hF q z) hF (fun u t H1 locs1 ht hvm hw hB hz1 hk1 hS => ?_)
  obtain ⟨hP1, hD1⟩ := hB
  rw [ht] at hP1
  obtain ⟨hP, hD⟩ := va_join h.1 h.2.1 isC isR hC hR hnR hdis hk1 hF hP1 hD1
  exact kk u H1 locs1 hw (qH.perm ⟨hP, hD, hS⟩ is hn2 (h2 u))
end QK3
/-- a constructor: its own cells, and those it makes -/
def CN {S : Type} (l : Launch) (g : GK) (y : MethodName) (ws : List Cond) (rm : Room) (As : List Value) (w0 : va_W) (post : S → Prop) (w1 : S → va_W) : Prop := ∀ sz : Nat, Met l y ws rm (va_Pc As (gP g w0 sz)) (va_Qv post (fun u t => gB g w0 sz (w1 u) t) (va_A w0 sz)) rm.cells rm.slots (va_A w0 sz)
theorem q_ofN {S : Type} {l : Launch} {g : GK} {y : MethodName} {ws ws' : List Cond} {rm : Room} {cc : ByteArray} {maxL : Nat} {As : List Value} {w0 : va_W} {post : S → Prop} {w1 : S → va_W} {own : String} (hy : plainName y.cls = true) (hw : ws = Cond.code y cc maxL none :: ws') (ho : y.cls = own) (hlen : (lg_sl As).length ≤ maxL)
    (body : ∀ (p : Program) (e : Env) (s : State) (m : MethodId) (below : List Frame) (meth : Method) (c : Code) (A : Nat → Prop) (Q : State → Prop) (args : Array Value), qE g p m c cc maxL s args ws own A → meth.name = y.name → qH g A s w0 s.heap [] →
      (∀ (H : Heap) (locs : List Loc) (pc : Nat) (ls : Array Slot) (u : S), qH g A s (w1 u) H locs → decode cc pc = .ok (.return_, 1) → post u → W p l e rm s m args below meth c H locs rm.cells rm.slots Q (F0 m pc ls [])) →
      ∀ ls : Array Slot, lv_has ls maxL (lv_args 0 As) → W p l e rm s m args below meth c s.heap [] 0 0 Q (F0 m 0 ls [])) : CN l g y ws rm As w0 post w1 := by
  subst ho
  intro sz
  refine Met.ofW hy hw ?_
  intro p e s m args below meth c s₁ B hml hv
  obtain ⟨rfl, hsz, hP, hK, hD0⟩ := hv
  subst hsz
  rw [lg_entry_eq]
  refine body p e s m below meth c (va_A w0 s.heap.size) _ _ ⟨⟨B.exec, B.bytes, hml, findClass_of_methodNamed B.named, atoms_spec (ws := ws) B.pre⟩, hK, fun q h => Or.inr h⟩ (name_of_methodNamed B.named B.method).1 ⟨hP, hD0.self, va_S.rf⟩ ?_ _ (lv_entry As hlen)
  intro H locs pc ls u h hd hp
  exact W.vret B.exec B.bytes B.returns (fun t ht hW => ⟨⟨u, rfl, hp, by rw [ht]; exact h.1, h.2.1⟩, h.2.2.F ht⟩) h.2.2.2.2 hd B.notSynchronized
