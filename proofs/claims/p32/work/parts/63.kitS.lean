/-! kit of p32: contracts of methods that are handed the script; a few rows -/
def gPX (g : GK) (ws : va_W) (b L : Nat) (xs : Nat → Int32) (sz : Nat) : State → Prop := fun U => gP g ws sz U ∧ va_X b L xs U U.heap ∧ b < sz ∧ ¬ va_A ws sz b
theorem gPX_blind {g : GK} {ws : va_W} {b L : Nat} {xs : Nat → Int32} {sz : Nat} {As : List Value} : FrameBlind (va_Pc As (gPX g ws b L xs sz)) := fun a U gg mk h =>
  ⟨h.1, (gP_blind (As := As) a U gg mk ⟨h.1, h.2.1⟩).2, va_X.moved (u := U) (U := U.calling gg mk a) (Vm.Alike.refl U.vm) h.2.2.1, h.2.2.2.1, h.2.2.2.2⟩
def CIX {S : Type} (l : Launch) (g : GK) (y : MethodName) (ws : List Cond) (rm : Room) (As : List Value) (w0 : va_W) (b L : Nat) (xs : Nat → Int32) (post : Int32 → S → Prop) (w1 : S → va_W) : Prop := ∀ sz : Nat, Met l y ws rm (va_Pc As (gPX g w0 b L xs sz)) (va_Qi post (fun u t => gB g w0 sz (w1 u) t) (va_A w0 sz)) 0 0 (va_A w0 sz)
theorem q_ofIX {S : Type} {l : Launch} {g : GK} {y : MethodName} {ws ws' : List Cond} {rm : Room} {cc : ByteArray} {maxL : Nat} {rt : FieldType} {As : List Value} {w0 : va_W} {b L : Nat} {xs : Nat → Int32} {post : Int32 → S → Prop} {w1 : S → va_W} {own : String} (hy : plainName y.cls = true) (hw : ws = Cond.code y cc maxL (some rt) :: ws') (ho : y.cls = own) (hlen : (lg_sl As).length ≤ maxL) (hn : ∀ v u, post v u → narrow rt (.int v) = .int v)
    (body : ∀ (p : Program) (e : Env) (s : State) (m : MethodId) (below : List Frame) (meth : Method) (c : Code) (A : Nat → Prop) (Q : State → Prop) (args : Array Value), qE g p m c cc maxL s args ws own A → meth.name = y.name → qH g A s w0 s.heap [] → va_X b L xs s s.heap → b < s.heap.size → ¬ A b →
      (∀ (H : Heap) (locs : List Loc) (pc : Nat) (ls : Array Slot) (v : Int32) (u : S), qH g A s (w1 u) H locs → decode cc pc = .ok (.ireturn, 1) → post v u → W p l e rm s m args below meth c H locs 0 0 Q (F0 m pc ls [.int v])) →
      ∀ ls : Array Slot, lv_has ls maxL (lv_args 0 As) → W p l e rm s m args below meth c s.heap [] 0 0 Q (F0 m 0 ls [])) : CIX l g y ws rm As w0 b L xs post w1 := by
  subst ho
  intro sz
  refine Met.ofW hy hw ?_
  intro p e s m args below meth c s₁ B hml hv
  obtain ⟨rfl, ⟨hsz, hP, hK, hD0⟩, hX, hbl, hbA⟩ := hv
  subst hsz
  rw [lg_entry_eq]
  refine body p e s m below meth c (va_A w0 s.heap.size) _ _ ⟨⟨B.exec, B.bytes, hml, findClass_of_methodNamed B.named, atoms_spec (ws := ws) B.pre⟩, hK, fun q h => Or.inr h⟩ (name_of_methodNamed B.named B.method).1 ⟨hP, hD0.self, va_S.rf⟩ hX hbl hbA ?_ _ (lv_entry As hlen)
  intro H locs pc ls v u h hd hp
  exact W.zret B.exec B.bytes B.returns (hn v u hp) (fun t ht hW => ⟨⟨v, u, rfl, hp, by rw [ht]; exact h.1, h.2.1⟩, h.2.2.F ht⟩) h.2.2.2.2 hd B.notSynchronized
section QX
variable {p : Program} {l : Launch} {e : Env} {R : Room} {s : State} {m : MethodId} {args : Array Value} {below : List Frame} {meth : Method} {c : Code} {H : Heap} {locs : List Loc} {cells slots : Nat} {Q : State → Prop}
variable {cc : ByteArray} {pc nL : Nat} {ls : Array Slot} {rest : List Value} {g : GK} {A : Nat → Prop} {ws : va_W} {Ts : List Cond} {own : String}
theorem q_preX (E : qE g p m c cc nL s args Ts own A) (h : qH g A s ws H locs) {b L : Nat} {xs : Nat → Int32} (hX : va_X b L xs s s.heap) (hbl : b < s.heap.size) (hbA : ¬ A b) {wc : va_W} {As : List Value} (isC : List Nat) (hnC : va_nd isC = true) (hC : isC.map (fun i => ws[i]?) = wc.map some) : PreS s H (va_Pc As (gPX g wc b L xs H.size)) As :=
  ⟨gPX_blind, fun U hU hW => ⟨rfl, ((q_preS (As := As) E h isC hnC hC).2 U hU hW).2, (va_X.moved hW.alike hX).kept (by rw [hU]; exact h.2.2.2.1 b hbl hbA), Nat.lt_of_lt_of_le hbl h.2.2.1, fun z => hbA (q_free h E.2.2 isC hC b z)⟩⟩
theorem q_rem (E : qE g p m c cc nL s args Ts own A) {a d : Nat} (ha : a < 2 ^ 31) (h0 : 0 < d) (hd : d < 2 ^ 31) (hdg : decode cc pc = .ok (.irem, 1)) (k : W p l e R s m args below meth c H locs cells slots Q (F0 m (pc + 1) ls (.int (nI (a % d)) :: rest))) : W p l e R s m args below meth c H locs cells slots Q (F0 m pc ls (.int (nI d) :: .int (nI a) :: rest)) := lv_irem E.1.1 E.1.2.1 hdg (nI_ne0 h0 hd) (by rw [pk_rem ha h0 hd]; exact k)
theorem q_div (E : qE g p m c cc nL s args Ts own A) {a d : Nat} (ha : a < 2 ^ 31) (h0 : 0 < d) (hd : d < 2 ^ 31) (hdg : decode cc pc = .ok (.idiv, 1)) (k : W p l e R s m args below meth c H locs cells slots Q (F0 m (pc + 1) ls (.int (nI (a / d)) :: rest))) : W p l e R s m args below meth c H locs cells slots Q (F0 m pc ls (.int (nI d) :: .int (nI a) :: rest)) := lv_idiv E.1.1 E.1.2.1 hdg (nI_ne0 h0 hd) (by rw [pk_div ha h0 hd]; exact k)
/-- a number of the script -/
theorem q_sld (E : qE g p m c cc nL s args Ts own A) (h : qH g A s ws H locs) {b L : Nat} {xs : Nat → Int32} (hX : va_X b L xs s s.heap) (hbl : b < s.heap.size) (hbA : ¬ A b) {i : Nat} (hi : i < L) (hL : L ≤ 2048) (hdg : decode cc pc = .ok (.iaload, 1)) (kk : W p l e R s m args below meth c H locs cells slots Q (F0 m (pc + 1) ls (.int (xs i) :: rest))) : W p l e R s m args below meth c H locs cells slots Q (F0 m pc ls (.int (nI i) :: .ref b :: rest)) :=
  va_sld E.1.1 E.1.2.1 hX hbl hbA h.2.2 (vp_in_nI hi (by omega)) hdg (by rw [nI_clamp (show i < 2 ^ 31 by omega)]; exact kk)
theorem q_slen (E : qE g p m c cc nL s args Ts own A) (h : qH g A s ws H locs) {b L : Nat} {xs : Nat → Int32} (hX : va_X b L xs s s.heap) (hbl : b < s.heap.size) (hbA : ¬ A b) (hdg : decode cc pc = .ok (.arraylength, 1)) (kk : W p l e R s m args below meth c H locs cells slots Q (F0 m (pc + 1) ls (.int (nI L) :: rest))) : W p l e R s m args below meth c H locs cells slots Q (F0 m pc ls (.ref b :: rest)) :=
  va_slen E.1.1 E.1.2.1 hX hbl hbA h.2.2 hdg kk
theorem q_dcmp1 (E : qE g p m c cc nL s args Ts own A) {x : UInt64} {op : CmpOp} (hx : x = FP.dconst1) (hdg : decode cc pc = .ok (.dcmp op, 1)) (kk : W p l e R s m args below meth c H locs cells slots Q (F0 m (pc + 1) ls (.int (nI 0) :: rest))) : W p l e R s m args below meth c H locs cells slots Q (F0 m pc ls (.double FP.dconst1 :: .double x :: rest)) := by
  subst hx
  refine lv_dcmp E.1.1 E.1.2.1 hdg ?_
  rw [show Op.cmpValue (FP.dcmp FP.dconst1 FP.dconst1) op = nI 0 by cases op <;> decide +kernel]
  exact kk
end QX
theorem updN_in {f : Nat → Nat} {k x B : Nat} (hf : ∀ j, f j < B) (hx : x < B) (j : Nat) : updN f k x j < B := by
  unfold updN
  by_cases h : j = k
  · rw [if_pos h]; exact hx
  · rw [if_neg h]; exact hf j
theorem updN_eq {f : Nat → Nat} {k x : Nat} : updN f k x k = x := if_pos rfl
theorem updN_ne {f : Nat → Nat} {k x j : Nat} (h : j ≠ k) : updN f k x j = f j := if_neg h
set_option maxRecDepth 100000 in
theorem k_L_below (l : Launch) (g : GK) (v : Int32) (N : Nat) (hN : 0 < N) (hN2 : N < 65536) : CI (S := Nat) l g yL_below wsL_below { frames := 0, cells := 0, slots := 0, locals := 0 } [.int v, .int (nI N)] [] (fun r u => r = nI u ∧ u < N) (fun _ => []) := by
  refine q_ofI (own := RL) (by decide) rfl rfl (Nat.le_of_ble_eq_true rfl) n_int ?_
  intro p e s m below meth c A Q args E hmn h hend ls hl
  have hl : lv_has ls 2 [(0, .int v), (1, .int (nI N))] := hl
  have hw := E.1.2.2.2.2 (.constant RL 7 2147483647) (by decide +kernel)
  refine lv_iload_n E.1.1 E.1.2.1 dL_below_0 rfl (lv_at hl 0 rfl) ?_
  refine lv_ldc E.1.1 E.1.2.1 E.1.2.2.2.1 hw dL_below_1 ?_
  refine lv_iand E.1.1 E.1.2.1 dL_below_3 ?_
  rw [pk_and v 31 (by decide)]
  refine lv_iload_n E.1.1 E.1.2.1 dL_below_4 rfl (lv_at hl 1 rfl) ?_
  refine q_rem E (Nat.mod_lt _ (by decide)) hN (by omega) dL_below_5 ?_
  exact hend _ _ _ _ _ _ h dL_below_6 ⟨rfl, Nat.mod_lt _ hN⟩
set_option maxRecDepth 100000 in
theorem k_L_cell (l : Launch) (g : GK) (b k L : Nat) (xs : Nat → Int32) (hk : k < 65536) (hL : L ≤ 2048) : CIX (S := Int32) l g yL_cell wsL_cell { frames := 0, cells := 0, slots := 0, locals := 0 } [.ref b, .int (nI k)] [] b L xs (fun r u => r = u ∧ True) (fun _ => []) := by
  refine q_ofIX (own := RL) (by decide) rfl rfl (Nat.le_of_ble_eq_true rfl) n_int ?_
  intro p e s m below meth c A Q args E hmn h hX hbl hbA hend ls hl
  have hl : lv_has ls 2 [(0, .ref b), (1, .int (nI k))] := hl
  have hw := E.1.2.2.2.2 (.constant RL 8 790386105) (by decide +kernel)
  refine lv_iload_n E.1.1 E.1.2.1 dL_cell_0 rfl (lv_at hl 1 rfl) ?_
  refine lv_aload_n E.1.1 E.1.2.1 dL_cell_1 rfl (lv_at hl 0 rfl) ?_
  refine q_slen E h hX hbl hbA dL_cell_2 ?_
  refine q_ge E (tgt := 12) (by omega) (by omega) dL_cell_3 (by decide) (fun hb => ?_) (fun hb => ?_)
  · refine lv_ldc E.1.1 E.1.2.1 E.1.2.2.2.1 hw dL_cell_12 ?_
    refine lv_iload_n E.1.1 E.1.2.1 dL_cell_14 rfl (lv_at hl 1 rfl) ?_
    refine q_ic E 3 dL_cell_15 (by decide) ?_
    refine q_add E dL_cell_16 ?_
    refine lv_imul E.1.1 E.1.2.1 dL_cell_17 ?_
    exact hend _ _ _ _ _ _ h dL_cell_18 ⟨rfl, trivial⟩
  · refine lv_aload_n E.1.1 E.1.2.1 dL_cell_6 rfl (lv_at hl 0 rfl) ?_
    refine lv_iload_n E.1.1 E.1.2.1 dL_cell_7 rfl (lv_at hl 1 rfl) ?_
    refine q_sld E h hX hbl hbA hb hL dL_cell_8 ?_
    refine q_go E (tgt := 18) dL_cell_9 (by decide) ?_
    exact hend _ _ _ _ _ _ h dL_cell_18 ⟨rfl, trivial⟩
