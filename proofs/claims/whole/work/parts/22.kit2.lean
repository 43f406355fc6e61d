/-! kit 2: rows of booleans and bytes -/
theorem nar_z (b : Bool) : vp_nar .boolean (nI b.toNat) = nI b.toNat := by cases b <;> rfl
theorem nar_b : ∀ x, x < 3 → vp_nar .byte (nI x) = nI x := by decide
section QK2
variable {p : Program} {l : Launch} {e : Env} {R : Room} {s : State} {m : MethodId} {args : Array Value} {below : List Frame} {meth : Method} {c : Code} {H : Heap} {locs : List Loc} {cells slots : Nat} {Q : State → Prop}
variable {cc : ByteArray} {pc nL : Nat} {ls : Array Slot} {rest : List Value} {g : GK} {A : Nat → Prop} {ws : va_W} {Ts : List Cond} {own : String}
theorem q_zast (E : qE g p m c cc nL s args Ts own A) (h : qH g A s ws H locs) (q0 : Nat) {a n i : Nat} {x : Bool} {f : Nat → Bool} (ha : ws[q0]? = some (a, .inl (gZ g, n, .inl (aB f)))) (hi : i < n) (hn : n < 2 ^ 31) (hdg : decode cc pc = .ok (.bastore, 1)) {w2 : va_W} (h2 : ws.set q0 (a, .inl (gZ g, n, .inl (aB (updB f i x)))) = w2) (kk : ∀ (H1 : Heap) (locs1 : List Loc), qH g A s w2 H1 locs1 → W p l e R s m args below meth c H1 locs1 cells slots Q (F0 m (pc + 1) ls rest)) : W p l e R s m args below meth c H locs cells slots Q (F0 m pc ls (.int (nI x.toNat) :: .int (nI i) :: .ref a :: rest)) :=
  va_zast (D := g.1) E.1.1 E.1.2.1 E.2.1.1 h.1 h.2.1 h.2.2 q0 1 ha rfl (vp_in_nI hi hn) hdg (fun H1 locs1 a1 a2 a3 => by
    rw [nI_clamp (Nat.lt_trans hi hn), nar_z, upd_aB, h2] at a1 a2
    exact kk H1 locs1 ⟨a1, a2, a3⟩)
theorem q_bast (E : qE g p m c cc nL s args Ts own A) (h : qH g A s ws H locs) (q0 : Nat) {a n i x : Nat} {f : Nat → Nat} (ha : ws[q0]? = some (a, .inl (gBy g, n, .inl (aN f)))) (hi : i < n) (hn : n < 2 ^ 31) (hx : x < 3) (hdg : decode cc pc = .ok (.bastore, 1)) {w2 : va_W} (h2 : ws.set q0 (a, .inl (gBy g, n, .inl (aN (updN f i x)))) = w2) (kk : ∀ (H1 : Heap) (locs1 : List Loc), qH g A s w2 H1 locs1 → W p l e R s m args below meth c H1 locs1 cells slots Q (F0 m (pc + 1) ls rest)) : W p l e R s m args below meth c H locs cells slots Q (F0 m pc ls (.int (nI x) :: .int (nI i) :: .ref a :: rest)) :=
  va_bast (D := g.1) E.1.1 E.1.2.1 E.2.1.1 h.1 h.2.1 h.2.2 q0 2 ha rfl (vp_in_nI hi hn) hdg (fun H1 locs1 a1 a2 a3 => by
    rw [nI_clamp (Nat.lt_trans hi hn), nar_b x hx, upd_aN, h2] at a1 a2
    exact kk H1 locs1 ⟨a1, a2, a3⟩)
theorem q_alenB (E : qE g p m c cc nL s args Ts own A) (h : qH g A s ws H locs) (q0 : Nat) {a n : Nat} {f : Nat → Int32} (ha : ws[q0]? = some (a, .inl (gBy g, n, .inl f))) (hdg : decode cc pc = .ok (.arraylength, 1)) (kk : W p l e R s m args below meth c H locs cells slots Q (F0 m (pc + 1) ls (.int (nI n) :: rest))) : W p l e R s m args below meth c H locs cells slots Q (F0 m pc ls (.ref a :: rest)) :=
  va_alen (D := g.1) E.1.1 E.1.2.1 E.2.1.1 h.1 q0 2 ha rfl rfl hdg kk
end QK2
theorem srO_in {wt mk : Nat → Nat} {pr tol : Nat} (a : Nat) : ldf (srO (wkb wt mk pr tol) a) pr = 0 := ldf_0.mpr (fun i hi => by
  unfold srO at hi
  rw [mks_tb, Bool.and_eq_true, wkb_eq, Bool.and_eq_true] at hi
  exact hi.2.1)
theorem ldf_in {x pr hi : Nat} (h : ldf x pr = 0) : ldf x hi = x &&& ldf pr hi := by
  apply Nat.eq_of_testBit_eq
  intro i
  rw [ldf_tb, Nat.testBit_and, ldf_tb]
  cases hx : x.testBit i
  · rfl
  · rw [ldf_0.mp h i hx]; rfl
