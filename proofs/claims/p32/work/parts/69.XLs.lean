/-! the start: what the Statement gives of the machine -/
theorem s_arr {s : State} {args : Array Value} {ty : FieldType} (hp : ∀ n, ty ≠ .object n) (h : (Cond.arrayClass ty).before args s = true) : ∃ cA, ArrOfT s cA ty ∧ va_RA s cA ty := by
  obtain ⟨cA, k, comp, h1, h2, h3⟩ := Cond.arrayClass_spec h
  refine ⟨cA, fun n z => ⟨fun k h => (by cases h), k, h2, comp, h3⟩, ?_⟩
  cases ty <;> first | exact absurd rfl (hp _) | exact h1
set_option maxRecDepth 100000 in
theorem s_gK {s : State} {args : Array Value} (hts : ∀ w ∈ lw_tbl, w.before args s = true) : ∃ g : GK, gK g s := by
  obtain ⟨c0, iS0, hKn0⟩ := u_known (C := RX0) (T := TX0) (N := 4) (n := 4) hts inX0 (hts (.instantiable RX0 4) (List.mem_of_getElem? (i := 33) (by decide +kernel)))
  obtain ⟨c1, iS1, hKn1⟩ := u_known (C := RX1) (T := TX1) (N := 10) (n := 10) hts inX1 (hts (.instantiable RX1 10) (List.mem_of_getElem? (i := 53) (by decide +kernel)))
  obtain ⟨c2, iS2, hKn2⟩ := u_known (C := RX2) (T := TX2) (N := 2) (n := 2) hts inX2 (hts (.instantiable RX2 2) (List.mem_of_getElem? (i := 59) (by decide +kernel)))
  obtain ⟨c3, iS3, hKn3⟩ := u_known (C := RX3) (T := TX3) (N := 9) (n := 9) hts inX3 (hts (.instantiable RX3 9) (List.mem_of_getElem? (i := 25) (by decide +kernel)))
  obtain ⟨a_int, hA_int⟩ := s_arr (fun _ => by intro h9; cases h9) (hts (.arrayClass .int) (List.mem_of_getElem? (i := 51) (by decide +kernel)))
  refine ⟨((fun k => if k = 0 then c0 else if k = 1 then c1 else if k = 2 then c2 else c3, fun k => if k = 0 then iS0 else if k = 1 then iS1 else if k = 2 then iS2 else iS3), a_int, a_int, a_int, a_int, a_int), ⟨fun k q hq => ?_, fun k q hq => ?_⟩, ?_⟩
  · match k, hq with
    | 0, hq => cases hq; exact hKn0
    | 1, hq => cases hq; exact hKn1
    | 2, hq => cases hq; exact hKn2
    | 3, hq => cases hq; exact hKn3
    | k + 4, hq => simp [vwCl] at hq
  · match k, hq with
    | 0, hq => cases hq; exact hA_int
    | k + 1, hq => simp [gT] at hq
  · exact List.forall_mem_cons.mpr ⟨va_Nw.of rfl (hts (.methodLinkNest RX0 25 yX3_store RX3) (List.mem_of_getElem? (i := 460) (by decide +kernel))), List.forall_mem_cons.mpr ⟨va_Nw.of rfl (hts (.methodLinkNest RX0 29 yX3_at RX3) (List.mem_of_getElem? (i := 214) (by decide +kernel))), List.forall_mem_cons.mpr ⟨va_Nw.of rfl (hts (.methodLinkNest RX0 33 yX3_has RX3) (List.mem_of_getElem? (i := 249) (by decide +kernel))), List.forall_mem_cons.mpr ⟨va_Nw.of rfl (hts (.methodLinkNest RX1 59 yX3_has RX3) (List.mem_of_getElem? (i := 314) (by decide +kernel))), List.forall_mem_cons.mpr ⟨va_Nw.of rfl (hts (.methodLinkNest RX1 92 yX3_at RX3) (List.mem_of_getElem? (i := 301) (by decide +kernel))), List.forall_mem_cons.mpr ⟨va_Nw.of rfl (hts (.methodLinkNest RX1 99 yX3_store RX3) (List.mem_of_getElem? (i := 323) (by decide +kernel))), List.forall_mem_cons.mpr ⟨va_Nw.of rfl (hts (.methodLinkNest RX2 19 yX3_store RX3) (List.mem_of_getElem? (i := 307) (by decide +kernel))), List.forall_mem_cons.mpr ⟨va_Nw.of rfl (hts (.methodLinkNest RX2 23 yX3_at RX3) (List.mem_of_getElem? (i := 340) (by decide +kernel))), fun _ h9 => absurd h9 List.not_mem_nil⟩⟩⟩⟩⟩⟩⟩⟩
theorem mks_no {p : Nat → Bool} (h : ∀ k, p k = false) : ∀ n, mks p n = 0
  | 0 => rfl
  | n + 1 => by
    show (if p n then mks p n ||| 2 ^ n else mks p n) = 0
    rw [h n, if_neg (by decide), mks_no h n]
theorem wkb_no (wt mk : Nat → Nat) (tol f t : Nat) : wkb wt mk 0 tol f t = false := by
  unfold wkb
  rw [Nat.and_zero, Nat.zero_testBit, Bool.false_and, Bool.false_and]
theorem sr_no (wt mk : Nat → Nat) (tol : Nat) : srO (wkb wt mk 0 tol) = fun _ => 0 := funext fun _ => mks_no (fun _ => wkb_no _ _ _ _ _) 12
theorem tg_no (wt mk : Nat → Nat) (tol : Nat) : tgO (wkb wt mk 0 tol) = fun _ => 0 := funext fun _ => mks_no (fun _ => wkb_no _ _ _ _ _) 12
theorem sl_no (wt mk : Nat → Nat) (tol : Nat) : slO (wkb wt mk 0 tol) = 0 := mks_no (fun _ => wkb_no _ _ _ _ _) 12
theorem ovr_no (f : Nat → Nat) : ovr [] f = f := funext fun _ => if_neg (Nat.not_lt_zero _)
