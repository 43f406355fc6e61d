/-! the start: what the Statement gives of the machine -/
theorem s_arr {s : State} {args : Array Value} {ty : FieldType} (hp : ∀ n, ty ≠ .object n) (h : (Cond.arrayClass ty).before args s = true) : ∃ cA, ArrOfT s cA ty ∧ va_RA s cA ty := by
  obtain ⟨cA, k, comp, h1, h2, h3⟩ := Cond.arrayClass_spec h
  refine ⟨cA, fun n z => ⟨fun k h => (by cases h), k, h2, comp, h3⟩, ?_⟩
  cases ty <;> first | exact absurd rfl (hp _) | exact h1
set_option maxRecDepth 100000 in
theorem s_gK {s : State} {args : Array Value} (hts : ∀ w ∈ lw_tbl, w.before args s = true) : ∃ g : GK, gK g s := by
  obtain ⟨c0, iS0, hKn0⟩ := u_known (C := RX0) (T := TX0) (N := 4) (n := 4) hts inX0 (hts (.instantiable RX0 4) (List.mem_of_getElem? (i := 58) (by decide +kernel)))
  obtain ⟨c1, iS1, hKn1⟩ := u_known (C := RX1) (T := TX1) (N := 10) (n := 10) hts inX1 (hts (.instantiable RX1 10) (List.mem_of_getElem? (i := 78) (by decide +kernel)))
  obtain ⟨c2, iS2, hKn2⟩ := u_known (C := RX2) (T := TX2) (N := 2) (n := 2) hts inX2 (hts (.instantiable RX2 2) (List.mem_of_getElem? (i := 84) (by decide +kernel)))
  obtain ⟨c3, iS3, hKn3⟩ := u_known (C := RX3) (T := TX3) (N := 9) (n := 9) hts inX3 (hts (.instantiable RX3 9) (List.mem_of_getElem? (i := 50) (by decide +kernel)))
  obtain ⟨c4, iS4, hKn4⟩ := u_known (C := RX4) (T := TX4) (N := 14) (n := 14) hts inX4 (hts (.instantiable RX4 14) (List.mem_of_getElem? (i := 630) (by decide +kernel)))
  obtain ⟨a_int, hA_int⟩ := s_arr (fun _ => by intro h9; cases h9) (hts (.arrayClass .int) (List.mem_of_getElem? (i := 76) (by decide +kernel)))
  obtain ⟨a_boolean, hA_boolean⟩ := s_arr (fun _ => by intro h9; cases h9) (hts (.arrayClass .boolean) (List.mem_of_getElem? (i := 679) (by decide +kernel)))
  obtain ⟨a_byte, hA_byte⟩ := s_arr (fun _ => by intro h9; cases h9) (hts (.arrayClass .byte) (List.mem_of_getElem? (i := 399) (by decide +kernel)))
  obtain ⟨a_long, hA_long⟩ := s_arr (fun _ => by intro h9; cases h9) (hts (.arrayClass .long) (List.mem_of_getElem? (i := 897) (by decide +kernel)))
  obtain ⟨a_double, hA_double⟩ := s_arr (fun _ => by intro h9; cases h9) (hts (.arrayClass .double) (List.mem_of_getElem? (i := 898) (by decide +kernel)))
  refine ⟨((fun k => if k = 0 then c0 else if k = 1 then c1 else if k = 2 then c2 else if k = 3 then c3 else c4, fun k => if k = 0 then iS0 else if k = 1 then iS1 else if k = 2 then iS2 else if k = 3 then iS3 else iS4), a_int, a_boolean, a_byte, a_long, a_double), ⟨fun k q hq => ?_, fun k q hq => ?_⟩, ?_⟩
  · match k, hq with
    | 0, hq => cases hq; exact hKn0
    | 1, hq => cases hq; exact hKn1
    | 2, hq => cases hq; exact hKn2
    | 3, hq => cases hq; exact hKn3
    | 4, hq => cases hq; exact hKn4
    | k + 5, hq => simp [vwCl] at hq
  · match k, hq with
    | 0, hq => cases hq; exact hA_int
    | 1, hq => cases hq; exact hA_boolean
    | 2, hq => cases hq; exact hA_byte
    | 3, hq => cases hq; exact hA_long
    | 4, hq => cases hq; exact hA_double
    | k + 5, hq => simp [gT] at hq
  · exact List.forall_mem_cons.mpr ⟨va_Nw.of rfl (hts (.methodLinkNest RX0 25 yX3_store RX3) (List.mem_of_getElem? (i := 425) (by decide +kernel))), List.forall_mem_cons.mpr ⟨va_Nw.of rfl (hts (.methodLinkNest RX0 29 yX3_at RX3) (List.mem_of_getElem? (i := 171) (by decide +kernel))), List.forall_mem_cons.mpr ⟨va_Nw.of rfl (hts (.methodLinkNest RX0 33 yX3_has RX3) (List.mem_of_getElem? (i := 192) (by decide +kernel))), List.forall_mem_cons.mpr ⟨va_Nw.of rfl (hts (.methodLinkNest RX1 59 yX3_has RX3) (List.mem_of_getElem? (i := 270) (by decide +kernel))), List.forall_mem_cons.mpr ⟨va_Nw.of rfl (hts (.methodLinkNest RX1 92 yX3_at RX3) (List.mem_of_getElem? (i := 257) (by decide +kernel))), List.forall_mem_cons.mpr ⟨va_Nw.of rfl (hts (.methodLinkNest RX1 99 yX3_store RX3) (List.mem_of_getElem? (i := 279) (by decide +kernel))), List.forall_mem_cons.mpr ⟨va_Nw.of rfl (hts (.methodLinkNest RX2 19 yX3_store RX3) (List.mem_of_getElem? (i := 263) (by decide +kernel))), List.forall_mem_cons.mpr ⟨va_Nw.of rfl (hts (.methodLinkNest RX2 23 yX3_at RX3) (List.mem_of_getElem? (i := 296) (by decide +kernel))), fun _ h9 => absurd h9 List.not_mem_nil⟩⟩⟩⟩⟩⟩⟩⟩
theorem s_str {s : State} {args : Array Value} {own tx : String} {k : Nat} (h1 : (Cond.stringRef own k tx).before args s = true) (h2 : (Cond.exactly (Term.string own k) "java/lang/String").before args s = true) : ∃ sa, vk_R own k tx sa s := by
  obtain ⟨a, -, -, -, he, -⟩ := Cond.exactly_spec h2
  exact ⟨a, vk_R.of h1 he⟩
set_option maxRecDepth 100000 in
theorem s_gX {s : State} {args : Array Value} (hts : ∀ w ∈ lw_tbl, w.before args s = true) (hgv : (Jvm.Cond.and given_1 narrow_1).before args s = true) : gX s := by
  have hs := flat_of_before _ hgv
  refine ⟨?_, ?_, ?_, ?_⟩
  · exact List.forall_mem_cons.mpr ⟨s_str (hts (.stringRef RX3 53 "there are 12 arguments") (List.mem_of_getElem? (i := 409) (by decide +kernel))) (hs _ (by decide +kernel)), List.forall_mem_cons.mpr ⟨s_str (hts (.stringRef RX3 82 "tolerance is not 0 to 9") (List.mem_of_getElem? (i := 479) (by decide +kernel))) (hs _ (by decide +kernel)), List.forall_mem_cons.mpr ⟨s_str (hts (.stringRef RX3 128 "there is no such position") (List.mem_of_getElem? (i := 562) (by decide +kernel))) (hs _ (by decide +kernel)), List.forall_mem_cons.mpr ⟨s_str (hts (.stringRef RX3 164 "there is no such argument") (List.mem_of_getElem? (i := 451) (by decide +kernel))) (hs _ (by decide +kernel)), List.forall_mem_cons.mpr ⟨s_str (hts (.stringRef RX3 166 "the set contains something that is no argument") (List.mem_of_getElem? (i := 506) (by decide +kernel))) (hs _ (by decide +kernel)), List.forall_mem_cons.mpr ⟨s_str (hts (.stringRef RX3 168 "weight is not 1 to 9") (List.mem_of_getElem? (i := 373) (by decide +kernel))) (hs _ (by decide +kernel)), List.forall_mem_cons.mpr ⟨s_str (hts (.stringRef RX3 170 "kind is not 0 to 6") (List.mem_of_getElem? (i := 554) (by decide +kernel))) (hs _ (by decide +kernel)), fun _ h9 => absurd h9 List.not_mem_nil⟩⟩⟩⟩⟩⟩⟩
  · exact List.forall_mem_cons.mpr ⟨va_Nw.of rfl (hts (.castable nIAE nIAE) (List.mem_of_getElem? (i := 334) (by decide +kernel))), List.forall_mem_cons.mpr ⟨va_Nw.of rfl (hts (.castable nISE nISE) (List.mem_of_getElem? (i := 402) (by decide +kernel))), List.forall_mem_cons.mpr ⟨va_Nw.of rfl (hts (.castable nIOB nIOB) (List.mem_of_getElem? (i := 444) (by decide +kernel))), fun _ h9 => absurd h9 List.not_mem_nil⟩⟩⟩
  · exact List.forall_mem_cons.mpr ⟨va_Nw.of rfl (hts (.declares (Bundle.initS "java/lang/RuntimeException")) (List.mem_of_getElem? (i := 336) (by decide +kernel))), List.forall_mem_cons.mpr ⟨va_Nw.of rfl (hts (.declares (Bundle.initS "java/lang/Exception")) (List.mem_of_getElem? (i := 338) (by decide +kernel))), List.forall_mem_cons.mpr ⟨va_Nw.of rfl (hts (.declares (Bundle.initS Bundle.tN)) (List.mem_of_getElem? (i := 340) (by decide +kernel))), fun _ h9 => absurd h9 List.not_mem_nil⟩⟩⟩
  · exact List.forall_mem_cons.mpr ⟨va_Nc.of (hs _ (by decide +kernel)), List.forall_mem_cons.mpr ⟨va_Nc.of (hs _ (by decide +kernel)), List.forall_mem_cons.mpr ⟨va_Nc.of (hs _ (by decide +kernel)), fun _ h9 => absurd h9 List.not_mem_nil⟩⟩⟩
set_option maxRecDepth 100000 in
theorem s_gZz {s : State} {args : Array Value} {A : Nat → Prop} (hts : ∀ w ∈ lw_tbl, w.before args s = true) (hgv : (Jvm.Cond.and given_1 narrow_1).before args s = true) (hA : ∀ a : Nat, a < s.heap.size → ¬ A a) : gZz A s s.heap := by
  have hs := flat_of_before _ hgv
  exact ⟨vx_Zqof (hts (.laysStatic Bundle.tN "UNASSIGNED_STACK" Bundle.steD) (List.mem_of_getElem? (i := 359) (by decide +kernel))) (hts (.initialized Bundle.tN) (List.mem_of_getElem? (i := 42) (by decide +kernel))) (hs _ (by decide +kernel)) hA, vx_Zqof (hts (.laysStatic Bundle.tN "SUPPRESSED_SENTINEL" Bundle.listD) (List.mem_of_getElem? (i := 361) (by decide +kernel))) (hts (.initialized Bundle.tN) (List.mem_of_getElem? (i := 42) (by decide +kernel))) (hs _ (by decide +kernel)) hA⟩
theorem mks_no {p : Nat → Bool} (h : ∀ k, p k = false) : ∀ n, mks p n = 0
  | 0 => rfl
  | n + 1 => by
    show (if p n then mks p n ||| 2 ^ n else mks p n) = 0
    rw [h n, if_neg (by decide), mks_no h n]
theorem wkb_no (wt mk : Nat → Nat) (tol f t : Nat) : wkb wt mk 0 tol f t = false := by
  unfold wkb
  rw [Nat.and_zero, Nat.zero_testBit, Bool.false_and, Bool.false_and]
theorem sr_no (wt mk : Nat → Nat) (tol : Nat) : srO (wkb wt mk 0 tol) = fun _ => 0 := funext fun _ => mks_no (fun _ => wkb_no _ _ _ _ _) 12
theorem tg_no (wt mk : Nat → Nat) (tol : Nat) : tgO (wkb wt mk 0 tol) = fun _ => 0 := funext fun _ => mks_no (fun _ => wkb_no _ _ _ _ _) 12
theorem sl_no (wt mk : Nat → Nat) (tol : Nat) : slO (wkb wt mk 0 tol) = 0 := mks_no (fun _ => wkb_no _ _ _ _ _) 12
theorem ovr_no (f : Nat → Nat) : ovr [] f = f := funext fun _ => if_neg (Nat.not_lt_zero _)
