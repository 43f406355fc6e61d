/-! SetList -/
set_option maxHeartbeats 4000000 in
set_option maxRecDepth 100000 in
theorem k_X2_clear_ (l : Launch) (g : GK) (h0 h1 n : Nat) (f : Nat → Nat)  : CV (S := Unit) l g yX2_clear wsX2_clear { frames := 0, cells := 0, slots := 0, locals := 0 } [.ref h0] [(h0, .inr (2, [.ref h1, .int (nI n)])), (h1, .inl (gI g, 4096, .inl (aN f)))] (fun _ => True) (fun _ => [(h0, .inr (2, [.ref h1, .int (nI 0)])), (h1, .inl (gI g, 4096, .inl (aN f)))]) := by
  refine q_ofV (own := RX2) (by decide) rfl rfl (Nat.le_of_ble_eq_true rfl) ?_
  intro p e s m below meth c A Q args E hmn h hend ls hl
  have hl : lv_has ls 1 [(0, .ref h0)] := hl
  have c_1 := E.1.2.2.2.2 (.fieldLink RX2 15 "DebateSolver$SetList" "size" "I") (by decide +kernel)
  have c_2 := (by decide +kernel : ∀ w ∈ wsX20, w ∈ wsX2_clear)
  refine lv_aload_n E.1.1 E.1.2.1 dX2_clear_0 rfl (lv_at hl 0 rfl) ?_
  refine q_ic E 0 dX2_clear_1 (by decide) ?_
  refine q_put E h (C := RX2) (T := TX2) (N := 2) 2 rfl tyX2 tyX2_ok nmX2 c_2 0 rfl 1 (by decide) c_1 rfl (v := .int (nI 0)) (ty := .int) (by decide +kernel) rfl rfl (Nat.le_of_ble_eq_true rfl) dX2_clear_2 (w2 := [(h0, .inr (2, [.ref h1, .int (nI 0)])), (h1, .inl (gI g, 4096, .inl (aN f)))]) rfl (fun H locs h => ?_)
  -- world at the end: [(h0, .inr (2, [.ref h1, .int (nI 0)])), (h1, .inl (gI g, 4096, .inl (aN f)))]
  exact hend _ _ _ _ () h dX2_clear_5 trivial
set_option maxHeartbeats 4000000 in
set_option maxRecDepth 100000 in
theorem k_X2_add_ (l : Launch) (g : GK) (h0 h1 n : Nat) (f : Nat → Nat) (x : Nat) (hn : n < 4096) : CV (S := Unit) l g yX2_add wsX2_add { frames := 1, cells := 0, slots := 0, locals := 22 } [.ref h0, .int (nI x)] [(h0, .inr (2, [.ref h1, .int (nI n)])), (h1, .inl (gI g, 4096, .inl (aN f)))] (fun _ => True) (fun _ => [(h0, .inr (2, [.ref h1, .int (nI (n + 1))])), (h1, .inl (gI g, 4096, .inl (aN (updN f n x))))]) := by
  refine q_ofV (own := RX2) (by decide) rfl rfl (Nat.le_of_ble_eq_true rfl) ?_
  intro p e s m below meth c A Q args E hmn h hend ls hl
  have hl : lv_has ls 2 [(0, .ref h0), (1, .int (nI x))] := hl
  have c_1 := E.1.2.2.2.2 (.fieldLink RX2 15 "DebateSolver$SetList" "size" "I") (by decide +kernel)
  have c_2 := (by decide +kernel : ∀ w ∈ wsX20, w ∈ wsX2_add)
  have c_3 := E.1.2.2.2.2 (.fieldLink RX2 9 "DebateSolver$SetList" "sets" "[I") (by decide +kernel)
  have c_4 := (⟨va_cnB (R := { frames := 1, cells := 0, slots := 0, locals := 22 }) (rm := { frames := 0, cells := 0, slots := 0, locals := 0 }) (mc := 0) (ms := 0) 3 E.1.2.2.2.2 gX2_add_X3_store_n19 rfl rfl rfl (E.2.1.2 (RX2, 19, yX3_store, RX3) (List.mem_of_getElem? (i := 6) rfl)) (E.1.2.2.2.2 (.initialized RX3) (by decide +kernel)) (by decide +kernel) ⟨Nat.le_of_ble_eq_true rfl, Nat.le_of_ble_eq_true rfl⟩, E.1.2.2.2.2 (.static yX3_store) (by decide +kernel), trivial⟩ : va_CN { frames := 1, cells := 0, slots := 0, locals := 22 } s args RX2 19 yX3_store RX3 cX3_store 3 none wsX3_store { frames := 0, cells := 0, slots := 0, locals := 0 } 0 0 3 ∧ _ ∧ True)
  refine lv_aload_n E.1.1 E.1.2.1 dX2_add_0 rfl (lv_at hl 0 rfl) ?_
  refine q_get E h (C := RX2) (T := TX2) (N := 2) 2 rfl c_2 0 rfl 1 (by decide) c_1 (v := .int (nI n)) rfl dX2_add_1 ?_
  refine lv_aload_n E.1.1 E.1.2.1 dX2_add_4 rfl (lv_at hl 0 rfl) ?_
  refine q_get E h (C := RX2) (T := TX2) (N := 2) 2 rfl c_2 0 rfl 0 (by decide) c_3 (v := .ref h1) rfl dX2_add_5 ?_
  refine q_alen E h 1 rfl dX2_add_8 ?_
  refine q_ge E (tgt := 34) (by omega) (by omega) dX2_add_9 (by decide) (fun hb9 => ?_) (fun hb9 => ?_)
  · skip
    exact absurd hb9 (by omega)
  · skip
    refine lv_aload_n E.1.1 E.1.2.1 dX2_add_12 rfl (lv_at hl 0 rfl) ?_
    refine q_get E h (C := RX2) (T := TX2) (N := 2) 2 rfl c_2 0 rfl 0 (by decide) c_3 (v := .ref h1) rfl dX2_add_13 ?_
    refine lv_aload_n E.1.1 E.1.2.1 dX2_add_16 rfl (lv_at hl 0 rfl) ?_
    refine q_get E h (C := RX2) (T := TX2) (N := 2) 2 rfl c_2 0 rfl 1 (by decide) c_1 (v := .int (nI n)) rfl dX2_add_17 ?_
    refine lv_iload_n E.1.1 E.1.2.1 dX2_add_20 rfl (lv_at hl 1 rfl) ?_
    refine q_kv (w2 := fun _ => [(h0, .inr (2, [.ref h1, .int (nI n)])), (h1, .inl (gI g, 4096, .inl (aN (updN f n x))))]) (wr := [(h0, .inr (2, [.ref h1, .int (nI n)]))]) E h [1] [0] [0, 1] (va_runSN (As := [.ref h1, .int (nI n), .int (nI x)]) (rest := []) E.1 (k_X3_store l g h1 4096 n x f (by omega) (by omega) _) c_4 (q_preS E h [1] rfl rfl) rfl rfl hl.1 rfl (lv_room (Nat.le_of_ble_eq_true rfl)) dX2_add_21 ⟨Nat.zero_le _, Nat.zero_le _⟩) rfl rfl rfl (by decide) rfl (fun _ => rfl) (fun _ H locs _ h => ?_)
    refine lv_aload_n E.1.1 E.1.2.1 dX2_add_24 rfl (lv_at hl 0 rfl) ?_
    refine lv_dup E.1.1 E.1.2.1 dX2_add_25 rfl ?_
    refine q_get E h (C := RX2) (T := TX2) (N := 2) 2 rfl c_2 0 rfl 1 (by decide) c_1 (v := .int (nI n)) rfl dX2_add_26 ?_
    refine q_ic E 1 dX2_add_29 (by decide) ?_
    refine q_add E dX2_add_30 ?_
    refine q_put E h (C := RX2) (T := TX2) (N := 2) 2 rfl tyX2 tyX2_ok nmX2 c_2 0 rfl 1 (by decide) c_1 rfl (v := .int (nI (n + 1))) (ty := .int) (by decide +kernel) rfl rfl (Nat.le_of_ble_eq_true rfl) dX2_add_31 (w2 := [(h0, .inr (2, [.ref h1, .int (nI (n + 1))])), (h1, .inl (gI g, 4096, .inl (aN (updN f n x))))]) rfl (fun H locs h => ?_)
    -- world at the end: [(h0, .inr (2, [.ref h1, .int (nI (n + 1))])), (h1, .inl (gI g, 4096, .inl (aN (updN f n x))))]
    exact hend _ _ _ _ () h dX2_add_34 trivial
set_option maxHeartbeats 4000000 in
set_option maxRecDepth 100000 in
theorem k_X2_size (l : Launch) (g : GK) (h0 h1 n : Nat)  : CI (S := Unit) l g yX2_size wsX2_size { frames := 0, cells := 0, slots := 0, locals := 0 } [.ref h0] [(h0, .inr (2, [.ref h1, .int (nI n)]))] (fun r _ => r = nI n) (fun _ => [(h0, .inr (2, [.ref h1, .int (nI n)]))]) := by
  refine q_ofI (own := RX2) (by decide) rfl rfl (Nat.le_of_ble_eq_true rfl) n_int ?_
  intro p e s m below meth c A Q args E hmn h hend ls hl
  have hl : lv_has ls 1 [(0, .ref h0)] := hl
  have c_1 := E.1.2.2.2.2 (.fieldLink RX2 15 "DebateSolver$SetList" "size" "I") (by decide +kernel)
  have c_2 := (by decide +kernel : ∀ w ∈ wsX20, w ∈ wsX2_size)
  refine lv_aload_n E.1.1 E.1.2.1 dX2_size_0 rfl (lv_at hl 0 rfl) ?_
  refine q_get E h (C := RX2) (T := TX2) (N := 2) 2 rfl c_2 0 rfl 1 (by decide) c_1 (v := .int (nI n)) rfl dX2_size_1 ?_
  -- world at the end: [(h0, .inr (2, [.ref h1, .int (nI n)]))]
  exact hend _ _ _ _ _ () h dX2_size_4 rfl
set_option maxHeartbeats 4000000 in
set_option maxRecDepth 100000 in
theorem k_X2_get_ (l : Launch) (g : GK) (h0 h1 n : Nat) (f : Nat → Nat) (k : Nat) (hk : k < 4096) : CI (S := Unit) l g yX2_get wsX2_get { frames := 1, cells := 0, slots := 0, locals := 21 } [.ref h0, .int (nI k)] [(h0, .inr (2, [.ref h1, .int (nI n)])), (h1, .inl (gI g, 4096, .inl (aN f)))] (fun r _ => r = nI (f k)) (fun _ => [(h0, .inr (2, [.ref h1, .int (nI n)])), (h1, .inl (gI g, 4096, .inl (aN f)))]) := by
  refine q_ofI (own := RX2) (by decide) rfl rfl (Nat.le_of_ble_eq_true rfl) n_int ?_
  intro p e s m below meth c A Q args E hmn h hend ls hl
  have hl : lv_has ls 2 [(0, .ref h0), (1, .int (nI k))] := hl
  have c_1 := E.1.2.2.2.2 (.fieldLink RX2 9 "DebateSolver$SetList" "sets" "[I") (by decide +kernel)
  have c_2 := (by decide +kernel : ∀ w ∈ wsX20, w ∈ wsX2_get)
  have c_3 := (⟨va_cnB (R := { frames := 1, cells := 0, slots := 0, locals := 21 }) (rm := { frames := 0, cells := 0, slots := 0, locals := 0 }) (mc := 0) (ms := 0) 2 E.1.2.2.2.2 gX2_get_X3_at_n23 rfl rfl rfl (E.2.1.2 (RX2, 23, yX3_at, RX3) (List.mem_of_getElem? (i := 7) rfl)) (E.1.2.2.2.2 (.initialized RX3) (by decide +kernel)) (by decide +kernel) ⟨Nat.le_of_ble_eq_true rfl, Nat.le_of_ble_eq_true rfl⟩, E.1.2.2.2.2 (.static yX3_at) (by decide +kernel), trivial⟩ : va_CN { frames := 1, cells := 0, slots := 0, locals := 21 } s args RX2 23 yX3_at RX3 cX3_at 2 (some .int) wsX3_at { frames := 0, cells := 0, slots := 0, locals := 0 } 0 0 2 ∧ _ ∧ True)
  refine lv_aload_n E.1.1 E.1.2.1 dX2_get_0 rfl (lv_at hl 0 rfl) ?_
  refine q_get E h (C := RX2) (T := TX2) (N := 2) 2 rfl c_2 0 rfl 0 (by decide) c_1 (v := .ref h1) rfl dX2_get_1 ?_
  refine lv_iload_n E.1.1 E.1.2.1 dX2_get_4 rfl (lv_at hl 1 rfl) ?_
  refine q_ki (w2 := fun _ => [(h0, .inr (2, [.ref h1, .int (nI n)])), (h1, .inl (gI g, 4096, .inl (aN f)))]) (wr := [(h0, .inr (2, [.ref h1, .int (nI n)]))]) E h [1] [0] [0, 1] (va_runSN (As := [.ref h1, .int (nI k)]) (rest := []) E.1 (k_X3_at l g h1 4096 k f (by omega) (by omega) _) c_3 (q_preS E h [1] rfl rfl) rfl rfl hl.1 rfl (lv_room (Nat.le_of_ble_eq_true rfl)) dX2_get_5 ⟨Nat.zero_le _, Nat.zero_le _⟩) rfl rfl rfl (by decide) rfl (fun _ => rfl) (fun r4 _ H locs hr4 h => ?_)
  subst hr4
  -- world at the end: [(h0, .inr (2, [.ref h1, .int (nI n)])), (h1, .inl (gI g, 4096, .inl (aN f)))]
  exact hend _ _ _ _ _ () h dX2_get_8 rfl
set_option maxHeartbeats 4000000 in
set_option maxRecDepth 100000 in
theorem k_X2_union_ (l : Launch) (g : GK) (h0 h1 n : Nat) (f : Nat → Nat) (hn : n ≤ 4096) : CI (S := Unit) l g yX2_union wsX2_union { frames := 1, cells := 0, slots := 0, locals := 21 } [.ref h0] [(h0, .inr (2, [.ref h1, .int (nI n)])), (h1, .inl (gI g, 4096, .inl (aN f)))] (fun r _ => r = nI (unU f n)) (fun _ => [(h0, .inr (2, [.ref h1, .int (nI n)])), (h1, .inl (gI g, 4096, .inl (aN f)))]) := by
  refine q_ofI (own := RX2) (by decide) rfl rfl (Nat.le_of_ble_eq_true rfl) n_int ?_
  intro p e s m below meth c A Q args E hmn h hend ls hl
  have hl : lv_has ls 3 [(0, .ref h0)] := hl
  have c_1 := E.1.2.2.2.2 (.fieldLink RX2 15 "DebateSolver$SetList" "size" "I") (by decide +kernel)
  have c_2 := (by decide +kernel : ∀ w ∈ wsX20, w ∈ wsX2_union)
  have c_3 := E.1.2.2.2.2 (.fieldLink RX2 9 "DebateSolver$SetList" "sets" "[I") (by decide +kernel)
  have c_4 := (⟨va_cnB (R := { frames := 1, cells := 0, slots := 0, locals := 21 }) (rm := { frames := 0, cells := 0, slots := 0, locals := 0 }) (mc := 0) (ms := 0) 2 E.1.2.2.2.2 gX2_union_X3_at_n23 rfl rfl rfl (E.2.1.2 (RX2, 23, yX3_at, RX3) (List.mem_of_getElem? (i := 7) rfl)) (E.1.2.2.2.2 (.initialized RX3) (by decide +kernel)) (by decide +kernel) ⟨Nat.le_of_ble_eq_true rfl, Nat.le_of_ble_eq_true rfl⟩, E.1.2.2.2.2 (.static yX3_at) (by decide +kernel), trivial⟩ : va_CN { frames := 1, cells := 0, slots := 0, locals := 21 } s args RX2 23 yX3_at RX3 cX3_at 2 (some .int) wsX3_at { frames := 0, cells := 0, slots := 0, locals := 0 } 0 0 2 ∧ _ ∧ True)
  refine q_ic E 0 dX2_union_0 (by decide) ?_
  refine lv_istore_n (lv' := [(1, .int (nI 0)), (0, .ref h0)]) E.1.1 E.1.2.1 dX2_union_1 rfl hl (by decide) rfl (fun ls hl => ?_)
  refine q_ic E 0 dX2_union_2 (by decide) ?_
  refine lv_istore_n (lv' := [(2, .int (nI 0)), (1, .int (nI 0)), (0, .ref h0)]) E.1.1 E.1.2.1 dX2_union_3 rfl hl (by decide) rfl (fun ls hl => ?_)
  have lp4 : ∀ (fu : Nat) (k : Nat), n - k < fu → (k ≤ n) → ∀ (y4_1 : Nat), y4_1 = unU f k → ∀ (H : Heap) (locs : List Loc), qH g A s [(h0, .inr (2, [.ref h1, .int (nI n)])), (h1, .inl (gI g, 4096, .inl (aN f)))] H locs → ∀ ls : Array Slot, lv_has ls 3 [(0, .ref h0), (1, .int (nI y4_1)), (2, .int (nI k))] → W p l e { frames := 1, cells := 0, slots := 0, locals := 21 } s m args below meth c H locs 0 0 Q (F0 m 4 ls []) := by
    intro fu
    induction fu with
    | zero => intro k hfu; exact absurd hfu (Nat.not_lt_zero _)
    | succ fu ih4 =>
      intro k hfu hk y4_1 ey4_1 H locs h ls hl
      subst ey4_1
      refine lv_iload_n E.1.1 E.1.2.1 dX2_union_4 rfl (lv_at hl 2 rfl) ?_
      refine lv_aload_n E.1.1 E.1.2.1 dX2_union_5 rfl (lv_at hl 0 rfl) ?_
      refine q_get E h (C := RX2) (T := TX2) (N := 2) 2 rfl c_2 0 rfl 1 (by decide) c_1 (v := .int (nI n)) rfl dX2_union_6 ?_
      refine q_ge E (tgt := 29) (by omega) (by omega) dX2_union_9 (by decide) (fun hb9 => ?_) (fun hb9 => ?_)
      · skip
        refine lv_iload_n E.1.1 E.1.2.1 dX2_union_29 rfl (lv_at hl 1 rfl) ?_
        -- world at the end: [(h0, .inr (2, [.ref h1, .int (nI n)])), (h1, .inl (gI g, 4096, .inl (aN f)))]
        exact hend _ _ _ _ _ () h dX2_union_30 (by rw [show k = n by omega])
      · skip
        refine lv_iload_n E.1.1 E.1.2.1 dX2_union_12 rfl (lv_at hl 1 rfl) ?_
        refine lv_aload_n E.1.1 E.1.2.1 dX2_union_13 rfl (lv_at hl 0 rfl) ?_
        refine q_get E h (C := RX2) (T := TX2) (N := 2) 2 rfl c_2 0 rfl 0 (by decide) c_3 (v := .ref h1) rfl dX2_union_14 ?_
        refine lv_iload_n E.1.1 E.1.2.1 dX2_union_17 rfl (lv_at hl 2 rfl) ?_
        refine q_ki (w2 := fun _ => [(h0, .inr (2, [.ref h1, .int (nI n)])), (h1, .inl (gI g, 4096, .inl (aN f)))]) (wr := [(h0, .inr (2, [.ref h1, .int (nI n)]))]) E h [1] [0] [0, 1] (va_runSN (As := [.ref h1, .int (nI k)]) (rest := [.int (nI (unU f k))]) E.1 (k_X3_at l g h1 4096 k f (by omega) (by omega) _) c_4 (q_preS E h [1] rfl rfl) rfl rfl hl.1 rfl (lv_room (Nat.le_of_ble_eq_true rfl)) dX2_union_18 ⟨Nat.zero_le _, Nat.zero_le _⟩) rfl rfl rfl (by decide) rfl (fun _ => rfl) (fun r5 _ H locs hr5 h => ?_)
        subst hr5
        refine q_or E dX2_union_21 ?_
        refine lv_istore_n (lv' := [(1, .int (nI ((unU f k) ||| (f k)))), (0, .ref h0), (2, .int (nI k))]) E.1.1 E.1.2.1 dX2_union_22 rfl hl (by decide) rfl (fun ls hl => ?_)
        refine q_inc E (lv' := [(2, .int (nI (k + 1))), (1, .int (nI ((unU f k) ||| (f k)))), (0, .ref h0)]) hl dX2_union_23 (k := 2) rfl (by decide) rfl (fun ls hl => ?_)
        refine q_go E (tgt := 4) dX2_union_26 (by decide) ?_
        exact ih4  (k + 1) (by omega) (by omega) _ rfl _ _ h _ (lv_sub hl [2, 1, 0] rfl)
  exact lp4 ((n - 0) + 1) 0 (Nat.lt_succ_self _) (by omega) _ rfl _ _ h _ (lv_sub hl [2, 1, 0] rfl)
set_option maxHeartbeats 4000000 in
set_option maxRecDepth 100000 in
theorem k_X2_commonPart_ (l : Launch) (g : GK) (h0 h1 n : Nat) (f : Nat → Nat) (al : Nat) (hn : n ≤ 4096) : CI (S := Unit) l g yX2_commonPart wsX2_commonPart { frames := 1, cells := 0, slots := 0, locals := 21 } [.ref h0, .int (nI al)] [(h0, .inr (2, [.ref h1, .int (nI n)])), (h1, .inl (gI g, 4096, .inl (aN f)))] (fun r _ => r = nI (coU f al n)) (fun _ => [(h0, .inr (2, [.ref h1, .int (nI n)])), (h1, .inl (gI g, 4096, .inl (aN f)))]) := by
  refine q_ofI (own := RX2) (by decide) rfl rfl (Nat.le_of_ble_eq_true rfl) n_int ?_
  intro p e s m below meth c A Q args E hmn h hend ls hl
  have hl : lv_has ls 4 [(0, .ref h0), (1, .int (nI al))] := hl
  have c_1 := E.1.2.2.2.2 (.fieldLink RX2 15 "DebateSolver$SetList" "size" "I") (by decide +kernel)
  have c_2 := (by decide +kernel : ∀ w ∈ wsX20, w ∈ wsX2_commonPart)
  have c_3 := E.1.2.2.2.2 (.fieldLink RX2 9 "DebateSolver$SetList" "sets" "[I") (by decide +kernel)
  have c_4 := (⟨va_cnB (R := { frames := 1, cells := 0, slots := 0, locals := 21 }) (rm := { frames := 0, cells := 0, slots := 0, locals := 0 }) (mc := 0) (ms := 0) 2 E.1.2.2.2.2 gX2_commonPart_X3_at_n23 rfl rfl rfl (E.2.1.2 (RX2, 23, yX3_at, RX3) (List.mem_of_getElem? (i := 7) rfl)) (E.1.2.2.2.2 (.initialized RX3) (by decide +kernel)) (by decide +kernel) ⟨Nat.le_of_ble_eq_true rfl, Nat.le_of_ble_eq_true rfl⟩, E.1.2.2.2.2 (.static yX3_at) (by decide +kernel), trivial⟩ : va_CN { frames := 1, cells := 0, slots := 0, locals := 21 } s args RX2 23 yX3_at RX3 cX3_at 2 (some .int) wsX3_at { frames := 0, cells := 0, slots := 0, locals := 0 } 0 0 2 ∧ _ ∧ True)
  refine lv_iload_n E.1.1 E.1.2.1 dX2_commonPart_0 rfl (lv_at hl 1 rfl) ?_
  refine lv_istore_n (lv' := [(2, .int (nI al)), (0, .ref h0), (1, .int (nI al))]) E.1.1 E.1.2.1 dX2_commonPart_1 rfl hl (by decide) rfl (fun ls hl => ?_)
  refine q_ic E 0 dX2_commonPart_2 (by decide) ?_
  refine lv_istore_n (lv' := [(3, .int (nI 0)), (2, .int (nI al)), (0, .ref h0), (1, .int (nI al))]) E.1.1 E.1.2.1 dX2_commonPart_3 rfl hl (by decide) rfl (fun ls hl => ?_)
  have lp4 : ∀ (fu : Nat) (k : Nat), n - k < fu → (k ≤ n) → ∀ (y4_2 : Nat), y4_2 = coU f al k → ∀ (H : Heap) (locs : List Loc), qH g A s [(h0, .inr (2, [.ref h1, .int (nI n)])), (h1, .inl (gI g, 4096, .inl (aN f)))] H locs → ∀ ls : Array Slot, lv_has ls 4 [(0, .ref h0), (1, .int (nI al)), (2, .int (nI y4_2)), (3, .int (nI k))] → W p l e { frames := 1, cells := 0, slots := 0, locals := 21 } s m args below meth c H locs 0 0 Q (F0 m 4 ls []) := by
    intro fu
    induction fu with
    | zero => intro k hfu; exact absurd hfu (Nat.not_lt_zero _)
    | succ fu ih4 =>
      intro k hfu hk y4_2 ey4_2 H locs h ls hl
      subst ey4_2
      refine lv_iload_n E.1.1 E.1.2.1 dX2_commonPart_4 rfl (lv_at hl 3 rfl) ?_
      refine lv_aload_n E.1.1 E.1.2.1 dX2_commonPart_5 rfl (lv_at hl 0 rfl) ?_
      refine q_get E h (C := RX2) (T := TX2) (N := 2) 2 rfl c_2 0 rfl 1 (by decide) c_1 (v := .int (nI n)) rfl dX2_commonPart_6 ?_
      refine q_ge E (tgt := 29) (by omega) (by omega) dX2_commonPart_9 (by decide) (fun hb9 => ?_) (fun hb9 => ?_)
      · skip
        refine lv_iload_n E.1.1 E.1.2.1 dX2_commonPart_29 rfl (lv_at hl 2 rfl) ?_
        -- world at the end: [(h0, .inr (2, [.ref h1, .int (nI n)])), (h1, .inl (gI g, 4096, .inl (aN f)))]
        exact hend _ _ _ _ _ () h dX2_commonPart_30 (by rw [show k = n by omega])
      · skip
        refine lv_iload_n E.1.1 E.1.2.1 dX2_commonPart_12 rfl (lv_at hl 2 rfl) ?_
        refine lv_aload_n E.1.1 E.1.2.1 dX2_commonPart_13 rfl (lv_at hl 0 rfl) ?_
        refine q_get E h (C := RX2) (T := TX2) (N := 2) 2 rfl c_2 0 rfl 0 (by decide) c_3 (v := .ref h1) rfl dX2_commonPart_14 ?_
        refine lv_iload_n E.1.1 E.1.2.1 dX2_commonPart_17 rfl (lv_at hl 3 rfl) ?_
        refine q_ki (w2 := fun _ => [(h0, .inr (2, [.ref h1, .int (nI n)])), (h1, .inl (gI g, 4096, .inl (aN f)))]) (wr := [(h0, .inr (2, [.ref h1, .int (nI n)]))]) E h [1] [0] [0, 1] (va_runSN (As := [.ref h1, .int (nI k)]) (rest := [.int (nI (coU f al k))]) E.1 (k_X3_at l g h1 4096 k f (by omega) (by omega) _) c_4 (q_preS E h [1] rfl rfl) rfl rfl hl.1 rfl (lv_room (Nat.le_of_ble_eq_true rfl)) dX2_commonPart_18 ⟨Nat.zero_le _, Nat.zero_le _⟩) rfl rfl rfl (by decide) rfl (fun _ => rfl) (fun r5 _ H locs hr5 h => ?_)
        subst hr5
        refine q_and E dX2_commonPart_21 ?_
        refine lv_istore_n (lv' := [(2, .int (nI ((coU f al k) &&& (f k)))), (0, .ref h0), (1, .int (nI al)), (3, .int (nI k))]) E.1.1 E.1.2.1 dX2_commonPart_22 rfl hl (by decide) rfl (fun ls hl => ?_)
        refine q_inc E (lv' := [(3, .int (nI (k + 1))), (2, .int (nI ((coU f al k) &&& (f k)))), (0, .ref h0), (1, .int (nI al))]) hl dX2_commonPart_23 (k := 3) rfl (by decide) rfl (fun ls hl => ?_)
        refine q_go E (tgt := 4) dX2_commonPart_26 (by decide) ?_
        exact ih4  (k + 1) (by omega) (by omega) _ rfl _ _ h _ (lv_sub hl [2, 3, 1, 0] rfl)
  exact lp4 ((n - 0) + 1) 0 (Nat.lt_succ_self _) (by omega) _ rfl _ _ h _ (lv_sub hl [2, 3, 1, 0] rfl)
set_option maxRecDepth 100000 in
theorem k_X2_add (l : Launch) (g : GK) (h0 h1 : Nat) (L : List Nat) (F : Nat → Nat) (x : Nat) (hn : L.length < 4096) : CV (S := Unit) l g yX2_add wsX2_add { frames := 1, cells := 0, slots := 0, locals := 22 } [.ref h0, .int (nI x)] [(h0, .inr (2, [.ref h1, .int (nI L.length)])), (h1, .inl (gI g, 4096, .inl (aN (ovr L F))))] (fun _ => True) (fun _ => [(h0, .inr (2, [.ref h1, .int (nI ((L ++ [x]).length))])), (h1, .inl (gI g, 4096, .inl (aN (ovr (L ++ [x]) F))))]) := by
  have q := k_X2_add_ l g h0 h1 L.length (ovr L F) x hn
  rw [ovr_push] at q
  rw [List.length_append]
  exact q
set_option maxRecDepth 100000 in
theorem k_X2_get (l : Launch) (g : GK) (h0 h1 : Nat) (L : List Nat) (F : Nat → Nat) (k : Nat) (hk : k < L.length) (hn : L.length ≤ 4096) : CI (S := Unit) l g yX2_get wsX2_get { frames := 1, cells := 0, slots := 0, locals := 21 } [.ref h0, .int (nI k)] [(h0, .inr (2, [.ref h1, .int (nI L.length)])), (h1, .inl (gI g, 4096, .inl (aN (ovr L F))))] (fun r _ => r = nI (gl L k)) (fun _ => [(h0, .inr (2, [.ref h1, .int (nI L.length)])), (h1, .inl (gI g, 4096, .inl (aN (ovr L F))))]) := by
  have q := k_X2_get_ l g h0 h1 L.length (ovr L F) k (by omega)
  rw [ovr_at hk] at q
  exact q
set_option maxRecDepth 100000 in
theorem k_X2_union (l : Launch) (g : GK) (h0 h1 : Nat) (L : List Nat) (F : Nat → Nat) (hn : L.length ≤ 4096) : CI (S := Unit) l g yX2_union wsX2_union { frames := 1, cells := 0, slots := 0, locals := 21 } [.ref h0] [(h0, .inr (2, [.ref h1, .int (nI L.length)])), (h1, .inl (gI g, 4096, .inl (aN (ovr L F))))] (fun r _ => r = nI (unU (gl L) L.length)) (fun _ => [(h0, .inr (2, [.ref h1, .int (nI L.length)])), (h1, .inl (gI g, 4096, .inl (aN (ovr L F))))]) := by
  have q := k_X2_union_ l g h0 h1 L.length (ovr L F) hn
  rw [unU_ext (f' := gl L) (fun k hk => ovr_at hk)] at q
  exact q
set_option maxRecDepth 100000 in
theorem k_X2_commonPart (l : Launch) (g : GK) (h0 h1 : Nat) (L : List Nat) (F : Nat → Nat) (al : Nat) (hn : L.length ≤ 4096) : CI (S := Unit) l g yX2_commonPart wsX2_commonPart { frames := 1, cells := 0, slots := 0, locals := 21 } [.ref h0, .int (nI al)] [(h0, .inr (2, [.ref h1, .int (nI L.length)])), (h1, .inl (gI g, 4096, .inl (aN (ovr L F))))] (fun r _ => r = nI (coU (gl L) al L.length)) (fun _ => [(h0, .inr (2, [.ref h1, .int (nI L.length)])), (h1, .inl (gI g, 4096, .inl (aN (ovr L F))))]) := by
  have q := k_X2_commonPart_ l g h0 h1 L.length (ovr L F) al hn
  rw [coU_ext (f' := gl L) (fun k hk => ovr_at hk)] at q
  exact q
set_option maxRecDepth 100000 in
theorem k_X2_clear (l : Launch) (g : GK) (h0 h1 : Nat) (L : List Nat) (F : Nat → Nat)  : CV (S := Unit) l g yX2_clear wsX2_clear { frames := 0, cells := 0, slots := 0, locals := 0 } [.ref h0] [(h0, .inr (2, [.ref h1, .int (nI L.length)])), (h1, .inl (gI g, 4096, .inl (aN (ovr L F))))] (fun _ => True) (fun _ => [(h0, .inr (2, [.ref h1, .int (nI (([] : List Nat).length))])), (h1, .inl (gI g, 4096, .inl (aN (ovr ([] : List Nat) (ovr L F)))))]) := by
  have q := k_X2_clear_ l g h0 h1 L.length (ovr L F)
  rw [ovr_nil]
  exact q
