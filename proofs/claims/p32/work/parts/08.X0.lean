/-! Attacks -/
set_option maxHeartbeats 4000000 in
set_option maxRecDepth 100000 in
theorem k_X0_present (l : Launch) (g : GK) (h0 h1 h2 pr sf : Nat)  : CI (S := Unit) l g yX0_present wsX0_present { frames := 0, cells := 0, slots := 0, locals := 0 } [.ref h0] [(h0, .inr (0, [.ref h1, .ref h2, .int (nI pr), .int (nI sf)]))] (fun r _ => r = nI pr) (fun _ => [(h0, .inr (0, [.ref h1, .ref h2, .int (nI pr), .int (nI sf)]))]) := by
  refine q_ofI (own := RX0) (by decide) rfl rfl (Nat.le_of_ble_eq_true rfl) n_int ?_
  intro p e s m below meth c A Q args E hmn h hend ls hl
  have hl : lv_has ls 1 [(0, .ref h0)] := hl
  have c_1 := E.1.2.2.2.2 (.fieldLink RX0 18 "DebateSolver$Attacks" "present" "I") (by decide +kernel)
  have c_2 := (by decide +kernel : ∀ w ∈ wsX00, w ∈ wsX0_present)
  refine lv_aload_n E.1.1 E.1.2.1 dX0_present_0 rfl (lv_at hl 0 rfl) ?_
  refine q_get E h (C := RX0) (T := TX0) (N := 4) 0 rfl c_2 0 rfl 2 (by decide) c_1 (v := .int (nI pr)) rfl dX0_present_1 ?_
  -- world at the end: [(h0, .inr (0, [.ref h1, .ref h2, .int (nI pr), .int (nI sf)]))]
  exact hend _ _ _ _ _ () h dX0_present_4 rfl
set_option maxHeartbeats 4000000 in
set_option maxRecDepth 100000 in
theorem k_X0_selfAttackers (l : Launch) (g : GK) (h0 h1 h2 pr sf : Nat)  : CI (S := Unit) l g yX0_selfAttackers wsX0_selfAttackers { frames := 0, cells := 0, slots := 0, locals := 0 } [.ref h0] [(h0, .inr (0, [.ref h1, .ref h2, .int (nI pr), .int (nI sf)]))] (fun r _ => r = nI sf) (fun _ => [(h0, .inr (0, [.ref h1, .ref h2, .int (nI pr), .int (nI sf)]))]) := by
  refine q_ofI (own := RX0) (by decide) rfl rfl (Nat.le_of_ble_eq_true rfl) n_int ?_
  intro p e s m below meth c A Q args E hmn h hend ls hl
  have hl : lv_has ls 1 [(0, .ref h0)] := hl
  have c_1 := E.1.2.2.2.2 (.fieldLink RX0 22 "DebateSolver$Attacks" "selfAttackers" "I") (by decide +kernel)
  have c_2 := (by decide +kernel : ∀ w ∈ wsX00, w ∈ wsX0_selfAttackers)
  refine lv_aload_n E.1.1 E.1.2.1 dX0_selfAttackers_0 rfl (lv_at hl 0 rfl) ?_
  refine q_get E h (C := RX0) (T := TX0) (N := 4) 0 rfl c_2 0 rfl 3 (by decide) c_1 (v := .int (nI sf)) rfl dX0_selfAttackers_1 ?_
  -- world at the end: [(h0, .inr (0, [.ref h1, .ref h2, .int (nI pr), .int (nI sf)]))]
  exact hend _ _ _ _ _ () h dX0_selfAttackers_4 rfl
set_option maxHeartbeats 4000000 in
set_option maxRecDepth 100000 in
theorem k_X0_sourcesOf (l : Launch) (g : GK) (h0 h1 h2 pr sf k : Nat) (sr : Nat → Nat) (hk : k < 12) : CI (S := Unit) l g yX0_sourcesOf wsX0_sourcesOf { frames := 1, cells := 0, slots := 0, locals := 21 } [.ref h0, .int (nI k)] [(h0, .inr (0, [.ref h1, .ref h2, .int (nI pr), .int (nI sf)])), (h1, .inl (gI g, 12, .inl (aN sr)))] (fun r _ => r = nI (sr k)) (fun _ => [(h0, .inr (0, [.ref h1, .ref h2, .int (nI pr), .int (nI sf)])), (h1, .inl (gI g, 12, .inl (aN sr)))]) := by
  refine q_ofI (own := RX0) (by decide) rfl rfl (Nat.le_of_ble_eq_true rfl) n_int ?_
  intro p e s m below meth c A Q args E hmn h hend ls hl
  have hl : lv_has ls 2 [(0, .ref h0), (1, .int (nI k))] := hl
  have c_1 := E.1.2.2.2.2 (.fieldLink RX0 9 "DebateSolver$Attacks" "sources" "[I") (by decide +kernel)
  have c_2 := (by decide +kernel : ∀ w ∈ wsX00, w ∈ wsX0_sourcesOf)
  have c_3 := (⟨va_cnB (R := { frames := 1, cells := 0, slots := 0, locals := 21 }) (rm := { frames := 0, cells := 0, slots := 0, locals := 0 }) (mc := 0) (ms := 0) 2 E.1.2.2.2.2 gX0_sourcesOf_X3_at_n29 rfl rfl rfl (E.2.1.2 (RX0, 29, yX3_at, RX3) (List.mem_of_getElem? (i := 1) rfl)) (E.1.2.2.2.2 (.initialized RX3) (by decide +kernel)) (by decide +kernel) ⟨Nat.le_of_ble_eq_true rfl, Nat.le_of_ble_eq_true rfl⟩, E.1.2.2.2.2 (.static yX3_at) (by decide +kernel), trivial⟩ : va_CN { frames := 1, cells := 0, slots := 0, locals := 21 } s args RX0 29 yX3_at RX3 cX3_at 2 (some .int) wsX3_at { frames := 0, cells := 0, slots := 0, locals := 0 } 0 0 2 ∧ _ ∧ True)
  refine lv_aload_n E.1.1 E.1.2.1 dX0_sourcesOf_0 rfl (lv_at hl 0 rfl) ?_
  refine q_get E h (C := RX0) (T := TX0) (N := 4) 0 rfl c_2 0 rfl 0 (by decide) c_1 (v := .ref h1) rfl dX0_sourcesOf_1 ?_
  refine lv_iload_n E.1.1 E.1.2.1 dX0_sourcesOf_4 rfl (lv_at hl 1 rfl) ?_
  refine q_ki (w2 := fun _ => [(h0, .inr (0, [.ref h1, .ref h2, .int (nI pr), .int (nI sf)])), (h1, .inl (gI g, 12, .inl (aN sr)))]) (wr := [(h0, .inr (0, [.ref h1, .ref h2, .int (nI pr), .int (nI sf)]))]) E h [1] [0] [0, 1] (va_runSN (As := [.ref h1, .int (nI k)]) (rest := []) E.1 (k_X3_at l g h1 12 k sr (by omega) (by omega) _) c_3 (q_preS E h [1] rfl rfl) rfl rfl hl.1 rfl (lv_room (Nat.le_of_ble_eq_true rfl)) dX0_sourcesOf_5 ⟨Nat.zero_le _, Nat.zero_le _⟩) rfl rfl rfl (by decide) rfl (fun _ => rfl) (fun r4 _ H locs hr4 h => ?_)
  subst hr4
  -- world at the end: [(h0, .inr (0, [.ref h1, .ref h2, .int (nI pr), .int (nI sf)])), (h1, .inl (gI g, 12, .inl (aN sr)))]
  exact hend _ _ _ _ _ () h dX0_sourcesOf_8 rfl
set_option maxHeartbeats 4000000 in
set_option maxRecDepth 100000 in
theorem k_X0_targetsOf (l : Launch) (g : GK) (h0 h1 h2 pr sf k : Nat) (tg : Nat → Nat) (hk : k < 12) : CI (S := Unit) l g yX0_targetsOf wsX0_targetsOf { frames := 1, cells := 0, slots := 0, locals := 21 } [.ref h0, .int (nI k)] [(h0, .inr (0, [.ref h1, .ref h2, .int (nI pr), .int (nI sf)])), (h2, .inl (gI g, 12, .inl (aN tg)))] (fun r _ => r = nI (tg k)) (fun _ => [(h0, .inr (0, [.ref h1, .ref h2, .int (nI pr), .int (nI sf)])), (h2, .inl (gI g, 12, .inl (aN tg)))]) := by
  refine q_ofI (own := RX0) (by decide) rfl rfl (Nat.le_of_ble_eq_true rfl) n_int ?_
  intro p e s m below meth c A Q args E hmn h hend ls hl
  have hl : lv_has ls 2 [(0, .ref h0), (1, .int (nI k))] := hl
  have c_1 := E.1.2.2.2.2 (.fieldLink RX0 15 "DebateSolver$Attacks" "targets" "[I") (by decide +kernel)
  have c_2 := (by decide +kernel : ∀ w ∈ wsX00, w ∈ wsX0_targetsOf)
  have c_3 := (⟨va_cnB (R := { frames := 1, cells := 0, slots := 0, locals := 21 }) (rm := { frames := 0, cells := 0, slots := 0, locals := 0 }) (mc := 0) (ms := 0) 2 E.1.2.2.2.2 gX0_targetsOf_X3_at_n29 rfl rfl rfl (E.2.1.2 (RX0, 29, yX3_at, RX3) (List.mem_of_getElem? (i := 1) rfl)) (E.1.2.2.2.2 (.initialized RX3) (by decide +kernel)) (by decide +kernel) ⟨Nat.le_of_ble_eq_true rfl, Nat.le_of_ble_eq_true rfl⟩, E.1.2.2.2.2 (.static yX3_at) (by decide +kernel), trivial⟩ : va_CN { frames := 1, cells := 0, slots := 0, locals := 21 } s args RX0 29 yX3_at RX3 cX3_at 2 (some .int) wsX3_at { frames := 0, cells := 0, slots := 0, locals := 0 } 0 0 2 ∧ _ ∧ True)
  refine lv_aload_n E.1.1 E.1.2.1 dX0_targetsOf_0 rfl (lv_at hl 0 rfl) ?_
  refine q_get E h (C := RX0) (T := TX0) (N := 4) 0 rfl c_2 0 rfl 1 (by decide) c_1 (v := .ref h2) rfl dX0_targetsOf_1 ?_
  refine lv_iload_n E.1.1 E.1.2.1 dX0_targetsOf_4 rfl (lv_at hl 1 rfl) ?_
  refine q_ki (w2 := fun _ => [(h0, .inr (0, [.ref h1, .ref h2, .int (nI pr), .int (nI sf)])), (h2, .inl (gI g, 12, .inl (aN tg)))]) (wr := [(h0, .inr (0, [.ref h1, .ref h2, .int (nI pr), .int (nI sf)]))]) E h [1] [0] [0, 1] (va_runSN (As := [.ref h2, .int (nI k)]) (rest := []) E.1 (k_X3_at l g h2 12 k tg (by omega) (by omega) _) c_3 (q_preS E h [1] rfl rfl) rfl rfl hl.1 rfl (lv_room (Nat.le_of_ble_eq_true rfl)) dX0_targetsOf_5 ⟨Nat.zero_le _, Nat.zero_le _⟩) rfl rfl rfl (by decide) rfl (fun _ => rfl) (fun r4 _ H locs hr4 h => ?_)
  subst hr4
  -- world at the end: [(h0, .inr (0, [.ref h1, .ref h2, .int (nI pr), .int (nI sf)])), (h2, .inl (gI g, 12, .inl (aN tg)))]
  exact hend _ _ _ _ _ () h dX0_targetsOf_8 rfl
set_option maxHeartbeats 4000000 in
set_option maxRecDepth 100000 in
theorem k_X0_hitBy (l : Launch) (g : GK) (h0 h1 h2 pr sf n : Nat) (tg : Nat → Nat) (hn : n < 4096) : CI (S := Unit) l g yX0_hitBy wsX0_hitBy { frames := 1, cells := 0, slots := 0, locals := 21 } [.ref h0, .int (nI n)] [(h0, .inr (0, [.ref h1, .ref h2, .int (nI pr), .int (nI sf)])), (h2, .inl (gI g, 12, .inl (aN tg)))] (fun r _ => r = nI (hit tg n)) (fun _ => [(h0, .inr (0, [.ref h1, .ref h2, .int (nI pr), .int (nI sf)])), (h2, .inl (gI g, 12, .inl (aN tg)))]) := by
  refine q_ofI (own := RX0) (by decide) rfl rfl (Nat.le_of_ble_eq_true rfl) n_int ?_
  intro p e s m below meth c A Q args E hmn h hend ls hl
  have hl : lv_has ls 4 [(0, .ref h0), (1, .int (nI n))] := hl
  have c_1 := (⟨va_cnB (R := { frames := 1, cells := 0, slots := 0, locals := 21 }) (rm := { frames := 0, cells := 0, slots := 0, locals := 0 }) (mc := 0) (ms := 0) 2 E.1.2.2.2.2 gX0_hitBy_X3_has_n33 rfl rfl rfl (E.2.1.2 (RX0, 33, yX3_has, RX3) (List.mem_of_getElem? (i := 2) rfl)) (E.1.2.2.2.2 (.initialized RX3) (by decide +kernel)) (by decide +kernel) ⟨Nat.le_of_ble_eq_true rfl, Nat.le_of_ble_eq_true rfl⟩, E.1.2.2.2.2 (.static yX3_has) (by decide +kernel), trivial⟩ : va_CN { frames := 1, cells := 0, slots := 0, locals := 21 } s args RX0 33 yX3_has RX3 cX3_has 2 (some .boolean) wsX3_has { frames := 0, cells := 0, slots := 0, locals := 0 } 0 0 2 ∧ _ ∧ True)
  have c_3 := E.1.2.2.2.2 (.fieldLink RX0 15 "DebateSolver$Attacks" "targets" "[I") (by decide +kernel)
  have c_4 := (by decide +kernel : ∀ w ∈ wsX00, w ∈ wsX0_hitBy)
  have c_5 := (⟨va_cnB (R := { frames := 1, cells := 0, slots := 0, locals := 21 }) (rm := { frames := 0, cells := 0, slots := 0, locals := 0 }) (mc := 0) (ms := 0) 2 E.1.2.2.2.2 gX0_hitBy_X3_at_n29 rfl rfl rfl (E.2.1.2 (RX0, 29, yX3_at, RX3) (List.mem_of_getElem? (i := 1) rfl)) (E.1.2.2.2.2 (.initialized RX3) (by decide +kernel)) (by decide +kernel) ⟨Nat.le_of_ble_eq_true rfl, Nat.le_of_ble_eq_true rfl⟩, E.1.2.2.2.2 (.static yX3_at) (by decide +kernel), trivial⟩ : va_CN { frames := 1, cells := 0, slots := 0, locals := 21 } s args RX0 29 yX3_at RX3 cX3_at 2 (some .int) wsX3_at { frames := 0, cells := 0, slots := 0, locals := 0 } 0 0 2 ∧ _ ∧ True)
  refine q_ic E 0 dX0_hitBy_0 (by decide) ?_
  refine lv_istore_n (lv' := [(2, .int (nI 0)), (0, .ref h0), (1, .int (nI n))]) E.1.1 E.1.2.1 dX0_hitBy_1 rfl hl (by decide) rfl (fun ls hl => ?_)
  refine q_ic E 0 dX0_hitBy_2 (by decide) ?_
  refine lv_istore_n (lv' := [(3, .int (nI 0)), (2, .int (nI 0)), (0, .ref h0), (1, .int (nI n))]) E.1.1 E.1.2.1 dX0_hitBy_3 rfl hl (by decide) rfl (fun ls hl => ?_)
  have lp4 : ∀ (fu : Nat) (k : Nat), 12 - k < fu → (k ≤ 12) → ∀ (y4_2 : Nat), y4_2 = hitU tg n k → ∀ (H : Heap) (locs : List Loc), qH g A s [(h0, .inr (0, [.ref h1, .ref h2, .int (nI pr), .int (nI sf)])), (h2, .inl (gI g, 12, .inl (aN tg)))] H locs → ∀ ls : Array Slot, lv_has ls 4 [(0, .ref h0), (1, .int (nI n)), (2, .int (nI y4_2)), (3, .int (nI k))] → W p l e { frames := 1, cells := 0, slots := 0, locals := 21 } s m args below meth c H locs 0 0 Q (F0 m 4 ls []) := by
    intro fu
    induction fu with
    | zero => intro k hfu; exact absurd hfu (Nat.not_lt_zero _)
    | succ fu ih4 =>
      intro k hfu hk y4_2 ey4_2 H locs h ls hl
      subst ey4_2
      refine lv_iload_n E.1.1 E.1.2.1 dX0_hitBy_4 rfl (lv_at hl 3 rfl) ?_
      refine q_bi E 12 dX0_hitBy_5 (by decide) ?_
      refine q_ge E (tgt := 35) (by omega) (by omega) dX0_hitBy_7 (by decide) (fun hb7 => ?_) (fun hb7 => ?_)
      · skip
        refine lv_iload_n E.1.1 E.1.2.1 dX0_hitBy_35 rfl (lv_at hl 2 rfl) ?_
        -- world at the end: [(h0, .inr (0, [.ref h1, .ref h2, .int (nI pr), .int (nI sf)])), (h2, .inl (gI g, 12, .inl (aN tg)))]
        exact hend _ _ _ _ _ () h dX0_hitBy_36 (by rw [show k = 12 by omega]; rfl)
      · skip
        refine lv_iload_n E.1.1 E.1.2.1 dX0_hitBy_10 rfl (lv_at hl 1 rfl) ?_
        refine lv_iload_n E.1.1 E.1.2.1 dX0_hitBy_11 rfl (lv_at hl 3 rfl) ?_
        refine q_ki (w2 := fun _ => [(h0, .inr (0, [.ref h1, .ref h2, .int (nI pr), .int (nI sf)])), (h2, .inl (gI g, 12, .inl (aN tg)))]) (wr := [(h0, .inr (0, [.ref h1, .ref h2, .int (nI pr), .int (nI sf)])), (h2, .inl (gI g, 12, .inl (aN tg)))]) E h [] [0, 1] [0, 1] (va_runSN (As := [.int (nI n), .int (nI k)]) (rest := []) E.1 (k_X3_has l g n k (by omega) (by omega) _) c_1 (q_preS E h [] rfl rfl) rfl rfl hl.1 rfl (lv_room (Nat.le_of_ble_eq_true rfl)) dX0_hitBy_12 ⟨Nat.zero_le _, Nat.zero_le _⟩) rfl rfl rfl (by decide) rfl (fun _ => rfl) (fun r2 _ H locs hr2 h => ?_)
        subst hr2
        refine q_beq E (tgt := 29) dX0_hitBy_15 (by decide) (fun hb15 => ?_) (fun hb15 => ?_)
        · skip
          refine q_inc E (lv' := [(3, .int (nI (k + 1))), (0, .ref h0), (1, .int (nI n)), (2, .int (nI (hitU tg n k)))]) hl dX0_hitBy_29 (k := 3) rfl (by decide) rfl (fun ls hl => ?_)
          refine q_go E (tgt := 4) dX0_hitBy_32 (by decide) ?_
          exact ih4  (k + 1) (by omega) (by omega) _ (by first | exact (hitU_t hb15).symm | exact (hitU_f hb15).symm) _ _ h _ (lv_sub hl [1, 2, 3, 0] rfl)
        · skip
          refine lv_iload_n E.1.1 E.1.2.1 dX0_hitBy_18 rfl (lv_at hl 2 rfl) ?_
          refine lv_aload_n E.1.1 E.1.2.1 dX0_hitBy_19 rfl (lv_at hl 0 rfl) ?_
          refine q_get E h (C := RX0) (T := TX0) (N := 4) 0 rfl c_4 0 rfl 1 (by decide) c_3 (v := .ref h2) rfl dX0_hitBy_20 ?_
          refine lv_iload_n E.1.1 E.1.2.1 dX0_hitBy_23 rfl (lv_at hl 3 rfl) ?_
          refine q_ki (w2 := fun _ => [(h0, .inr (0, [.ref h1, .ref h2, .int (nI pr), .int (nI sf)])), (h2, .inl (gI g, 12, .inl (aN tg)))]) (wr := [(h0, .inr (0, [.ref h1, .ref h2, .int (nI pr), .int (nI sf)]))]) E h [1] [0] [0, 1] (va_runSN (As := [.ref h2, .int (nI k)]) (rest := [.int (nI (hitU tg n k))]) E.1 (k_X3_at l g h2 12 k tg (by omega) (by omega) _) c_5 (q_preS E h [1] rfl rfl) rfl rfl hl.1 rfl (lv_room (Nat.le_of_ble_eq_true rfl)) dX0_hitBy_24 ⟨Nat.zero_le _, Nat.zero_le _⟩) rfl rfl rfl (by decide) rfl (fun _ => rfl) (fun r6 _ H locs hr6 h => ?_)
          subst hr6
          refine q_or E dX0_hitBy_27 ?_
          refine lv_istore_n (lv' := [(2, .int (nI ((hitU tg n k) ||| (tg k)))), (0, .ref h0), (1, .int (nI n)), (3, .int (nI k))]) E.1.1 E.1.2.1 dX0_hitBy_28 rfl hl (by decide) rfl (fun ls hl => ?_)
          refine q_inc E (lv' := [(3, .int (nI (k + 1))), (2, .int (nI ((hitU tg n k) ||| (tg k)))), (0, .ref h0), (1, .int (nI n))]) hl dX0_hitBy_29 (k := 3) rfl (by decide) rfl (fun ls hl => ?_)
          refine q_go E (tgt := 4) dX0_hitBy_32 (by decide) ?_
          exact ih4  (k + 1) (by omega) (by omega) _ (by first | exact (hitU_t hb15).symm | exact (hitU_f hb15).symm) _ _ h _ (lv_sub hl [2, 3, 1, 0] rfl)
  exact lp4 ((12 - 0) + 1) 0 (Nat.lt_succ_self _) (by omega) _ rfl _ _ h _ (lv_sub hl [2, 3, 1, 0] rfl)
set_option maxHeartbeats 4000000 in
set_option maxRecDepth 100000 in
theorem k_X0_isPeaceful (l : Launch) (g : GK) (h0 h1 h2 pr sf n : Nat) (tg : Nat → Nat) (hn : n < 4096) : CI (S := Unit) l g yX0_isPeaceful wsX0_isPeaceful { frames := 2, cells := 0, slots := 0, locals := 44 } [.ref h0, .int (nI n)] [(h0, .inr (0, [.ref h1, .ref h2, .int (nI pr), .int (nI sf)])), (h2, .inl (gI g, 12, .inl (aN tg)))] (fun r _ => r = nI (n &&& hit tg n == 0).toNat) (fun _ => [(h0, .inr (0, [.ref h1, .ref h2, .int (nI pr), .int (nI sf)])), (h2, .inl (gI g, 12, .inl (aN tg)))]) := by
  refine q_ofI (own := RX0) (by decide) rfl rfl (Nat.le_of_ble_eq_true rfl) (fun v u hp => by obtain rfl := hp; exact n_bool _) ?_
  intro p e s m below meth c A Q args E hmn h hend ls hl
  have hl : lv_has ls 2 [(0, .ref h0), (1, .int (nI n))] := hl
  have c_1 := cwV (R := { frames := 2, cells := 0, slots := 0, locals := 44 }) (rm := { frames := 1, cells := 0, slots := 0, locals := 21 }) (mc := 0) (ms := 0) 1 E.1.2.2.2.2 gX0_isPeaceful_X0_hitBy rfl rfl rfl (by decide +kernel) ⟨Nat.le_of_ble_eq_true rfl, Nat.le_of_ble_eq_true rfl⟩
  refine lv_iload_n E.1.1 E.1.2.1 dX0_isPeaceful_0 rfl (lv_at hl 1 rfl) ?_
  refine lv_aload_n E.1.1 E.1.2.1 dX0_isPeaceful_1 rfl (lv_at hl 0 rfl) ?_
  refine lv_iload_n E.1.1 E.1.2.1 dX0_isPeaceful_2 rfl (lv_at hl 1 rfl) ?_
  refine q_ki (w2 := fun _ => [(h0, .inr (0, [.ref h1, .ref h2, .int (nI pr), .int (nI sf)])), (h2, .inl (gI g, 12, .inl (aN tg)))]) (wr := []) E h [0, 1] [] [0, 1] (va_runV (As := [.int (nI n)]) (rest := [.int (nI n)]) E.1 (k_X0_hitBy l g h0 h1 h2 pr sf n tg (by omega) _) c_1 (q_preV E h [0, 1] rfl rfl (C := RX0) (T := TX0) (N := 4) 0 rfl 0 rfl) rfl rfl hl.1 rfl (lv_room (Nat.le_of_ble_eq_true rfl)) dX0_isPeaceful_3 ⟨Nat.zero_le _, Nat.zero_le _⟩) rfl rfl rfl (by decide) rfl (fun _ => rfl) (fun r2 _ H locs hr2 h => ?_)
  subst hr2
  refine q_and E dX0_isPeaceful_6 ?_
  refine q_ne0 E (tgt := 14) (by exact andL31 (by omega)) dX0_isPeaceful_7 (by decide) (fun hb7 => ?_) (fun hb7 => ?_)
  · skip
    refine q_ic E 0 dX0_isPeaceful_14 (by decide) ?_
    -- world at the end: [(h0, .inr (0, [.ref h1, .ref h2, .int (nI pr), .int (nI sf)])), (h2, .inl (gI g, 12, .inl (aN tg)))]
    exact hend _ _ _ _ _ () h dX0_isPeaceful_15 (by rw [beq_false_of_ne hb7]; rfl)
  · skip
    refine q_ic E 1 dX0_isPeaceful_10 (by decide) ?_
    refine q_go E (tgt := 15) dX0_isPeaceful_11 (by decide) ?_
    -- world at the end: [(h0, .inr (0, [.ref h1, .ref h2, .int (nI pr), .int (nI sf)])), (h2, .inl (gI g, 12, .inl (aN tg)))]
    exact hend _ _ _ _ _ () h dX0_isPeaceful_15 (by rw [hb7]; rfl)
set_option maxHeartbeats 4000000 in
set_option maxRecDepth 100000 in
theorem k_X0_safeIfHit (l : Launch) (g : GK) (h0 h1 h2 pr sf hi ins : Nat) (sr : Nat → Nat) (hins : ins < 4096) (hsr : ∀ k, sr k < 4096) : CI (S := Unit) l g yX0_safeIfHit wsX0_safeIfHit { frames := 1, cells := 0, slots := 0, locals := 21 } [.ref h0, .int (nI hi), .int (nI ins)] [(h0, .inr (0, [.ref h1, .ref h2, .int (nI pr), .int (nI sf)])), (h1, .inl (gI g, 12, .inl (aN sr)))] (fun r _ => r = nI (safe sr hi ins)) (fun _ => [(h0, .inr (0, [.ref h1, .ref h2, .int (nI pr), .int (nI sf)])), (h1, .inl (gI g, 12, .inl (aN sr)))]) := by
  refine q_ofI (own := RX0) (by decide) rfl rfl (Nat.le_of_ble_eq_true rfl) n_int ?_
  intro p e s m below meth c A Q args E hmn h hend ls hl
  have hl : lv_has ls 6 [(0, .ref h0), (1, .int (nI hi)), (2, .int (nI ins))] := hl
  have c_1 := (⟨va_cnB (R := { frames := 1, cells := 0, slots := 0, locals := 21 }) (rm := { frames := 0, cells := 0, slots := 0, locals := 0 }) (mc := 0) (ms := 0) 2 E.1.2.2.2.2 gX0_safeIfHit_X3_has_n33 rfl rfl rfl (E.2.1.2 (RX0, 33, yX3_has, RX3) (List.mem_of_getElem? (i := 2) rfl)) (E.1.2.2.2.2 (.initialized RX3) (by decide +kernel)) (by decide +kernel) ⟨Nat.le_of_ble_eq_true rfl, Nat.le_of_ble_eq_true rfl⟩, E.1.2.2.2.2 (.static yX3_has) (by decide +kernel), trivial⟩ : va_CN { frames := 1, cells := 0, slots := 0, locals := 21 } s args RX0 33 yX3_has RX3 cX3_has 2 (some .boolean) wsX3_has { frames := 0, cells := 0, slots := 0, locals := 0 } 0 0 2 ∧ _ ∧ True)
  have c_3 := E.1.2.2.2.2 (.fieldLink RX0 9 "DebateSolver$Attacks" "sources" "[I") (by decide +kernel)
  have c_4 := (by decide +kernel : ∀ w ∈ wsX00, w ∈ wsX0_safeIfHit)
  have c_5 := (⟨va_cnB (R := { frames := 1, cells := 0, slots := 0, locals := 21 }) (rm := { frames := 0, cells := 0, slots := 0, locals := 0 }) (mc := 0) (ms := 0) 2 E.1.2.2.2.2 gX0_safeIfHit_X3_at_n29 rfl rfl rfl (E.2.1.2 (RX0, 29, yX3_at, RX3) (List.mem_of_getElem? (i := 1) rfl)) (E.1.2.2.2.2 (.initialized RX3) (by decide +kernel)) (by decide +kernel) ⟨Nat.le_of_ble_eq_true rfl, Nat.le_of_ble_eq_true rfl⟩, E.1.2.2.2.2 (.static yX3_at) (by decide +kernel), trivial⟩ : va_CN { frames := 1, cells := 0, slots := 0, locals := 21 } s args RX0 29 yX3_at RX3 cX3_at 2 (some .int) wsX3_at { frames := 0, cells := 0, slots := 0, locals := 0 } 0 0 2 ∧ _ ∧ True)
  refine q_ic E 0 dX0_safeIfHit_0 (by decide) ?_
  refine lv_istore_n (lv' := [(3, .int (nI 0)), (0, .ref h0), (1, .int (nI hi)), (2, .int (nI ins))]) E.1.1 E.1.2.1 dX0_safeIfHit_1 rfl hl (by decide) rfl (fun ls hl => ?_)
  refine lv_iload_n E.1.1 E.1.2.1 dX0_safeIfHit_2 rfl (lv_at hl 3 rfl) ?_
  refine lv_iload_n E.1.1 E.1.2.1 dX0_safeIfHit_3 rfl (lv_at hl 2 rfl) ?_
  refine q_im1 E dX0_safeIfHit_4 ?_
  refine q_xor E dX0_safeIfHit_5 ?_
  refine q_andn E dX0_safeIfHit_6 ?_
  refine lv_istore (lv' := [(4, .int (nI (ldf ins hi))), (3, .int (nI 0)), (0, .ref h0), (1, .int (nI hi)), (2, .int (nI ins))]) E.1.1 E.1.2.1 dX0_safeIfHit_7 hl (by decide) rfl (fun ls hl => ?_)
  refine q_ic E 0 dX0_safeIfHit_9 (by decide) ?_
  refine lv_istore (lv' := [(5, .int (nI 0)), (4, .int (nI (ldf ins hi))), (3, .int (nI 0)), (0, .ref h0), (1, .int (nI hi)), (2, .int (nI ins))]) E.1.1 E.1.2.1 dX0_safeIfHit_10 hl (by decide) rfl (fun ls hl => ?_)
  have lp12 : ∀ (fu : Nat) (k : Nat), 12 - k < fu → (k ≤ 12) → ∀ (y12_3 : Nat), y12_3 = mks (safeP sr hi ins) k → ∀ (H : Heap) (locs : List Loc), qH g A s [(h0, .inr (0, [.ref h1, .ref h2, .int (nI pr), .int (nI sf)])), (h1, .inl (gI g, 12, .inl (aN sr)))] H locs → ∀ ls : Array Slot, lv_has ls 6 [(0, .ref h0), (1, .int (nI hi)), (2, .int (nI ins)), (3, .int (nI y12_3)), (4, .int (nI (ldf ins hi))), (5, .int (nI k))] → W p l e { frames := 1, cells := 0, slots := 0, locals := 21 } s m args below meth c H locs 0 0 Q (F0 m 12 ls []) := by
    intro fu
    induction fu with
    | zero => intro k hfu; exact absurd hfu (Nat.not_lt_zero _)
    | succ fu ih12 =>
      intro k hfu hk y12_3 ey12_3 H locs h ls hl
      subst ey12_3
      refine lv_iload E.1.1 E.1.2.1 dX0_safeIfHit_12 (lv_at hl 5 rfl) ?_
      refine q_bi E 12 dX0_safeIfHit_14 (by decide) ?_
      refine q_ge E (tgt := 56) (by omega) (by omega) dX0_safeIfHit_16 (by decide) (fun hb16 => ?_) (fun hb16 => ?_)
      · skip
        refine lv_iload_n E.1.1 E.1.2.1 dX0_safeIfHit_56 rfl (lv_at hl 3 rfl) ?_
        -- world at the end: [(h0, .inr (0, [.ref h1, .ref h2, .int (nI pr), .int (nI sf)])), (h1, .inl (gI g, 12, .inl (aN sr)))]
        exact hend _ _ _ _ _ () h dX0_safeIfHit_57 (by rw [show k = 12 by omega]; rfl)
      · skip
        refine lv_iload_n E.1.1 E.1.2.1 dX0_safeIfHit_19 rfl (lv_at hl 2 rfl) ?_
        refine lv_iload E.1.1 E.1.2.1 dX0_safeIfHit_20 (lv_at hl 5 rfl) ?_
        refine q_ki (w2 := fun _ => [(h0, .inr (0, [.ref h1, .ref h2, .int (nI pr), .int (nI sf)])), (h1, .inl (gI g, 12, .inl (aN sr)))]) (wr := [(h0, .inr (0, [.ref h1, .ref h2, .int (nI pr), .int (nI sf)])), (h1, .inl (gI g, 12, .inl (aN sr)))]) E h [] [0, 1] [0, 1] (va_runSN (As := [.int (nI ins), .int (nI k)]) (rest := []) E.1 (k_X3_has l g ins k (by omega) (by omega) _) c_1 (q_preS E h [] rfl rfl) rfl rfl hl.1 rfl (lv_room (Nat.le_of_ble_eq_true rfl)) dX0_safeIfHit_22 ⟨Nat.zero_le _, Nat.zero_le _⟩) rfl rfl rfl (by decide) rfl (fun _ => rfl) (fun r2 _ H locs hr2 h => ?_)
        subst hr2
        refine q_beq E (tgt := 50) dX0_safeIfHit_25 (by decide) (fun hb25 => ?_) (fun hb25 => ?_)
        · skip
          refine q_inc E (lv' := [(5, .int (nI (k + 1))), (0, .ref h0), (1, .int (nI hi)), (2, .int (nI ins)), (3, .int (nI (mks (safeP sr hi ins) k))), (4, .int (nI (ldf ins hi)))]) hl dX0_safeIfHit_50 (k := 5) rfl (by decide) rfl (fun ls hl => ?_)
          refine q_go E (tgt := 12) dX0_safeIfHit_53 (by decide) ?_
          exact ih12  (k + 1) (by omega) (by omega) _ (by first | exact (mks_f (safeP_f1 hb25)).symm | exact (mks_f (safeP_f2 hb40)).symm | exact (mks_t (safeP_t hb25 hb40)).symm) _ _ h _ (lv_sub hl [1, 2, 3, 4, 5, 0] rfl)
        · skip
          refine lv_aload_n E.1.1 E.1.2.1 dX0_safeIfHit_28 rfl (lv_at hl 0 rfl) ?_
          refine q_get E h (C := RX0) (T := TX0) (N := 4) 0 rfl c_4 0 rfl 0 (by decide) c_3 (v := .ref h1) rfl dX0_safeIfHit_29 ?_
          refine lv_iload E.1.1 E.1.2.1 dX0_safeIfHit_32 (lv_at hl 5 rfl) ?_
          refine q_ki (w2 := fun _ => [(h0, .inr (0, [.ref h1, .ref h2, .int (nI pr), .int (nI sf)])), (h1, .inl (gI g, 12, .inl (aN sr)))]) (wr := [(h0, .inr (0, [.ref h1, .ref h2, .int (nI pr), .int (nI sf)]))]) E h [1] [0] [0, 1] (va_runSN (As := [.ref h1, .int (nI k)]) (rest := []) E.1 (k_X3_at l g h1 12 k sr (by omega) (by omega) _) c_5 (q_preS E h [1] rfl rfl) rfl rfl hl.1 rfl (lv_room (Nat.le_of_ble_eq_true rfl)) dX0_safeIfHit_34 ⟨Nat.zero_le _, Nat.zero_le _⟩) rfl rfl rfl (by decide) rfl (fun _ => rfl) (fun r6 _ H locs hr6 h => ?_)
          subst hr6
          refine lv_iload E.1.1 E.1.2.1 dX0_safeIfHit_37 (lv_at hl 4 rfl) ?_
          refine q_and E dX0_safeIfHit_39 ?_
          refine q_ne0 E (tgt := 50) (by exact andL31 (Nat.lt_trans (hsr k) (by decide))) dX0_safeIfHit_40 (by decide) (fun hb40 => ?_) (fun hb40 => ?_)
          · skip
            refine q_inc E (lv' := [(5, .int (nI (k + 1))), (0, .ref h0), (1, .int (nI hi)), (2, .int (nI ins)), (3, .int (nI (mks (safeP sr hi ins) k))), (4, .int (nI (ldf ins hi)))]) hl dX0_safeIfHit_50 (k := 5) rfl (by decide) rfl (fun ls hl => ?_)
            refine q_go E (tgt := 12) dX0_safeIfHit_53 (by decide) ?_
            exact ih12  (k + 1) (by omega) (by omega) _ (by first | exact (mks_f (safeP_f1 hb25)).symm | exact (mks_f (safeP_f2 hb40)).symm | exact (mks_t (safeP_t hb25 hb40)).symm) _ _ h _ (lv_sub hl [1, 2, 3, 4, 5, 0] rfl)
          · skip
            refine lv_iload_n E.1.1 E.1.2.1 dX0_safeIfHit_43 rfl (lv_at hl 3 rfl) ?_
            refine q_ic E 1 dX0_safeIfHit_44 (by decide) ?_
            refine lv_iload E.1.1 E.1.2.1 dX0_safeIfHit_45 (lv_at hl 5 rfl) ?_
            refine q_shl1 E (by omega) dX0_safeIfHit_47 ?_
            refine q_or E dX0_safeIfHit_48 ?_
            refine lv_istore_n (lv' := [(3, .int (nI ((mks (safeP sr hi ins) k) ||| (2 ^ k)))), (0, .ref h0), (1, .int (nI hi)), (2, .int (nI ins)), (4, .int (nI (ldf ins hi))), (5, .int (nI k))]) E.1.1 E.1.2.1 dX0_safeIfHit_49 rfl hl (by decide) rfl (fun ls hl => ?_)
            refine q_inc E (lv' := [(5, .int (nI (k + 1))), (3, .int (nI ((mks (safeP sr hi ins) k) ||| (2 ^ k)))), (0, .ref h0), (1, .int (nI hi)), (2, .int (nI ins)), (4, .int (nI (ldf ins hi)))]) hl dX0_safeIfHit_50 (k := 5) rfl (by decide) rfl (fun ls hl => ?_)
            refine q_go E (tgt := 12) dX0_safeIfHit_53 (by decide) ?_
            exact ih12  (k + 1) (by omega) (by omega) _ (by first | exact (mks_f (safeP_f1 hb25)).symm | exact (mks_f (safeP_f2 hb40)).symm | exact (mks_t (safeP_t hb25 hb40)).symm) _ _ h _ (lv_sub hl [2, 3, 4, 1, 5, 0] rfl)
  exact lp12 ((12 - 0) + 1) 0 (Nat.lt_succ_self _) (by omega) _ rfl _ _ h _ (lv_sub hl [3, 4, 5, 2, 1, 0] rfl)
set_option maxHeartbeats 4000000 in
set_option maxRecDepth 100000 in
theorem k_X0_guardedBy (l : Launch) (g : GK) (h0 h1 h2 : Nat) (pr sf : Nat) (sr tg : Nat → Nat) (n : Nat) (hn : n < 4096) (hpr : pr < 4096) (hsr : ∀ k, sr k < 4096) : CI (S := Unit) l g yX0_guardedBy wsX0_guardedBy { frames := 2, cells := 0, slots := 0, locals := 46 } [.ref h0, .int (nI n)] [(h0, .inr (0, [.ref h1, .ref h2, .int (nI pr), .int (nI sf)])), (h1, .inl (gI g, 12, .inl (aN sr))), (h2, .inl (gI g, 12, .inl (aN tg)))] (fun r _ => r = nI (gby sr tg pr n)) (fun _ => [(h0, .inr (0, [.ref h1, .ref h2, .int (nI pr), .int (nI sf)])), (h1, .inl (gI g, 12, .inl (aN sr))), (h2, .inl (gI g, 12, .inl (aN tg)))]) := by
  refine q_ofI (own := RX0) (by decide) rfl rfl (Nat.le_of_ble_eq_true rfl) n_int ?_
  intro p e s m below meth c A Q args E hmn h hend ls hl
  have hl : lv_has ls 2 [(0, .ref h0), (1, .int (nI n))] := hl
  have c_1 := cwV (R := { frames := 2, cells := 0, slots := 0, locals := 46 }) (rm := { frames := 1, cells := 0, slots := 0, locals := 21 }) (mc := 0) (ms := 0) 1 E.1.2.2.2.2 gX0_guardedBy_X0_hitBy rfl rfl rfl (by decide +kernel) ⟨Nat.le_of_ble_eq_true rfl, Nat.le_of_ble_eq_true rfl⟩
  have c_3 := E.1.2.2.2.2 (.fieldLink RX0 18 "DebateSolver$Attacks" "present" "I") (by decide +kernel)
  have c_4 := (by decide +kernel : ∀ w ∈ wsX00, w ∈ wsX0_guardedBy)
  have c_5 := cwV (R := { frames := 2, cells := 0, slots := 0, locals := 46 }) (rm := { frames := 1, cells := 0, slots := 0, locals := 21 }) (mc := 0) (ms := 0) 2 E.1.2.2.2.2 gX0_guardedBy_X0_safeIfHit rfl rfl rfl (by decide +kernel) ⟨Nat.le_of_ble_eq_true rfl, Nat.le_of_ble_eq_true rfl⟩
  refine lv_aload_n E.1.1 E.1.2.1 dX0_guardedBy_0 rfl (lv_at hl 0 rfl) ?_
  refine lv_aload_n E.1.1 E.1.2.1 dX0_guardedBy_1 rfl (lv_at hl 0 rfl) ?_
  refine lv_iload_n E.1.1 E.1.2.1 dX0_guardedBy_2 rfl (lv_at hl 1 rfl) ?_
  refine q_ki (w2 := fun _ => [(h0, .inr (0, [.ref h1, .ref h2, .int (nI pr), .int (nI sf)])), (h1, .inl (gI g, 12, .inl (aN sr))), (h2, .inl (gI g, 12, .inl (aN tg)))]) (wr := [(h1, .inl (gI g, 12, .inl (aN sr)))]) E h [0, 2] [1] [1, 0, 2] (va_runV (As := [.int (nI n)]) (rest := [.ref h0]) E.1 (k_X0_hitBy l g h0 h1 h2 pr sf n tg (by omega) _) c_1 (q_preV E h [0, 2] rfl rfl (C := RX0) (T := TX0) (N := 4) 0 rfl 0 rfl) rfl rfl hl.1 rfl (lv_room (Nat.le_of_ble_eq_true rfl)) dX0_guardedBy_3 ⟨Nat.zero_le _, Nat.zero_le _⟩) rfl rfl rfl (by decide) rfl (fun _ => rfl) (fun r2 _ H locs hr2 h => ?_)
  subst hr2
  refine lv_aload_n E.1.1 E.1.2.1 dX0_guardedBy_6 rfl (lv_at hl 0 rfl) ?_
  refine q_get E h (C := RX0) (T := TX0) (N := 4) 0 rfl c_4 0 rfl 2 (by decide) c_3 (v := .int (nI pr)) rfl dX0_guardedBy_7 ?_
  refine q_ki (w2 := fun _ => [(h0, .inr (0, [.ref h1, .ref h2, .int (nI pr), .int (nI sf)])), (h1, .inl (gI g, 12, .inl (aN sr))), (h2, .inl (gI g, 12, .inl (aN tg)))]) (wr := [(h2, .inl (gI g, 12, .inl (aN tg)))]) E h [0, 1] [2] [1, 2, 0] (va_runV (As := [.int (nI (hit tg n)), .int (nI pr)]) (rest := []) E.1 (k_X0_safeIfHit l g h0 h1 h2 pr sf (hit tg n) pr sr (by omega) (by omega) _) c_5 (q_preV E h [0, 1] rfl rfl (C := RX0) (T := TX0) (N := 4) 0 rfl 0 rfl) rfl rfl hl.1 rfl (lv_room (Nat.le_of_ble_eq_true rfl)) dX0_guardedBy_10 ⟨Nat.zero_le _, Nat.zero_le _⟩) rfl rfl rfl (by decide) rfl (fun _ => rfl) (fun r6 _ H locs hr6 h => ?_)
  subst hr6
  -- world at the end: [(h0, .inr (0, [.ref h1, .ref h2, .int (nI pr), .int (nI sf)])), (h1, .inl (gI g, 12, .inl (aN sr))), (h2, .inl (gI g, 12, .inl (aN tg)))]
  exact hend _ _ _ _ _ () h dX0_guardedBy_13 rfl
set_option maxHeartbeats 4000000 in
set_option maxRecDepth 100000 in
theorem k_X0_guardedPart (l : Launch) (g : GK) (h0 h1 h2 : Nat) (pr sf : Nat) (sr tg : Nat → Nat) (n : Nat) (hn : n < 4096) (hpr : pr < 4096) (hsr : ∀ k, sr k < 4096) : CI (S := Unit) l g yX0_guardedPart wsX0_guardedPart { frames := 3, cells := 0, slots := 0, locals := 67 } [.ref h0, .int (nI n)] [(h0, .inr (0, [.ref h1, .ref h2, .int (nI pr), .int (nI sf)])), (h1, .inl (gI g, 12, .inl (aN sr))), (h2, .inl (gI g, 12, .inl (aN tg)))] (fun r _ => r = nI (gpa sr tg pr 12 n)) (fun _ => [(h0, .inr (0, [.ref h1, .ref h2, .int (nI pr), .int (nI sf)])), (h1, .inl (gI g, 12, .inl (aN sr))), (h2, .inl (gI g, 12, .inl (aN tg)))]) := by
  refine q_ofI (own := RX0) (by decide) rfl rfl (Nat.le_of_ble_eq_true rfl) n_int ?_
  intro p e s m below meth c A Q args E hmn h hend ls hl
  have hl : lv_has ls 4 [(0, .ref h0), (1, .int (nI n))] := hl
  have c_1 := cwV (R := { frames := 3, cells := 0, slots := 0, locals := 67 }) (rm := { frames := 2, cells := 0, slots := 0, locals := 46 }) (mc := 0) (ms := 0) 1 E.1.2.2.2.2 gX0_guardedPart_X0_guardedBy rfl rfl rfl (by decide +kernel) ⟨Nat.le_of_ble_eq_true rfl, Nat.le_of_ble_eq_true rfl⟩
  refine lv_iload_n E.1.1 E.1.2.1 dX0_guardedPart_0 rfl (lv_at hl 1 rfl) ?_
  refine lv_istore_n (lv' := [(2, .int (nI n)), (0, .ref h0), (1, .int (nI n))]) E.1.1 E.1.2.1 dX0_guardedPart_1 rfl hl (by decide) rfl (fun ls hl => ?_)
  refine q_ic E 0 dX0_guardedPart_2 (by decide) ?_
  refine lv_istore_n (lv' := [(3, .int (nI 0)), (2, .int (nI n)), (0, .ref h0), (1, .int (nI n))]) E.1.1 E.1.2.1 dX0_guardedPart_3 rfl hl (by decide) rfl (fun ls hl => ?_)
  have lp4 : ∀ (fu : Nat) (k : Nat), 12 - k < fu → (k ≤ 12) → ∀ (y4_2 : Nat), y4_2 = gpa sr tg pr k n → ∀ (H : Heap) (locs : List Loc), qH g A s [(h0, .inr (0, [.ref h1, .ref h2, .int (nI pr), .int (nI sf)])), (h1, .inl (gI g, 12, .inl (aN sr))), (h2, .inl (gI g, 12, .inl (aN tg)))] H locs → ∀ ls : Array Slot, lv_has ls 4 [(0, .ref h0), (1, .int (nI n)), (2, .int (nI y4_2)), (3, .int (nI k))] → W p l e { frames := 3, cells := 0, slots := 0, locals := 67 } s m args below meth c H locs 0 0 Q (F0 m 4 ls []) := by
    intro fu
    induction fu with
    | zero => intro k hfu; exact absurd hfu (Nat.not_lt_zero _)
    | succ fu ih4 =>
      intro k hfu hk y4_2 ey4_2 H locs h ls hl
      subst ey4_2
      have hq := gpa_lt (sr := sr) (tg := tg) (pr := pr) hn k
      refine lv_iload_n E.1.1 E.1.2.1 dX0_guardedPart_4 rfl (lv_at hl 3 rfl) ?_
      refine q_bi E 12 dX0_guardedPart_5 (by decide) ?_
      refine q_ge E (tgt := 24) (by omega) (by omega) dX0_guardedPart_7 (by decide) (fun hb7 => ?_) (fun hb7 => ?_)
      · skip
        refine lv_iload_n E.1.1 E.1.2.1 dX0_guardedPart_24 rfl (lv_at hl 2 rfl) ?_
        -- world at the end: [(h0, .inr (0, [.ref h1, .ref h2, .int (nI pr), .int (nI sf)])), (h1, .inl (gI g, 12, .inl (aN sr))), (h2, .inl (gI g, 12, .inl (aN tg)))]
        exact hend _ _ _ _ _ () h dX0_guardedPart_25 (by rw [show k = 12 by omega])
      · skip
        refine lv_iload_n E.1.1 E.1.2.1 dX0_guardedPart_10 rfl (lv_at hl 2 rfl) ?_
        refine lv_aload_n E.1.1 E.1.2.1 dX0_guardedPart_11 rfl (lv_at hl 0 rfl) ?_
        refine lv_iload_n E.1.1 E.1.2.1 dX0_guardedPart_12 rfl (lv_at hl 2 rfl) ?_
        refine q_ki (w2 := fun _ => [(h0, .inr (0, [.ref h1, .ref h2, .int (nI pr), .int (nI sf)])), (h1, .inl (gI g, 12, .inl (aN sr))), (h2, .inl (gI g, 12, .inl (aN tg)))]) (wr := []) E h [0, 1, 2] [] [0, 1, 2] (va_runV (As := [.int (nI (gpa sr tg pr k n))]) (rest := [.int (nI (gpa sr tg pr k n))]) E.1 (k_X0_guardedBy l g h0 h1 h2 pr sf sr tg (gpa sr tg pr k n) (by omega) (by omega) (by omega) _) c_1 (q_preV E h [0, 1, 2] rfl rfl (C := RX0) (T := TX0) (N := 4) 0 rfl 0 rfl) rfl rfl hl.1 rfl (lv_room (Nat.le_of_ble_eq_true rfl)) dX0_guardedPart_13 ⟨Nat.zero_le _, Nat.zero_le _⟩) rfl rfl rfl (by decide) rfl (fun _ => rfl) (fun r2 _ H locs hr2 h => ?_)
        subst hr2
        refine q_and E dX0_guardedPart_16 ?_
        refine lv_istore_n (lv' := [(2, .int (nI ((gpa sr tg pr k n) &&& (gby sr tg pr (gpa sr tg pr k n))))), (0, .ref h0), (1, .int (nI n)), (3, .int (nI k))]) E.1.1 E.1.2.1 dX0_guardedPart_17 rfl hl (by decide) rfl (fun ls hl => ?_)
        refine q_inc E (lv' := [(3, .int (nI (k + 1))), (2, .int (nI ((gpa sr tg pr k n) &&& (gby sr tg pr (gpa sr tg pr k n))))), (0, .ref h0), (1, .int (nI n))]) hl dX0_guardedPart_18 (k := 3) rfl (by decide) rfl (fun ls hl => ?_)
        refine q_go E (tgt := 4) dX0_guardedPart_21 (by decide) ?_
        exact ih4  (k + 1) (by omega) (by omega) _ rfl _ _ h _ (lv_sub hl [2, 3, 1, 0] rfl)
  exact lp4 ((12 - 0) + 1) 0 (Nat.lt_succ_self _) (by omega) _ rfl _ _ h _ (lv_sub hl [2, 3, 1, 0] rfl)
set_option maxHeartbeats 4000000 in
set_option maxRecDepth 100000 in
theorem k_X0_groundedWithin (l : Launch) (g : GK) (h0 h1 h2 : Nat) (pr sf : Nat) (sr tg : Nat → Nat) (ins : Nat) (hins : ins < 4096) (htg : ∀ k, tg k < 4096) (hsr : ∀ k, sr k < 4096) : CI (S := Unit) l g yX0_groundedWithin wsX0_groundedWithin { frames := 2, cells := 0, slots := 0, locals := 46 } [.ref h0, .int (nI ins)] [(h0, .inr (0, [.ref h1, .ref h2, .int (nI pr), .int (nI sf)])), (h1, .inl (gI g, 12, .inl (aN sr))), (h2, .inl (gI g, 12, .inl (aN tg)))] (fun r _ => r = nI (grw sr tg ins 12)) (fun _ => [(h0, .inr (0, [.ref h1, .ref h2, .int (nI pr), .int (nI sf)])), (h1, .inl (gI g, 12, .inl (aN sr))), (h2, .inl (gI g, 12, .inl (aN tg)))]) := by
  refine q_ofI (own := RX0) (by decide) rfl rfl (Nat.le_of_ble_eq_true rfl) n_int ?_
  intro p e s m below meth c A Q args E hmn h hend ls hl
  have hl : lv_has ls 5 [(0, .ref h0), (1, .int (nI ins))] := hl
  have c_1 := cwV (R := { frames := 2, cells := 0, slots := 0, locals := 46 }) (rm := { frames := 1, cells := 0, slots := 0, locals := 21 }) (mc := 0) (ms := 0) 1 E.1.2.2.2.2 gX0_groundedWithin_X0_hitBy rfl rfl rfl (by decide +kernel) ⟨Nat.le_of_ble_eq_true rfl, Nat.le_of_ble_eq_true rfl⟩
  have c_3 := cwV (R := { frames := 2, cells := 0, slots := 0, locals := 46 }) (rm := { frames := 1, cells := 0, slots := 0, locals := 21 }) (mc := 0) (ms := 0) 2 E.1.2.2.2.2 gX0_groundedWithin_X0_safeIfHit rfl rfl rfl (by decide +kernel) ⟨Nat.le_of_ble_eq_true rfl, Nat.le_of_ble_eq_true rfl⟩
  refine q_ic E 0 dX0_groundedWithin_0 (by decide) ?_
  refine lv_istore_n (lv' := [(2, .int (nI 0)), (0, .ref h0), (1, .int (nI ins))]) E.1.1 E.1.2.1 dX0_groundedWithin_1 rfl hl (by decide) rfl (fun ls hl => ?_)
  refine q_ic E 0 dX0_groundedWithin_2 (by decide) ?_
  refine lv_istore_n (lv' := [(3, .int (nI 0)), (2, .int (nI 0)), (0, .ref h0), (1, .int (nI ins))]) E.1.1 E.1.2.1 dX0_groundedWithin_3 rfl hl (by decide) rfl (fun ls hl => ?_)
  have lp4 : ∀ (fu : Nat) (k : Nat), 12 - k < fu → (k ≤ 12) → ∀ (y4_2 : Nat), y4_2 = grw sr tg ins k → ∀ (H : Heap) (locs : List Loc), qH g A s [(h0, .inr (0, [.ref h1, .ref h2, .int (nI pr), .int (nI sf)])), (h1, .inl (gI g, 12, .inl (aN sr))), (h2, .inl (gI g, 12, .inl (aN tg)))] H locs → ∀ ls : Array Slot, lv_has ls 5 [(0, .ref h0), (1, .int (nI ins)), (2, .int (nI y4_2)), (3, .int (nI k))] → W p l e { frames := 2, cells := 0, slots := 0, locals := 46 } s m args below meth c H locs 0 0 Q (F0 m 4 ls []) := by
    intro fu
    induction fu with
    | zero => intro k hfu; exact absurd hfu (Nat.not_lt_zero _)
    | succ fu ih4 =>
      intro k hfu hk y4_2 ey4_2 H locs h ls hl
      subst ey4_2
      have hq := grw_lt sr tg ins k
      have hq1 := gby_lt sr tg ins (grw sr tg ins k)
      have hq2 : safe sr (hit tg (grw sr tg ins k)) ins < 4096 := hq1
      refine lv_iload_n E.1.1 E.1.2.1 dX0_groundedWithin_4 rfl (lv_at hl 3 rfl) ?_
      refine q_bi E 12 dX0_groundedWithin_5 (by decide) ?_
      refine q_ge E (tgt := 39) (by omega) (by omega) dX0_groundedWithin_7 (by decide) (fun hb7 => ?_) (fun hb7 => ?_)
      · skip
        refine lv_iload_n E.1.1 E.1.2.1 dX0_groundedWithin_39 rfl (lv_at hl 2 rfl) ?_
        -- world at the end: [(h0, .inr (0, [.ref h1, .ref h2, .int (nI pr), .int (nI sf)])), (h1, .inl (gI g, 12, .inl (aN sr))), (h2, .inl (gI g, 12, .inl (aN tg)))]
        exact hend _ _ _ _ _ () h dX0_groundedWithin_40 (by first | (rw [show k = 12 by omega]) | exact congrArg nI (grw_fix hb25 hk).symm)
      · skip
        refine lv_aload_n E.1.1 E.1.2.1 dX0_groundedWithin_10 rfl (lv_at hl 0 rfl) ?_
        refine lv_aload_n E.1.1 E.1.2.1 dX0_groundedWithin_11 rfl (lv_at hl 0 rfl) ?_
        refine lv_iload_n E.1.1 E.1.2.1 dX0_groundedWithin_12 rfl (lv_at hl 2 rfl) ?_
        refine q_ki (w2 := fun _ => [(h0, .inr (0, [.ref h1, .ref h2, .int (nI pr), .int (nI sf)])), (h1, .inl (gI g, 12, .inl (aN sr))), (h2, .inl (gI g, 12, .inl (aN tg)))]) (wr := [(h1, .inl (gI g, 12, .inl (aN sr)))]) E h [0, 2] [1] [1, 0, 2] (va_runV (As := [.int (nI (grw sr tg ins k))]) (rest := [.ref h0]) E.1 (k_X0_hitBy l g h0 h1 h2 pr sf (grw sr tg ins k) tg (by omega) _) c_1 (q_preV E h [0, 2] rfl rfl (C := RX0) (T := TX0) (N := 4) 0 rfl 0 rfl) rfl rfl hl.1 rfl (lv_room (Nat.le_of_ble_eq_true rfl)) dX0_groundedWithin_13 ⟨Nat.zero_le _, Nat.zero_le _⟩) rfl rfl rfl (by decide) rfl (fun _ => rfl) (fun r2 _ H locs hr2 h => ?_)
        subst hr2
        refine lv_iload_n E.1.1 E.1.2.1 dX0_groundedWithin_16 rfl (lv_at hl 1 rfl) ?_
        refine q_ki (w2 := fun _ => [(h0, .inr (0, [.ref h1, .ref h2, .int (nI pr), .int (nI sf)])), (h1, .inl (gI g, 12, .inl (aN sr))), (h2, .inl (gI g, 12, .inl (aN tg)))]) (wr := [(h2, .inl (gI g, 12, .inl (aN tg)))]) E h [0, 1] [2] [1, 2, 0] (va_runV (As := [.int (nI (hit tg (grw sr tg ins k))), .int (nI ins)]) (rest := []) E.1 (k_X0_safeIfHit l g h0 h1 h2 pr sf (hit tg (grw sr tg ins k)) ins sr (by omega) (by omega) _) c_3 (q_preV E h [0, 1] rfl rfl (C := RX0) (T := TX0) (N := 4) 0 rfl 0 rfl) rfl rfl hl.1 rfl (lv_room (Nat.le_of_ble_eq_true rfl)) dX0_groundedWithin_17 ⟨Nat.zero_le _, Nat.zero_le _⟩) rfl rfl rfl (by decide) rfl (fun _ => rfl) (fun r4 _ H locs hr4 h => ?_)
        subst hr4
        refine lv_istore (lv' := [(4, .int (nI (safe sr (hit tg (grw sr tg ins k)) ins))), (0, .ref h0), (1, .int (nI ins)), (2, .int (nI (grw sr tg ins k))), (3, .int (nI k))]) E.1.1 E.1.2.1 dX0_groundedWithin_20 hl (by decide) rfl (fun ls hl => ?_)
        refine lv_iload E.1.1 E.1.2.1 dX0_groundedWithin_22 (lv_at hl 0 rfl) ?_
        refine lv_iload_n E.1.1 E.1.2.1 dX0_groundedWithin_24 rfl (lv_at hl 3 rfl) ?_
        refine q_ne E (tgt := 30) (by omega) (by omega) dX0_groundedWithin_25 (by decide) (fun hb25 => ?_) (fun hb25 => ?_)
        · skip
          refine lv_iload E.1.1 E.1.2.1 dX0_groundedWithin_30 (lv_at hl 0 rfl) ?_
          refine lv_istore_n (lv' := [(2, .int (nI (safe sr (hit tg (grw sr tg ins k)) ins))), (4, .int (nI (safe sr (hit tg (grw sr tg ins k)) ins))), (0, .ref h0), (1, .int (nI ins)), (3, .int (nI k))]) E.1.1 E.1.2.1 dX0_groundedWithin_32 rfl hl (by decide) rfl (fun ls hl => ?_)
          refine q_inc E (lv' := [(3, .int (nI (k + 1))), (2, .int (nI (safe sr (hit tg (grw sr tg ins k)) ins))), (4, .int (nI (safe sr (hit tg (grw sr tg ins k)) ins))), (0, .ref h0), (1, .int (nI ins))]) hl dX0_groundedWithin_33 (k := 4) rfl (by decide) rfl (fun ls hl => ?_)
          refine q_go E (tgt := 4) dX0_groundedWithin_36 (by decide) ?_
          exact ih4  (k + 1) (by omega) (by omega) _ rfl _ _ h _ (lv_sub hl [3, 4, 1, 0] rfl)
        · skip
          refine lv_iload_n E.1.1 E.1.2.1 dX0_groundedWithin_28 rfl (lv_at hl 3 rfl) ?_
          -- world at the end: [(h0, .inr (0, [.ref h1, .ref h2, .int (nI pr), .int (nI sf)])), (h1, .inl (gI g, 12, .inl (aN sr))), (h2, .inl (gI g, 12, .inl (aN tg)))]
          exact hend _ _ _ _ _ () h dX0_groundedWithin_29 (by first | (rw [show k = 12 by omega]) | exact congrArg nI (grw_fix hb25 hk).symm)
  exact lp4 ((12 - 0) + 1) 0 (Nat.lt_succ_self _) (by omega) _ rfl _ _ h _ (lv_sub hl [2, 3, 1, 0] rfl)
set_option maxHeartbeats 4000000 in
set_option maxRecDepth 100000 in
theorem k_X0_reachedFrom (l : Launch) (g : GK) (h0 h1 h2 : Nat) (pr sf : Nat) (k0 : Nat) (t : Bool) (tg : Nat → Nat) (hk0 : k0 < 12) (htg : ∀ k, tg k < 4096) : CI (S := Unit) l g yX0_reachedFrom wsX0_reachedFrom { frames := 2, cells := 0, slots := 0, locals := 44 } [.ref h0, .int (nI k0), .int (nI t.toNat)] [(h0, .inr (0, [.ref h1, .ref h2, .int (nI pr), .int (nI sf)])), (h2, .inl (gI g, 12, .inl (aN tg)))] (fun r _ => r = nI (if t then (rchE tg k0 12).1 else (rchE tg k0 12).2)) (fun _ => [(h0, .inr (0, [.ref h1, .ref h2, .int (nI pr), .int (nI sf)])), (h2, .inl (gI g, 12, .inl (aN tg)))]) := by
  refine q_ofI (own := RX0) (by decide) rfl rfl (Nat.le_of_ble_eq_true rfl) n_int ?_
  intro p e s m below meth c A Q args E hmn h hend ls hl
  have hl : lv_has ls 6 [(0, .ref h0), (1, .int (nI k0)), (2, .int (nI t.toNat))] := hl
  have c_1 := E.1.2.2.2.2 (.fieldLink RX0 15 "DebateSolver$Attacks" "targets" "[I") (by decide +kernel)
  have c_2 := (by decide +kernel : ∀ w ∈ wsX00, w ∈ wsX0_reachedFrom)
  have c_3 := (⟨va_cnB (R := { frames := 2, cells := 0, slots := 0, locals := 44 }) (rm := { frames := 0, cells := 0, slots := 0, locals := 0 }) (mc := 0) (ms := 0) 2 E.1.2.2.2.2 gX0_reachedFrom_X3_at_n29 rfl rfl rfl (E.2.1.2 (RX0, 29, yX3_at, RX3) (List.mem_of_getElem? (i := 1) rfl)) (E.1.2.2.2.2 (.initialized RX3) (by decide +kernel)) (by decide +kernel) ⟨Nat.le_of_ble_eq_true rfl, Nat.le_of_ble_eq_true rfl⟩, E.1.2.2.2.2 (.static yX3_at) (by decide +kernel), trivial⟩ : va_CN { frames := 2, cells := 0, slots := 0, locals := 44 } s args RX0 29 yX3_at RX3 cX3_at 2 (some .int) wsX3_at { frames := 0, cells := 0, slots := 0, locals := 0 } 0 0 2 ∧ _ ∧ True)
  have c_5 := cwV (R := { frames := 2, cells := 0, slots := 0, locals := 44 }) (rm := { frames := 1, cells := 0, slots := 0, locals := 21 }) (mc := 0) (ms := 0) 1 E.1.2.2.2.2 gX0_reachedFrom_X0_hitBy rfl rfl rfl (by decide +kernel) ⟨Nat.le_of_ble_eq_true rfl, Nat.le_of_ble_eq_true rfl⟩
  refine lv_aload_n E.1.1 E.1.2.1 dX0_reachedFrom_0 rfl (lv_at hl 0 rfl) ?_
  refine q_get E h (C := RX0) (T := TX0) (N := 4) 0 rfl c_2 0 rfl 1 (by decide) c_1 (v := .ref h2) rfl dX0_reachedFrom_1 ?_
  refine lv_iload_n E.1.1 E.1.2.1 dX0_reachedFrom_4 rfl (lv_at hl 1 rfl) ?_
  refine q_ki (w2 := fun _ => [(h0, .inr (0, [.ref h1, .ref h2, .int (nI pr), .int (nI sf)])), (h2, .inl (gI g, 12, .inl (aN tg)))]) (wr := [(h0, .inr (0, [.ref h1, .ref h2, .int (nI pr), .int (nI sf)]))]) E h [1] [0] [0, 1] (va_runSN (As := [.ref h2, .int (nI k0)]) (rest := []) E.1 (k_X3_at l g h2 12 k0 tg (by omega) (by omega) _) c_3 (q_preS E h [1] rfl rfl) rfl rfl hl.1 rfl (lv_room (Nat.le_of_ble_eq_true rfl)) dX0_reachedFrom_5 ⟨Nat.zero_le _, Nat.zero_le _⟩) rfl rfl rfl (by decide) rfl (fun _ => rfl) (fun r4 _ H locs hr4 h => ?_)
  subst hr4
  refine lv_istore_n (lv' := [(3, .int (nI (tg k0))), (0, .ref h0), (1, .int (nI k0)), (2, .int (nI t.toNat))]) E.1.1 E.1.2.1 dX0_reachedFrom_8 rfl hl (by decide) rfl (fun ls hl => ?_)
  refine q_ic E 0 dX0_reachedFrom_9 (by decide) ?_
  refine lv_istore (lv' := [(4, .int (nI 0)), (3, .int (nI (tg k0))), (0, .ref h0), (1, .int (nI k0)), (2, .int (nI t.toNat))]) E.1.1 E.1.2.1 dX0_reachedFrom_10 hl (by decide) rfl (fun ls hl => ?_)
  refine q_ic E 0 dX0_reachedFrom_12 (by decide) ?_
  refine lv_istore (lv' := [(5, .int (nI 0)), (4, .int (nI 0)), (3, .int (nI (tg k0))), (0, .ref h0), (1, .int (nI k0)), (2, .int (nI t.toNat))]) E.1.1 E.1.2.1 dX0_reachedFrom_13 hl (by decide) rfl (fun ls hl => ?_)
  have lp15 : ∀ (fu : Nat) (k : Nat), 12 - k < fu → (k ≤ 12) → ∀ (y15_3 : Nat), y15_3 = (rchE tg k0 k).2 → ∀ (y15_4 : Nat), y15_4 = (rchE tg k0 k).1 → ∀ (H : Heap) (locs : List Loc), qH g A s [(h0, .inr (0, [.ref h1, .ref h2, .int (nI pr), .int (nI sf)])), (h2, .inl (gI g, 12, .inl (aN tg)))] H locs → ∀ ls : Array Slot, lv_has ls 6 [(0, .ref h0), (1, .int (nI k0)), (2, .int (nI t.toNat)), (3, .int (nI y15_3)), (4, .int (nI y15_4)), (5, .int (nI k))] → W p l e { frames := 2, cells := 0, slots := 0, locals := 44 } s m args below meth c H locs 0 0 Q (F0 m 15 ls []) := by
    intro fu
    induction fu with
    | zero => intro k hfu; exact absurd hfu (Nat.not_lt_zero _)
    | succ fu ih15 =>
      intro k hfu hk y15_3 ey15_3 y15_4 ey15_4 H locs h ls hl
      subst ey15_3 ey15_4
      have hq := rchE_lt (a := k0) htg k
      have hq2 := rchE_lt (a := k0) htg (k + 1)
      have hq3 : (rchE tg k0 k).1 ||| hit tg (rchE tg k0 k).2 < 4096 := hq2.1
      refine lv_iload E.1.1 E.1.2.1 dX0_reachedFrom_15 (lv_at hl 5 rfl) ?_
      refine q_bi E 12 dX0_reachedFrom_17 (by decide) ?_
      refine q_ge E (tgt := 47) (by omega) (by omega) dX0_reachedFrom_19 (by decide) (fun hb19 => ?_) (fun hb19 => ?_)
      · skip
        refine lv_iload_n E.1.1 E.1.2.1 dX0_reachedFrom_47 rfl (lv_at hl 2 rfl) ?_
        refine q_beq E (tgt := 56) dX0_reachedFrom_48 (by decide) (fun hb48 => ?_) (fun hb48 => ?_)
        · skip
          refine lv_iload_n E.1.1 E.1.2.1 dX0_reachedFrom_56 rfl (lv_at hl 3 rfl) ?_
          -- world at the end: [(h0, .inr (0, [.ref h1, .ref h2, .int (nI pr), .int (nI sf)])), (h2, .inl (gI g, 12, .inl (aN tg)))]
          exact hend _ _ _ _ _ () h dX0_reachedFrom_57 (by rw [show k = 12 by omega]; first | rw [if_pos hb48] | rw [if_neg (by rw [hb48]; decide)])
        · skip
          refine lv_iload E.1.1 E.1.2.1 dX0_reachedFrom_51 (lv_at hl 4 rfl) ?_
          refine q_go E (tgt := 57) dX0_reachedFrom_53 (by decide) ?_
          -- world at the end: [(h0, .inr (0, [.ref h1, .ref h2, .int (nI pr), .int (nI sf)])), (h2, .inl (gI g, 12, .inl (aN tg)))]
          exact hend _ _ _ _ _ () h dX0_reachedFrom_57 (by rw [show k = 12 by omega]; first | rw [if_pos hb48] | rw [if_neg (by rw [hb48]; decide)])
      · skip
        refine lv_iload E.1.1 E.1.2.1 dX0_reachedFrom_22 (lv_at hl 4 rfl) ?_
        refine lv_aload_n E.1.1 E.1.2.1 dX0_reachedFrom_24 rfl (lv_at hl 0 rfl) ?_
        refine lv_iload_n E.1.1 E.1.2.1 dX0_reachedFrom_25 rfl (lv_at hl 3 rfl) ?_
        refine q_ki (w2 := fun _ => [(h0, .inr (0, [.ref h1, .ref h2, .int (nI pr), .int (nI sf)])), (h2, .inl (gI g, 12, .inl (aN tg)))]) (wr := []) E h [0, 1] [] [0, 1] (va_runV (As := [.int (nI ((rchE tg k0 k).2))]) (rest := [.int (nI ((rchE tg k0 k).1))]) E.1 (k_X0_hitBy l g h0 h1 h2 pr sf ((rchE tg k0 k).2) tg (by omega) _) c_5 (q_preV E h [0, 1] rfl rfl (C := RX0) (T := TX0) (N := 4) 0 rfl 0 rfl) rfl rfl hl.1 rfl (lv_room (Nat.le_of_ble_eq_true rfl)) dX0_reachedFrom_26 ⟨Nat.zero_le _, Nat.zero_le _⟩) rfl rfl rfl (by decide) rfl (fun _ => rfl) (fun r6 _ H locs hr6 h => ?_)
        subst hr6
        refine q_or E dX0_reachedFrom_29 ?_
        refine lv_istore (lv' := [(4, .int (nI (((rchE tg k0 k).1) ||| (hit tg ((rchE tg k0 k).2))))), (0, .ref h0), (1, .int (nI k0)), (2, .int (nI t.toNat)), (3, .int (nI ((rchE tg k0 k).2))), (5, .int (nI k))]) E.1.1 E.1.2.1 dX0_reachedFrom_30 hl (by decide) rfl (fun ls hl => ?_)
        refine lv_iload_n E.1.1 E.1.2.1 dX0_reachedFrom_32 rfl (lv_at hl 4 rfl) ?_
        refine lv_aload_n E.1.1 E.1.2.1 dX0_reachedFrom_33 rfl (lv_at hl 1 rfl) ?_
        refine lv_iload E.1.1 E.1.2.1 dX0_reachedFrom_34 (lv_at hl 0 rfl) ?_
        refine q_ki (w2 := fun _ => [(h0, .inr (0, [.ref h1, .ref h2, .int (nI pr), .int (nI sf)])), (h2, .inl (gI g, 12, .inl (aN tg)))]) (wr := []) E h [0, 1] [] [0, 1] (va_runV (As := [.int (nI (((rchE tg k0 k).1) ||| (hit tg ((rchE tg k0 k).2))))]) (rest := [.int (nI ((rchE tg k0 k).2))]) E.1 (k_X0_hitBy l g h0 h1 h2 pr sf (((rchE tg k0 k).1) ||| (hit tg ((rchE tg k0 k).2))) tg (by omega) _) c_5 (q_preV E h [0, 1] rfl rfl (C := RX0) (T := TX0) (N := 4) 0 rfl 0 rfl) rfl rfl hl.1 rfl (lv_room (Nat.le_of_ble_eq_true rfl)) dX0_reachedFrom_36 ⟨Nat.zero_le _, Nat.zero_le _⟩) rfl rfl rfl (by decide) rfl (fun _ => rfl) (fun r7 _ H locs hr7 h => ?_)
        subst hr7
        refine q_or E dX0_reachedFrom_39 ?_
        refine lv_istore_n (lv' := [(3, .int (nI (((rchE tg k0 k).2) ||| (hit tg (((rchE tg k0 k).1) ||| (hit tg ((rchE tg k0 k).2))))))), (4, .int (nI (((rchE tg k0 k).1) ||| (hit tg ((rchE tg k0 k).2))))), (0, .ref h0), (1, .int (nI k0)), (2, .int (nI t.toNat)), (5, .int (nI k))]) E.1.1 E.1.2.1 dX0_reachedFrom_40 rfl hl (by decide) rfl (fun ls hl => ?_)
        refine q_inc E (lv' := [(5, .int (nI (k + 1))), (3, .int (nI (((rchE tg k0 k).2) ||| (hit tg (((rchE tg k0 k).1) ||| (hit tg ((rchE tg k0 k).2))))))), (4, .int (nI (((rchE tg k0 k).1) ||| (hit tg ((rchE tg k0 k).2))))), (0, .ref h0), (1, .int (nI k0)), (2, .int (nI t.toNat))]) hl dX0_reachedFrom_41 (k := 5) rfl (by decide) rfl (fun ls hl => ?_)
        refine q_go E (tgt := 15) dX0_reachedFrom_44 (by decide) ?_
        exact ih15  (k + 1) (by omega) (by omega) _ rfl _ rfl _ _ h _ (lv_sub hl [3, 4, 5, 1, 2, 0] rfl)
  exact lp15 ((12 - 0) + 1) 0 (Nat.lt_succ_self _) (by omega) _ rfl _ rfl _ _ h _ (lv_sub hl [3, 4, 5, 2, 1, 0] rfl)
set_option maxHeartbeats 4000000 in
set_option maxRecDepth 100000 in
theorem k_X0_enter (l : Launch) (g : GK) (h0 h1 h2 : Nat) (pr sf : Nat) (sr tg : Nat → Nat) (F T : Nat) (hF : F < 12) (hT : T < 12) : CV (S := Unit) l g yX0_enter wsX0_enter { frames := 1, cells := 0, slots := 0, locals := 22 } [.ref h0, .int (nI F), .int (nI T)] [(h0, .inr (0, [.ref h1, .ref h2, .int (nI pr), .int (nI sf)])), (h1, .inl (gI g, 12, .inl (aN sr))), (h2, .inl (gI g, 12, .inl (aN tg)))] (fun _ => True) (fun _ => [(h0, .inr (0, [.ref h1, .ref h2, .int (nI pr), .int (nI (if F = T then sf ||| 2 ^ T else sf))])), (h1, .inl (gI g, 12, .inl (aN (updN sr T (sr T ||| 2 ^ F))))), (h2, .inl (gI g, 12, .inl (aN (updN tg F (tg F ||| 2 ^ T)))))]) := by
  refine q_ofV (own := RX0) (by decide) rfl rfl (Nat.le_of_ble_eq_true rfl) ?_
  intro p e s m below meth c A Q args E hmn h hend ls hl
  have hl : lv_has ls 3 [(0, .ref h0), (1, .int (nI F)), (2, .int (nI T))] := hl
  have c_1 := E.1.2.2.2.2 (.fieldLink RX0 9 "DebateSolver$Attacks" "sources" "[I") (by decide +kernel)
  have c_2 := (by decide +kernel : ∀ w ∈ wsX00, w ∈ wsX0_enter)
  have c_3 := (⟨va_cnB (R := { frames := 1, cells := 0, slots := 0, locals := 22 }) (rm := { frames := 0, cells := 0, slots := 0, locals := 0 }) (mc := 0) (ms := 0) 2 E.1.2.2.2.2 gX0_enter_X3_at_n29 rfl rfl rfl (E.2.1.2 (RX0, 29, yX3_at, RX3) (List.mem_of_getElem? (i := 1) rfl)) (E.1.2.2.2.2 (.initialized RX3) (by decide +kernel)) (by decide +kernel) ⟨Nat.le_of_ble_eq_true rfl, Nat.le_of_ble_eq_true rfl⟩, E.1.2.2.2.2 (.static yX3_at) (by decide +kernel), trivial⟩ : va_CN { frames := 1, cells := 0, slots := 0, locals := 22 } s args RX0 29 yX3_at RX3 cX3_at 2 (some .int) wsX3_at { frames := 0, cells := 0, slots := 0, locals := 0 } 0 0 2 ∧ _ ∧ True)
  have c_5 := (⟨va_cnB (R := { frames := 1, cells := 0, slots := 0, locals := 22 }) (rm := { frames := 0, cells := 0, slots := 0, locals := 0 }) (mc := 0) (ms := 0) 3 E.1.2.2.2.2 gX0_enter_X3_store_n25 rfl rfl rfl (E.2.1.2 (RX0, 25, yX3_store, RX3) (List.mem_of_getElem? (i := 0) rfl)) (E.1.2.2.2.2 (.initialized RX3) (by decide +kernel)) (by decide +kernel) ⟨Nat.le_of_ble_eq_true rfl, Nat.le_of_ble_eq_true rfl⟩, E.1.2.2.2.2 (.static yX3_store) (by decide +kernel), trivial⟩ : va_CN { frames := 1, cells := 0, slots := 0, locals := 22 } s args RX0 25 yX3_store RX3 cX3_store 3 none wsX3_store { frames := 0, cells := 0, slots := 0, locals := 0 } 0 0 3 ∧ _ ∧ True)
  have c_6 := E.1.2.2.2.2 (.fieldLink RX0 15 "DebateSolver$Attacks" "targets" "[I") (by decide +kernel)
  have c_8 := E.1.2.2.2.2 (.fieldLink RX0 22 "DebateSolver$Attacks" "selfAttackers" "I") (by decide +kernel)
  refine lv_aload_n E.1.1 E.1.2.1 dX0_enter_0 rfl (lv_at hl 0 rfl) ?_
  refine q_get E h (C := RX0) (T := TX0) (N := 4) 0 rfl c_2 0 rfl 0 (by decide) c_1 (v := .ref h1) rfl dX0_enter_1 ?_
  refine lv_iload_n E.1.1 E.1.2.1 dX0_enter_4 rfl (lv_at hl 2 rfl) ?_
  refine lv_aload_n E.1.1 E.1.2.1 dX0_enter_5 rfl (lv_at hl 0 rfl) ?_
  refine q_get E h (C := RX0) (T := TX0) (N := 4) 0 rfl c_2 0 rfl 0 (by decide) c_1 (v := .ref h1) rfl dX0_enter_6 ?_
  refine lv_iload_n E.1.1 E.1.2.1 dX0_enter_9 rfl (lv_at hl 2 rfl) ?_
  refine q_ki (w2 := fun _ => [(h0, .inr (0, [.ref h1, .ref h2, .int (nI pr), .int (nI sf)])), (h1, .inl (gI g, 12, .inl (aN sr))), (h2, .inl (gI g, 12, .inl (aN tg)))]) (wr := [(h0, .inr (0, [.ref h1, .ref h2, .int (nI pr), .int (nI sf)])), (h2, .inl (gI g, 12, .inl (aN tg)))]) E h [1] [0, 2] [0, 2, 1] (va_runSN (As := [.ref h1, .int (nI T)]) (rest := [.int (nI T), .ref h1]) E.1 (k_X3_at l g h1 12 T sr (by omega) (by omega) _) c_3 (q_preS E h [1] rfl rfl) rfl rfl hl.1 rfl (lv_room (Nat.le_of_ble_eq_true rfl)) dX0_enter_10 ⟨Nat.zero_le _, Nat.zero_le _⟩) rfl rfl rfl (by decide) rfl (fun _ => rfl) (fun r4 _ H locs hr4 h => ?_)
  subst hr4
  refine q_ic E 1 dX0_enter_13 (by decide) ?_
  refine lv_iload_n E.1.1 E.1.2.1 dX0_enter_14 rfl (lv_at hl 1 rfl) ?_
  refine q_shl1 E (by omega) dX0_enter_15 ?_
  refine q_or E dX0_enter_16 ?_
  refine q_kv (w2 := fun _ => [(h0, .inr (0, [.ref h1, .ref h2, .int (nI pr), .int (nI sf)])), (h1, .inl (gI g, 12, .inl (aN (updN sr T ((sr T) ||| (2 ^ F)))))), (h2, .inl (gI g, 12, .inl (aN tg)))]) (wr := [(h0, .inr (0, [.ref h1, .ref h2, .int (nI pr), .int (nI sf)])), (h2, .inl (gI g, 12, .inl (aN tg)))]) E h [1] [0, 2] [0, 2, 1] (va_runSN (As := [.ref h1, .int (nI T), .int (nI ((sr T) ||| (2 ^ F)))]) (rest := []) E.1 (k_X3_store l g h1 12 T ((sr T) ||| (2 ^ F)) sr (by omega) (by omega) _) c_5 (q_preS E h [1] rfl rfl) rfl rfl hl.1 rfl (lv_room (Nat.le_of_ble_eq_true rfl)) dX0_enter_17 ⟨Nat.zero_le _, Nat.zero_le _⟩) rfl rfl rfl (by decide) rfl (fun _ => rfl) (fun _ H locs _ h => ?_)
  refine lv_aload_n E.1.1 E.1.2.1 dX0_enter_20 rfl (lv_at hl 0 rfl) ?_
  refine q_get E h (C := RX0) (T := TX0) (N := 4) 0 rfl c_2 0 rfl 1 (by decide) c_6 (v := .ref h2) rfl dX0_enter_21 ?_
  refine lv_iload_n E.1.1 E.1.2.1 dX0_enter_24 rfl (lv_at hl 1 rfl) ?_
  refine lv_aload_n E.1.1 E.1.2.1 dX0_enter_25 rfl (lv_at hl 0 rfl) ?_
  refine q_get E h (C := RX0) (T := TX0) (N := 4) 0 rfl c_2 0 rfl 1 (by decide) c_6 (v := .ref h2) rfl dX0_enter_26 ?_
  refine lv_iload_n E.1.1 E.1.2.1 dX0_enter_29 rfl (lv_at hl 1 rfl) ?_
  refine q_ki (w2 := fun _ => [(h0, .inr (0, [.ref h1, .ref h2, .int (nI pr), .int (nI sf)])), (h1, .inl (gI g, 12, .inl (aN (updN sr T ((sr T) ||| (2 ^ F)))))), (h2, .inl (gI g, 12, .inl (aN tg)))]) (wr := [(h0, .inr (0, [.ref h1, .ref h2, .int (nI pr), .int (nI sf)])), (h1, .inl (gI g, 12, .inl (aN (updN sr T ((sr T) ||| (2 ^ F))))))]) E h [2] [0, 1] [0, 1, 2] (va_runSN (As := [.ref h2, .int (nI F)]) (rest := [.int (nI F), .ref h2]) E.1 (k_X3_at l g h2 12 F tg (by omega) (by omega) _) c_3 (q_preS E h [2] rfl rfl) rfl rfl hl.1 rfl (lv_room (Nat.le_of_ble_eq_true rfl)) dX0_enter_30 ⟨Nat.zero_le _, Nat.zero_le _⟩) rfl rfl rfl (by decide) rfl (fun _ => rfl) (fun r7 _ H locs hr7 h => ?_)
  subst hr7
  refine q_ic E 1 dX0_enter_33 (by decide) ?_
  refine lv_iload_n E.1.1 E.1.2.1 dX0_enter_34 rfl (lv_at hl 2 rfl) ?_
  refine q_shl1 E (by omega) dX0_enter_35 ?_
  refine q_or E dX0_enter_36 ?_
  refine q_kv (w2 := fun _ => [(h0, .inr (0, [.ref h1, .ref h2, .int (nI pr), .int (nI sf)])), (h1, .inl (gI g, 12, .inl (aN (updN sr T ((sr T) ||| (2 ^ F)))))), (h2, .inl (gI g, 12, .inl (aN (updN tg F ((tg F) ||| (2 ^ T))))))]) (wr := [(h0, .inr (0, [.ref h1, .ref h2, .int (nI pr), .int (nI sf)])), (h1, .inl (gI g, 12, .inl (aN (updN sr T ((sr T) ||| (2 ^ F))))))]) E h [2] [0, 1] [0, 1, 2] (va_runSN (As := [.ref h2, .int (nI F), .int (nI ((tg F) ||| (2 ^ T)))]) (rest := []) E.1 (k_X3_store l g h2 12 F ((tg F) ||| (2 ^ T)) tg (by omega) (by omega) _) c_5 (q_preS E h [2] rfl rfl) rfl rfl hl.1 rfl (lv_room (Nat.le_of_ble_eq_true rfl)) dX0_enter_37 ⟨Nat.zero_le _, Nat.zero_le _⟩) rfl rfl rfl (by decide) rfl (fun _ => rfl) (fun _ H locs _ h => ?_)
  refine lv_iload_n E.1.1 E.1.2.1 dX0_enter_40 rfl (lv_at hl 1 rfl) ?_
  refine lv_iload_n E.1.1 E.1.2.1 dX0_enter_41 rfl (lv_at hl 2 rfl) ?_
  refine q_ne E (tgt := 57) (by omega) (by omega) dX0_enter_42 (by decide) (fun hb42 => ?_) (fun hb42 => ?_)
  · skip
    -- world at the end: [(h0, .inr (0, [.ref h1, .ref h2, .int (nI pr), .int (nI sf)])), (h1, .inl (gI g, 12, .inl (aN (updN sr T ((sr T) ||| (2 ^ F)))))), (h2, .inl (gI g, 12, .inl (aN (updN tg F ((tg F) ||| (2 ^ T))))))]
    exact hend _ _ _ _ () (by rw [if_neg hb42]; exact h) dX0_enter_57 trivial
  · skip
    refine lv_aload_n E.1.1 E.1.2.1 dX0_enter_45 rfl (lv_at hl 0 rfl) ?_
    refine lv_dup E.1.1 E.1.2.1 dX0_enter_46 rfl ?_
    refine q_get E h (C := RX0) (T := TX0) (N := 4) 0 rfl c_2 0 rfl 3 (by decide) c_8 (v := .int (nI sf)) rfl dX0_enter_47 ?_
    refine q_ic E 1 dX0_enter_50 (by decide) ?_
    refine lv_iload_n E.1.1 E.1.2.1 dX0_enter_51 rfl (lv_at hl 2 rfl) ?_
    refine q_shl1 E (by omega) dX0_enter_52 ?_
    refine q_or E dX0_enter_53 ?_
    refine q_put E h (C := RX0) (T := TX0) (N := 4) 0 rfl tyX0 tyX0_ok nmX0 c_2 0 rfl 3 (by decide) c_8 rfl (v := .int (nI (sf ||| (2 ^ T)))) (ty := .int) (by decide +kernel) rfl rfl (Nat.le_of_ble_eq_true rfl) dX0_enter_54 (w2 := [(h0, .inr (0, [.ref h1, .ref h2, .int (nI pr), .int (nI (sf ||| (2 ^ T)))])), (h1, .inl (gI g, 12, .inl (aN (updN sr T ((sr T) ||| (2 ^ F)))))), (h2, .inl (gI g, 12, .inl (aN (updN tg F ((tg F) ||| (2 ^ T))))))]) rfl (fun H locs h => ?_)
    -- world at the end: [(h0, .inr (0, [.ref h1, .ref h2, .int (nI pr), .int (nI (sf ||| (2 ^ T)))])), (h1, .inl (gI g, 12, .inl (aN (updN sr T ((sr T) ||| (2 ^ F)))))), (h2, .inl (gI g, 12, .inl (aN (updN tg F ((tg F) ||| (2 ^ T))))))]
    exact hend _ _ _ _ () (by rw [if_pos hb42]; exact h) dX0_enter_57 trivial
set_option maxHeartbeats 4000000 in
set_option maxRecDepth 100000 in
theorem k_X0_build (l : Launch) (g : GK) (h0 h1 h2 q1 q2 : Nat) (pr0 sf : Nat) (sr tg wt mk : Nat → Nat) (pr tol : Nat) (hpr : pr < 4096) (hmk : ∀ k, mk k < 4096) (hwt : ∀ k, wt k < 65536) (htol : tol < 65536) : CV (S := Unit) l g yX0_build wsX0_build { frames := 2, cells := 0, slots := 0, locals := 44 } [.ref h0, .ref q1, .ref q2, .int (nI pr), .int (nI tol)] [(h0, .inr (0, [.ref h1, .ref h2, .int (nI pr0), .int (nI sf)])), (h1, .inl (gI g, 12, .inl (aN sr))), (h2, .inl (gI g, 12, .inl (aN tg))), (q1, .inl (gI g, 12, .inl (aN wt))), (q2, .inl (gI g, 12, .inl (aN mk)))] (fun _ => True) (fun _ => [(h0, .inr (0, [.ref h1, .ref h2, .int (nI pr), .int (nI (slO (wkb wt mk pr tol)))])), (h1, .inl (gI g, 12, .inl (aN (srO (wkb wt mk pr tol))))), (h2, .inl (gI g, 12, .inl (aN (tgO (wkb wt mk pr tol))))), (q1, .inl (gI g, 12, .inl (aN wt))), (q2, .inl (gI g, 12, .inl (aN mk)))]) := by
  refine q_ofV (own := RX0) (by decide) rfl rfl (Nat.le_of_ble_eq_true rfl) ?_
  intro p e s m below meth c A Q args E hmn h hend ls hl
  have hl : lv_has ls 8 [(0, .ref h0), (1, .ref q1), (2, .ref q2), (3, .int (nI pr)), (4, .int (nI tol))] := hl
  have c_1 := E.1.2.2.2.2 (.fieldLink RX0 18 "DebateSolver$Attacks" "present" "I") (by decide +kernel)
  have c_2 := (by decide +kernel : ∀ w ∈ wsX00, w ∈ wsX0_build)
  have c_3 := E.1.2.2.2.2 (.fieldLink RX0 22 "DebateSolver$Attacks" "selfAttackers" "I") (by decide +kernel)
  have c_4 := (⟨va_cnB (R := { frames := 2, cells := 0, slots := 0, locals := 44 }) (rm := { frames := 0, cells := 0, slots := 0, locals := 0 }) (mc := 0) (ms := 0) 2 E.1.2.2.2.2 gX0_build_X3_at_n29 rfl rfl rfl (E.2.1.2 (RX0, 29, yX3_at, RX3) (List.mem_of_getElem? (i := 1) rfl)) (E.1.2.2.2.2 (.initialized RX3) (by decide +kernel)) (by decide +kernel) ⟨Nat.le_of_ble_eq_true rfl, Nat.le_of_ble_eq_true rfl⟩, E.1.2.2.2.2 (.static yX3_at) (by decide +kernel), trivial⟩ : va_CN { frames := 2, cells := 0, slots := 0, locals := 44 } s args RX0 29 yX3_at RX3 cX3_at 2 (some .int) wsX3_at { frames := 0, cells := 0, slots := 0, locals := 0 } 0 0 2 ∧ _ ∧ True)
  have c_6 := (⟨va_cnB (R := { frames := 2, cells := 0, slots := 0, locals := 44 }) (rm := { frames := 0, cells := 0, slots := 0, locals := 0 }) (mc := 0) (ms := 0) 2 E.1.2.2.2.2 gX0_build_X3_has_n33 rfl rfl rfl (E.2.1.2 (RX0, 33, yX3_has, RX3) (List.mem_of_getElem? (i := 2) rfl)) (E.1.2.2.2.2 (.initialized RX3) (by decide +kernel)) (by decide +kernel) ⟨Nat.le_of_ble_eq_true rfl, Nat.le_of_ble_eq_true rfl⟩, E.1.2.2.2.2 (.static yX3_has) (by decide +kernel), trivial⟩ : va_CN { frames := 2, cells := 0, slots := 0, locals := 44 } s args RX0 33 yX3_has RX3 cX3_has 2 (some .boolean) wsX3_has { frames := 0, cells := 0, slots := 0, locals := 0 } 0 0 2 ∧ _ ∧ True)
  have c_11 := cwV (R := { frames := 2, cells := 0, slots := 0, locals := 44 }) (rm := { frames := 1, cells := 0, slots := 0, locals := 22 }) (mc := 0) (ms := 0) 2 E.1.2.2.2.2 gX0_build_X0_enter rfl rfl rfl (by decide +kernel) ⟨Nat.le_of_ble_eq_true rfl, Nat.le_of_ble_eq_true rfl⟩
  have c_12 := E.1.2.2.2.2 (.fieldLink RX0 9 "DebateSolver$Attacks" "sources" "[I") (by decide +kernel)
  have c_13 := (⟨va_cnB (R := { frames := 2, cells := 0, slots := 0, locals := 44 }) (rm := { frames := 0, cells := 0, slots := 0, locals := 0 }) (mc := 0) (ms := 0) 3 E.1.2.2.2.2 gX0_build_X3_store_n25 rfl rfl rfl (E.2.1.2 (RX0, 25, yX3_store, RX3) (List.mem_of_getElem? (i := 0) rfl)) (E.1.2.2.2.2 (.initialized RX3) (by decide +kernel)) (by decide +kernel) ⟨Nat.le_of_ble_eq_true rfl, Nat.le_of_ble_eq_true rfl⟩, E.1.2.2.2.2 (.static yX3_store) (by decide +kernel), trivial⟩ : va_CN { frames := 2, cells := 0, slots := 0, locals := 44 } s args RX0 25 yX3_store RX3 cX3_store 3 none wsX3_store { frames := 0, cells := 0, slots := 0, locals := 0 } 0 0 3 ∧ _ ∧ True)
  have c_14 := E.1.2.2.2.2 (.fieldLink RX0 15 "DebateSolver$Attacks" "targets" "[I") (by decide +kernel)
  refine lv_aload_n E.1.1 E.1.2.1 dX0_build_0 rfl (lv_at hl 0 rfl) ?_
  refine lv_iload_n E.1.1 E.1.2.1 dX0_build_1 rfl (lv_at hl 3 rfl) ?_
  refine q_put E h (C := RX0) (T := TX0) (N := 4) 0 rfl tyX0 tyX0_ok nmX0 c_2 0 rfl 2 (by decide) c_1 rfl (v := .int (nI pr)) (ty := .int) (by decide +kernel) rfl rfl (Nat.le_of_ble_eq_true rfl) dX0_build_2 (w2 := [(h0, .inr (0, [.ref h1, .ref h2, .int (nI pr), .int (nI sf)])), (h1, .inl (gI g, 12, .inl (aN sr))), (h2, .inl (gI g, 12, .inl (aN tg))), (q1, .inl (gI g, 12, .inl (aN wt))), (q2, .inl (gI g, 12, .inl (aN mk)))]) rfl (fun H locs h => ?_)
  refine lv_aload_n E.1.1 E.1.2.1 dX0_build_5 rfl (lv_at hl 0 rfl) ?_
  refine q_ic E 0 dX0_build_6 (by decide) ?_
  refine q_put E h (C := RX0) (T := TX0) (N := 4) 0 rfl tyX0 tyX0_ok nmX0 c_2 0 rfl 3 (by decide) c_3 rfl (v := .int (nI 0)) (ty := .int) (by decide +kernel) rfl rfl (Nat.le_of_ble_eq_true rfl) dX0_build_7 (w2 := [(h0, .inr (0, [.ref h1, .ref h2, .int (nI pr), .int (nI 0)])), (h1, .inl (gI g, 12, .inl (aN sr))), (h2, .inl (gI g, 12, .inl (aN tg))), (q1, .inl (gI g, 12, .inl (aN wt))), (q2, .inl (gI g, 12, .inl (aN mk)))]) rfl (fun H locs h => ?_)
  refine q_ic E 0 dX0_build_10 (by decide) ?_
  refine lv_istore (lv' := [(5, .int (nI 0)), (0, .ref h0), (1, .ref q1), (2, .ref q2), (3, .int (nI pr)), (4, .int (nI tol))]) E.1.1 E.1.2.1 dX0_build_11 hl (by decide) rfl (fun ls hl => ?_)
  have lp13 : ∀ (fu : Nat) (k : Nat), 12 - k < fu → (k ≤ 12) → ∀ (w13_h1 : Nat → Nat), w13_h1 = clr sr k → ∀ (w13_h2 : Nat → Nat), w13_h2 = clr tg k → ∀ (H : Heap) (locs : List Loc), qH g A s [(h0, .inr (0, [.ref h1, .ref h2, .int (nI pr), .int (nI 0)])), (h1, .inl (gI g, 12, .inl (aN w13_h1))), (h2, .inl (gI g, 12, .inl (aN w13_h2))), (q1, .inl (gI g, 12, .inl (aN wt))), (q2, .inl (gI g, 12, .inl (aN mk)))] H locs → ∀ ls : Array Slot, lv_has ls 8 [(0, .ref h0), (1, .ref q1), (2, .ref q2), (3, .int (nI pr)), (4, .int (nI tol)), (5, .int (nI k))] → W p l e { frames := 2, cells := 0, slots := 0, locals := 44 } s m args below meth c H locs 0 0 Q (F0 m 13 ls []) := by
    intro fu
    induction fu with
    | zero => intro k hfu; exact absurd hfu (Nat.not_lt_zero _)
    | succ fu ih13 =>
      intro k hfu hk w13_h1 ew13_h1 w13_h2 ew13_h2 H locs h ls hl
      subst ew13_h1 ew13_h2
      refine lv_iload E.1.1 E.1.2.1 dX0_build_13 (lv_at hl 5 rfl) ?_
      refine q_bi E 12 dX0_build_15 (by decide) ?_
      refine q_ge E (tgt := 46) (by omega) (by omega) dX0_build_17 (by decide) (fun hb17 => ?_) (fun hb17 => ?_)
      · skip
        have h : qH g A s [(h0, .inr (0, [.ref h1, .ref h2, .int (nI pr), .int (nI 0)])), (h1, .inl (gI g, 12, .inl (aN (bS (wkb wt mk pr tol) 0 0)))), (h2, .inl (gI g, 12, .inl (aN (bG (wkb wt mk pr tol) 0 0)))), (q1, .inl (gI g, 12, .inl (aN wt))), (q2, .inl (gI g, 12, .inl (aN mk)))] _ _ := (h.arr 1 (f' := aN (bS (wkb wt mk pr tol) 0 0)) rfl (fun k1 hk1 => by rw [show aN (clr sr k) k1 = nI (clr sr k k1) from rfl, show aN (bS (wkb wt mk pr tol) 0 0) k1 = nI (bS (wkb wt mk pr tol) 0 0 k1) from rfl, bS_00]; unfold clr; rw [if_pos (by omega)])).arr 2 (f' := aN (bG (wkb wt mk pr tol) 0 0)) rfl (fun k1 hk1 => by rw [show aN (clr tg k) k1 = nI (clr tg k k1) from rfl, show aN (bG (wkb wt mk pr tol) 0 0) k1 = nI (bG (wkb wt mk pr tol) 0 0 k1) from rfl, bG_00]; unfold clr; rw [if_pos (by omega)])
        refine q_ic E 0 dX0_build_46 (by decide) ?_
        refine lv_istore (lv' := [(5, .int (nI 0)), (0, .ref h0), (1, .ref q1), (2, .ref q2), (3, .int (nI pr)), (4, .int (nI tol))]) E.1.1 E.1.2.1 dX0_build_47 hl (by decide) rfl (fun ls hl => ?_)
        have lp49 : ∀ (fu : Nat) (F : Nat), 12 - F < fu → (F ≤ 12) → ∀ (v49_h0_3 : Nat), v49_h0_3 = bA (wkb wt mk pr tol) F 0 → ∀ (w49_h1 : Nat → Nat), w49_h1 = bS (wkb wt mk pr tol) F 0 → ∀ (w49_h2 : Nat → Nat), w49_h2 = bG (wkb wt mk pr tol) F 0 → ∀ (H : Heap) (locs : List Loc), qH g A s [(h0, .inr (0, [.ref h1, .ref h2, .int (nI pr), .int (nI v49_h0_3)])), (h1, .inl (gI g, 12, .inl (aN w49_h1))), (h2, .inl (gI g, 12, .inl (aN w49_h2))), (q1, .inl (gI g, 12, .inl (aN wt))), (q2, .inl (gI g, 12, .inl (aN mk)))] H locs → ∀ ls : Array Slot, lv_has ls 8 [(0, .ref h0), (1, .ref q1), (2, .ref q2), (3, .int (nI pr)), (4, .int (nI tol)), (5, .int (nI F))] → W p l e { frames := 2, cells := 0, slots := 0, locals := 44 } s m args below meth c H locs 0 0 Q (F0 m 49 ls []) := by
          intro fu
          induction fu with
          | zero => intro F hfu; exact absurd hfu (Nat.not_lt_zero _)
          | succ fu ih49 =>
            intro F hfu hF v49_h0_3 ev49_h0_3 w49_h1 ew49_h1 w49_h2 ew49_h2 H locs h ls hl
            subst ev49_h0_3 ew49_h1 ew49_h2
            refine lv_iload E.1.1 E.1.2.1 dX0_build_49 (lv_at hl 5 rfl) ?_
            refine q_bi E 12 dX0_build_51 (by decide) ?_
            refine q_ge E (tgt := 141) (by omega) (by omega) dX0_build_53 (by decide) (fun hb53 => ?_) (fun hb53 => ?_)
            · skip
              -- world at the end: [(h0, .inr (0, [.ref h1, .ref h2, .int (nI pr), .int (nI (bA (wkb wt mk pr tol) F 0))])), (h1, .inl (gI g, 12, .inl (aN (bS (wkb wt mk pr tol) F 0)))), (h2, .inl (gI g, 12, .inl (aN (bG (wkb wt mk pr tol) F 0)))), (q1, .inl (gI g, 12, .inl (aN wt))), (q2, .inl (gI g, 12, .inl (aN mk)))]
              have e12 : F = 12 := by omega
              subst e12
              rw [bS_end, bA_end] at h
              have h : qH g A s [(h0, .inr (0, [.ref h1, .ref h2, .int (nI pr), .int (nI (slO (wkb wt mk pr tol)))])), (h1, .inl (gI g, 12, .inl (aN (srO (wkb wt mk pr tol))))), (h2, .inl (gI g, 12, .inl (aN (tgO (wkb wt mk pr tol))))), (q1, .inl (gI g, 12, .inl (aN wt))), (q2, .inl (gI g, 12, .inl (aN mk)))] _ _ := h.arr 2 (f' := aN (tgO (wkb wt mk pr tol))) rfl (fun k1 hk1 => by rw [show aN (bG (wkb wt mk pr tol) 12 0) k1 = nI (bG (wkb wt mk pr tol) 12 0 k1) from rfl, bG_end]; exact congrArg nI (if_pos hk1))
              exact hend _ _ _ _ () h dX0_build_141 trivial
            · skip
              refine q_ic E 0 dX0_build_56 (by decide) ?_
              refine lv_istore (lv' := [(6, .int (nI 0)), (0, .ref h0), (1, .ref q1), (2, .ref q2), (3, .int (nI pr)), (4, .int (nI tol)), (5, .int (nI F))]) E.1.1 E.1.2.1 dX0_build_57 hl (by decide) rfl (fun ls hl => ?_)
              have lp59 : ∀ (fu : Nat) (T : Nat), 12 - T < fu → (T ≤ 12) → ∀ (v59_h0_3 : Nat), v59_h0_3 = bA (wkb wt mk pr tol) F T → ∀ (w59_h1 : Nat → Nat), w59_h1 = bS (wkb wt mk pr tol) F T → ∀ (w59_h2 : Nat → Nat), w59_h2 = bG (wkb wt mk pr tol) F T → ∀ (H : Heap) (locs : List Loc), qH g A s [(h0, .inr (0, [.ref h1, .ref h2, .int (nI pr), .int (nI v59_h0_3)])), (h1, .inl (gI g, 12, .inl (aN w59_h1))), (h2, .inl (gI g, 12, .inl (aN w59_h2))), (q1, .inl (gI g, 12, .inl (aN wt))), (q2, .inl (gI g, 12, .inl (aN mk)))] H locs → ∀ ls : Array Slot, lv_has ls 8 [(0, .ref h0), (1, .ref q1), (2, .ref q2), (3, .int (nI pr)), (4, .int (nI tol)), (5, .int (nI F)), (6, .int (nI T))] → W p l e { frames := 2, cells := 0, slots := 0, locals := 44 } s m args below meth c H locs 0 0 Q (F0 m 59 ls []) := by
                intro fu
                induction fu with
                | zero => intro T hfu; exact absurd hfu (Nat.not_lt_zero _)
                | succ fu ih59 =>
                  intro T hfu hT v59_h0_3 ev59_h0_3 w59_h1 ew59_h1 w59_h2 ew59_h2 H locs h ls hl
                  subst ev59_h0_3 ew59_h1 ew59_h2
                  refine lv_iload E.1.1 E.1.2.1 dX0_build_59 (lv_at hl 6 rfl) ?_
                  refine q_bi E 12 dX0_build_61 (by decide) ?_
                  refine q_ge E (tgt := 135) (by omega) (by omega) dX0_build_63 (by decide) (fun hb63 => ?_) (fun hb63 => ?_)
                  · skip
                    refine q_inc E (lv' := [(5, .int (nI (F + 1))), (0, .ref h0), (1, .ref q1), (2, .ref q2), (3, .int (nI pr)), (4, .int (nI tol)), (6, .int (nI T))]) hl dX0_build_135 (k := 5) rfl (by decide) rfl (fun ls hl => ?_)
                    refine q_go E (tgt := 49) dX0_build_138 (by decide) ?_
                    exact ih49  (F + 1) (by omega) (by omega) _ (by rw [show T = 12 by omega]; exact bA_row _ _) _ (by rw [show T = 12 by omega]; exact bS_row _ (wkb_12 hpr) _) _ (by rw [show T = 12 by omega]; exact bG_row _ _) _ _ h _ (lv_sub hl [1, 2, 3, 4, 5, 0] rfl)
                  · skip
                    refine lv_aload_n E.1.1 E.1.2.1 dX0_build_66 rfl (lv_at hl 2 rfl) ?_
                    refine lv_iload E.1.1 E.1.2.1 dX0_build_67 (lv_at hl 5 rfl) ?_
                    refine q_ki (w2 := fun _ => [(h0, .inr (0, [.ref h1, .ref h2, .int (nI pr), .int (nI (bA (wkb wt mk pr tol) F T))])), (h1, .inl (gI g, 12, .inl (aN (bS (wkb wt mk pr tol) F T)))), (h2, .inl (gI g, 12, .inl (aN (bG (wkb wt mk pr tol) F T)))), (q1, .inl (gI g, 12, .inl (aN wt))), (q2, .inl (gI g, 12, .inl (aN mk)))]) (wr := [(h0, .inr (0, [.ref h1, .ref h2, .int (nI pr), .int (nI (bA (wkb wt mk pr tol) F T))])), (h1, .inl (gI g, 12, .inl (aN (bS (wkb wt mk pr tol) F T)))), (h2, .inl (gI g, 12, .inl (aN (bG (wkb wt mk pr tol) F T)))), (q1, .inl (gI g, 12, .inl (aN wt)))]) E h [4] [0, 1, 2, 3] [0, 1, 2, 3, 4] (va_runSN (As := [.ref q2, .int (nI F)]) (rest := []) E.1 (k_X3_at l g q2 12 F mk (by omega) (by omega) _) c_4 (q_preS E h [4] rfl rfl) rfl rfl hl.1 rfl (lv_room (Nat.le_of_ble_eq_true rfl)) dX0_build_69 ⟨Nat.zero_le _, Nat.zero_le _⟩) rfl rfl rfl (by decide) rfl (fun _ => rfl) (fun r5 _ H locs hr5 h => ?_)
                    subst hr5
                    refine lv_iload_n E.1.1 E.1.2.1 dX0_build_72 rfl (lv_at hl 3 rfl) ?_
                    refine q_and E dX0_build_73 ?_
                    refine lv_iload E.1.1 E.1.2.1 dX0_build_74 (lv_at hl 6 rfl) ?_
                    refine q_ki (w2 := fun _ => [(h0, .inr (0, [.ref h1, .ref h2, .int (nI pr), .int (nI (bA (wkb wt mk pr tol) F T))])), (h1, .inl (gI g, 12, .inl (aN (bS (wkb wt mk pr tol) F T)))), (h2, .inl (gI g, 12, .inl (aN (bG (wkb wt mk pr tol) F T)))), (q1, .inl (gI g, 12, .inl (aN wt))), (q2, .inl (gI g, 12, .inl (aN mk)))]) (wr := [(h0, .inr (0, [.ref h1, .ref h2, .int (nI pr), .int (nI (bA (wkb wt mk pr tol) F T))])), (h1, .inl (gI g, 12, .inl (aN (bS (wkb wt mk pr tol) F T)))), (h2, .inl (gI g, 12, .inl (aN (bG (wkb wt mk pr tol) F T)))), (q1, .inl (gI g, 12, .inl (aN wt))), (q2, .inl (gI g, 12, .inl (aN mk)))]) E h [] [0, 1, 2, 3, 4] [0, 1, 2, 3, 4] (va_runSN (As := [.int (nI ((mk F) &&& pr)), .int (nI T)]) (rest := []) E.1 (k_X3_has l g ((mk F) &&& pr) T (by exact andL31 (Nat.lt_trans (hmk _) (by decide))) (by omega) _) c_6 (q_preS E h [] rfl rfl) rfl rfl hl.1 rfl (lv_room (Nat.le_of_ble_eq_true rfl)) dX0_build_76 ⟨Nat.zero_le _, Nat.zero_le _⟩) rfl rfl rfl (by decide) rfl (fun _ => rfl) (fun r7 _ H locs hr7 h => ?_)
                    subst hr7
                    refine q_beq E (tgt := 95) dX0_build_79 (by decide) (fun hb79 => ?_) (fun hb79 => ?_)
                    · skip
                      have hf : wkb wt mk pr tol F T = false := wkb_f1 hb79
                      refine q_ic E 0 dX0_build_95 (by decide) ?_
                      refine lv_istore (lv' := [(7, .int (nI 0)), (0, .ref h0), (1, .ref q1), (2, .ref q2), (3, .int (nI pr)), (4, .int (nI tol)), (5, .int (nI F)), (6, .int (nI T))]) E.1.1 E.1.2.1 dX0_build_96 hl (by decide) rfl (fun ls hl => ?_)
                      refine lv_iload E.1.1 E.1.2.1 dX0_build_98 (lv_at hl 0 rfl) ?_
                      refine q_eq0 E (tgt := 129) (by decide) dX0_build_100 (by decide) (fun hb100 => ?_) (fun hb100 => ?_)
                      · skip
                        refine q_inc E (lv' := [(6, .int (nI (T + 1))), (7, .int (nI 0)), (0, .ref h0), (1, .ref q1), (2, .ref q2), (3, .int (nI pr)), (4, .int (nI tol)), (5, .int (nI F))]) hl dX0_build_129 (k := 7) rfl (by decide) rfl (fun ls hl => ?_)
                        refine q_go E (tgt := 59) dX0_build_132 (by decide) ?_
                        exact ih59  (T + 1) (by omega) (by omega) _ (by first | exact (bA_no (Or.inl hf)).symm | exact bA_step (by omega) ht) _ (by first | exact (bS_no hf).symm | exact bS_yes (by omega) ht) _ (by first | exact (bG_no hf).symm | exact bG_yes (by omega) ht) _ _ h _ (lv_sub hl [2, 3, 4, 5, 6, 7, 0] rfl)
                      · exact absurd hb100 (by decide)
                    · skip
                      refine lv_iload_n E.1.1 E.1.2.1 dX0_build_82 rfl (lv_at hl 3 rfl) ?_
                      refine lv_iload E.1.1 E.1.2.1 dX0_build_83 (lv_at hl 5 rfl) ?_
                      refine q_ki (w2 := fun _ => [(h0, .inr (0, [.ref h1, .ref h2, .int (nI pr), .int (nI (bA (wkb wt mk pr tol) F T))])), (h1, .inl (gI g, 12, .inl (aN (bS (wkb wt mk pr tol) F T)))), (h2, .inl (gI g, 12, .inl (aN (bG (wkb wt mk pr tol) F T)))), (q1, .inl (gI g, 12, .inl (aN wt))), (q2, .inl (gI g, 12, .inl (aN mk)))]) (wr := [(h0, .inr (0, [.ref h1, .ref h2, .int (nI pr), .int (nI (bA (wkb wt mk pr tol) F T))])), (h1, .inl (gI g, 12, .inl (aN (bS (wkb wt mk pr tol) F T)))), (h2, .inl (gI g, 12, .inl (aN (bG (wkb wt mk pr tol) F T)))), (q1, .inl (gI g, 12, .inl (aN wt))), (q2, .inl (gI g, 12, .inl (aN mk)))]) E h [] [0, 1, 2, 3, 4] [0, 1, 2, 3, 4] (va_runSN (As := [.int (nI pr), .int (nI F)]) (rest := []) E.1 (k_X3_has l g pr F (by omega) (by omega) _) c_6 (q_preS E h [] rfl rfl) rfl rfl hl.1 rfl (lv_room (Nat.le_of_ble_eq_true rfl)) dX0_build_85 ⟨Nat.zero_le _, Nat.zero_le _⟩) rfl rfl rfl (by decide) rfl (fun _ => rfl) (fun r8 _ H locs hr8 h => ?_)
                      subst hr8
                      refine q_beq E (tgt := 95) dX0_build_88 (by decide) (fun hb88 => ?_) (fun hb88 => ?_)
                      · skip
                        have hf : wkb wt mk pr tol F T = false := wkb_f2 hb88
                        refine q_ic E 0 dX0_build_95 (by decide) ?_
                        refine lv_istore (lv' := [(7, .int (nI 0)), (0, .ref h0), (1, .ref q1), (2, .ref q2), (3, .int (nI pr)), (4, .int (nI tol)), (5, .int (nI F)), (6, .int (nI T))]) E.1.1 E.1.2.1 dX0_build_96 hl (by decide) rfl (fun ls hl => ?_)
                        refine lv_iload E.1.1 E.1.2.1 dX0_build_98 (lv_at hl 0 rfl) ?_
                        refine q_eq0 E (tgt := 129) (by decide) dX0_build_100 (by decide) (fun hb100 => ?_) (fun hb100 => ?_)
                        · skip
                          refine q_inc E (lv' := [(6, .int (nI (T + 1))), (7, .int (nI 0)), (0, .ref h0), (1, .ref q1), (2, .ref q2), (3, .int (nI pr)), (4, .int (nI tol)), (5, .int (nI F))]) hl dX0_build_129 (k := 7) rfl (by decide) rfl (fun ls hl => ?_)
                          refine q_go E (tgt := 59) dX0_build_132 (by decide) ?_
                          exact ih59  (T + 1) (by omega) (by omega) _ (by first | exact (bA_no (Or.inl hf)).symm | exact bA_step (by omega) ht) _ (by first | exact (bS_no hf).symm | exact bS_yes (by omega) ht) _ (by first | exact (bG_no hf).symm | exact bG_yes (by omega) ht) _ _ h _ (lv_sub hl [2, 3, 4, 5, 6, 7, 0] rfl)
                        · exact absurd hb100 (by decide)
                      · skip
                        refine q_ic E 1 dX0_build_91 (by decide) ?_
                        refine q_go E (tgt := 96) dX0_build_92 (by decide) ?_
                        refine lv_istore (lv' := [(7, .int (nI 1)), (0, .ref h0), (1, .ref q1), (2, .ref q2), (3, .int (nI pr)), (4, .int (nI tol)), (5, .int (nI F)), (6, .int (nI T))]) E.1.1 E.1.2.1 dX0_build_96 hl (by decide) rfl (fun ls hl => ?_)
                        refine lv_iload E.1.1 E.1.2.1 dX0_build_98 (lv_at hl 0 rfl) ?_
                        refine q_eq0 E (tgt := 129) (by decide) dX0_build_100 (by decide) (fun hb100 => ?_) (fun hb100 => ?_)
                        · exact absurd hb100 (by decide)
                        · skip
                          refine lv_aload_n E.1.1 E.1.2.1 dX0_build_103 rfl (lv_at hl 2 rfl) ?_
                          refine lv_iload E.1.1 E.1.2.1 dX0_build_104 (lv_at hl 7 rfl) ?_
                          refine q_ki (w2 := fun _ => [(h0, .inr (0, [.ref h1, .ref h2, .int (nI pr), .int (nI (bA (wkb wt mk pr tol) F T))])), (h1, .inl (gI g, 12, .inl (aN (bS (wkb wt mk pr tol) F T)))), (h2, .inl (gI g, 12, .inl (aN (bG (wkb wt mk pr tol) F T)))), (q1, .inl (gI g, 12, .inl (aN wt))), (q2, .inl (gI g, 12, .inl (aN mk)))]) (wr := [(h0, .inr (0, [.ref h1, .ref h2, .int (nI pr), .int (nI (bA (wkb wt mk pr tol) F T))])), (h1, .inl (gI g, 12, .inl (aN (bS (wkb wt mk pr tol) F T)))), (h2, .inl (gI g, 12, .inl (aN (bG (wkb wt mk pr tol) F T)))), (q2, .inl (gI g, 12, .inl (aN mk)))]) E h [3] [0, 1, 2, 4] [0, 1, 2, 4, 3] (va_runSN (As := [.ref q1, .int (nI T)]) (rest := []) E.1 (k_X3_at l g q1 12 T wt (by omega) (by omega) _) c_4 (q_preS E h [3] rfl rfl) rfl rfl hl.1 rfl (lv_room (Nat.le_of_ble_eq_true rfl)) dX0_build_106 ⟨Nat.zero_le _, Nat.zero_le _⟩) rfl rfl rfl (by decide) rfl (fun _ => rfl) (fun r9 _ H locs hr9 h => ?_)
                          subst hr9
                          refine lv_aload_n E.1.1 E.1.2.1 dX0_build_109 rfl (lv_at hl 2 rfl) ?_
                          refine lv_iload E.1.1 E.1.2.1 dX0_build_110 (lv_at hl 6 rfl) ?_
                          refine q_ki (w2 := fun _ => [(h0, .inr (0, [.ref h1, .ref h2, .int (nI pr), .int (nI (bA (wkb wt mk pr tol) F T))])), (h1, .inl (gI g, 12, .inl (aN (bS (wkb wt mk pr tol) F T)))), (h2, .inl (gI g, 12, .inl (aN (bG (wkb wt mk pr tol) F T)))), (q1, .inl (gI g, 12, .inl (aN wt))), (q2, .inl (gI g, 12, .inl (aN mk)))]) (wr := [(h0, .inr (0, [.ref h1, .ref h2, .int (nI pr), .int (nI (bA (wkb wt mk pr tol) F T))])), (h1, .inl (gI g, 12, .inl (aN (bS (wkb wt mk pr tol) F T)))), (h2, .inl (gI g, 12, .inl (aN (bG (wkb wt mk pr tol) F T)))), (q2, .inl (gI g, 12, .inl (aN mk)))]) E h [3] [0, 1, 2, 4] [0, 1, 2, 4, 3] (va_runSN (As := [.ref q1, .int (nI F)]) (rest := [.int (nI (wt T))]) E.1 (k_X3_at l g q1 12 F wt (by omega) (by omega) _) c_4 (q_preS E h [3] rfl rfl) rfl rfl hl.1 rfl (lv_room (Nat.le_of_ble_eq_true rfl)) dX0_build_112 ⟨Nat.zero_le _, Nat.zero_le _⟩) rfl rfl rfl (by decide) rfl (fun _ => rfl) (fun r10 _ H locs hr10 h => ?_)
                          subst hr10
                          refine lv_isub E.1.1 E.1.2.1 dX0_build_115 ?_
                          refine lv_iload E.1.1 E.1.2.1 dX0_build_116 (lv_at hl 5 rfl) ?_
                          refine lv_icmp_gt (tgt := 129) E.1.1 E.1.2.1 dX0_build_118 (by decide) (fun hb118 => ?_) (fun hb118 => ?_)
                          · skip
                            have hf : wkb wt mk pr tol F T = false := wkb_f3 ((wk_lt (hwt _) (hwt _) htol).mp hb118)
                            refine q_inc E (lv' := [(6, .int (nI (T + 1))), (7, .int (nI 1)), (0, .ref h0), (1, .ref q1), (2, .ref q2), (3, .int (nI pr)), (4, .int (nI tol)), (5, .int (nI F))]) hl dX0_build_129 (k := 7) rfl (by decide) rfl (fun ls hl => ?_)
                            refine q_go E (tgt := 59) dX0_build_132 (by decide) ?_
                            exact ih59  (T + 1) (by omega) (by omega) _ (by first | exact (bA_no (Or.inl hf)).symm | exact bA_step (by omega) ht) _ (by first | exact (bS_no hf).symm | exact bS_yes (by omega) ht) _ (by first | exact (bG_no hf).symm | exact bG_yes (by omega) ht) _ _ h _ (lv_sub hl [2, 3, 4, 5, 6, 7, 0] rfl)
                          · skip
                            have ht : wkb wt mk pr tol F T = true := wkb_t hb79 hb88 (Decidable.not_not.mp (fun q => hb118 ((wk_lt (hwt _) (hwt _) htol).mpr q)))
                            refine lv_aload_n E.1.1 E.1.2.1 dX0_build_121 rfl (lv_at hl 1 rfl) ?_
                            refine lv_iload E.1.1 E.1.2.1 dX0_build_122 (lv_at hl 6 rfl) ?_
                            refine lv_iload E.1.1 E.1.2.1 dX0_build_124 (lv_at hl 7 rfl) ?_
                            refine q_kv (w2 := fun _ => [(h0, .inr (0, [.ref h1, .ref h2, .int (nI pr), .int (nI (if F = T then (bA (wkb wt mk pr tol) F T) ||| 2 ^ T else (bA (wkb wt mk pr tol) F T)))])), (h1, .inl (gI g, 12, .inl (aN (updN (bS (wkb wt mk pr tol) F T) T ((bS (wkb wt mk pr tol) F T) T ||| 2 ^ F))))), (h2, .inl (gI g, 12, .inl (aN (updN (bG (wkb wt mk pr tol) F T) F ((bG (wkb wt mk pr tol) F T) F ||| 2 ^ T))))), (q1, .inl (gI g, 12, .inl (aN wt))), (q2, .inl (gI g, 12, .inl (aN mk)))]) (wr := [(q1, .inl (gI g, 12, .inl (aN wt))), (q2, .inl (gI g, 12, .inl (aN mk)))]) E h [0, 1, 2] [3, 4] [2, 3, 4, 0, 1] (va_runV (As := [.int (nI F), .int (nI T)]) (rest := []) E.1 (k_X0_enter l g h0 h1 h2 pr (bA (wkb wt mk pr tol) F T) (bS (wkb wt mk pr tol) F T) (bG (wkb wt mk pr tol) F T) F T (by omega) (by omega) _) c_11 (q_preV E h [0, 1, 2] rfl rfl (C := RX0) (T := TX0) (N := 4) 0 rfl 0 rfl) rfl rfl hl.1 rfl (lv_room (Nat.le_of_ble_eq_true rfl)) dX0_build_126 ⟨Nat.zero_le _, Nat.zero_le _⟩) rfl rfl rfl (by decide) rfl (fun _ => rfl) (fun _ H locs _ h => ?_)
                            refine q_inc E (lv' := [(6, .int (nI (T + 1))), (7, .int (nI 1)), (0, .ref h0), (1, .ref q1), (2, .ref q2), (3, .int (nI pr)), (4, .int (nI tol)), (5, .int (nI F))]) hl dX0_build_129 (k := 7) rfl (by decide) rfl (fun ls hl => ?_)
                            refine q_go E (tgt := 59) dX0_build_132 (by decide) ?_
                            exact ih59  (T + 1) (by omega) (by omega) _ (by first | exact (bA_no (Or.inl hf)).symm | exact bA_step (by omega) ht) _ (by first | exact (bS_no hf).symm | exact bS_yes (by omega) ht) _ (by first | exact (bG_no hf).symm | exact bG_yes (by omega) ht) _ _ h _ (lv_sub hl [2, 3, 4, 5, 6, 7, 0] rfl)
              exact lp59 ((12 - 0) + 1) 0 (Nat.lt_succ_self _) (by omega) _ rfl _ rfl _ rfl _ _ h _ (lv_sub hl [1, 2, 3, 4, 5, 6, 0] rfl)
        exact lp49 ((12 - 0) + 1) 0 (Nat.lt_succ_self _) (by omega) _ (by exact (bA_00 _).symm) _ rfl _ rfl _ _ h _ (lv_sub hl [1, 2, 3, 4, 5, 0] rfl)
      · skip
        refine lv_aload_n E.1.1 E.1.2.1 dX0_build_20 rfl (lv_at hl 0 rfl) ?_
        refine q_get E h (C := RX0) (T := TX0) (N := 4) 0 rfl c_2 0 rfl 0 (by decide) c_12 (v := .ref h1) rfl dX0_build_21 ?_
        refine lv_iload E.1.1 E.1.2.1 dX0_build_24 (lv_at hl 5 rfl) ?_
        refine q_ic E 0 dX0_build_26 (by decide) ?_
        refine q_kv (w2 := fun _ => [(h0, .inr (0, [.ref h1, .ref h2, .int (nI pr), .int (nI 0)])), (h1, .inl (gI g, 12, .inl (aN (updN (clr sr k) k 0)))), (h2, .inl (gI g, 12, .inl (aN (clr tg k)))), (q1, .inl (gI g, 12, .inl (aN wt))), (q2, .inl (gI g, 12, .inl (aN mk)))]) (wr := [(h0, .inr (0, [.ref h1, .ref h2, .int (nI pr), .int (nI 0)])), (h2, .inl (gI g, 12, .inl (aN (clr tg k)))), (q1, .inl (gI g, 12, .inl (aN wt))), (q2, .inl (gI g, 12, .inl (aN mk)))]) E h [1] [0, 2, 3, 4] [0, 4, 1, 2, 3] (va_runSN (As := [.ref h1, .int (nI k), .int (nI 0)]) (rest := []) E.1 (k_X3_store l g h1 12 k 0 (clr sr k) (by omega) (by omega) _) c_13 (q_preS E h [1] rfl rfl) rfl rfl hl.1 rfl (lv_room (Nat.le_of_ble_eq_true rfl)) dX0_build_27 ⟨Nat.zero_le _, Nat.zero_le _⟩) rfl rfl rfl (by decide) rfl (fun _ => rfl) (fun _ H locs _ h => ?_)
        refine lv_aload_n E.1.1 E.1.2.1 dX0_build_30 rfl (lv_at hl 0 rfl) ?_
        refine q_get E h (C := RX0) (T := TX0) (N := 4) 0 rfl c_2 0 rfl 1 (by decide) c_14 (v := .ref h2) rfl dX0_build_31 ?_
        refine lv_iload E.1.1 E.1.2.1 dX0_build_34 (lv_at hl 5 rfl) ?_
        refine q_ic E 0 dX0_build_36 (by decide) ?_
        refine q_kv (w2 := fun _ => [(h0, .inr (0, [.ref h1, .ref h2, .int (nI pr), .int (nI 0)])), (h1, .inl (gI g, 12, .inl (aN (updN (clr sr k) k 0)))), (h2, .inl (gI g, 12, .inl (aN (updN (clr tg k) k 0)))), (q1, .inl (gI g, 12, .inl (aN wt))), (q2, .inl (gI g, 12, .inl (aN mk)))]) (wr := [(h0, .inr (0, [.ref h1, .ref h2, .int (nI pr), .int (nI 0)])), (h1, .inl (gI g, 12, .inl (aN (updN (clr sr k) k 0)))), (q1, .inl (gI g, 12, .inl (aN wt))), (q2, .inl (gI g, 12, .inl (aN mk)))]) E h [2] [0, 1, 3, 4] [0, 1, 4, 2, 3] (va_runSN (As := [.ref h2, .int (nI k), .int (nI 0)]) (rest := []) E.1 (k_X3_store l g h2 12 k 0 (clr tg k) (by omega) (by omega) _) c_13 (q_preS E h [2] rfl rfl) rfl rfl hl.1 rfl (lv_room (Nat.le_of_ble_eq_true rfl)) dX0_build_37 ⟨Nat.zero_le _, Nat.zero_le _⟩) rfl rfl rfl (by decide) rfl (fun _ => rfl) (fun _ H locs _ h => ?_)
        refine q_inc E (lv' := [(5, .int (nI (k + 1))), (0, .ref h0), (1, .ref q1), (2, .ref q2), (3, .int (nI pr)), (4, .int (nI tol))]) hl dX0_build_40 (k := 5) rfl (by decide) rfl (fun ls hl => ?_)
        refine q_go E (tgt := 13) dX0_build_43 (by decide) ?_
        exact ih13  (k + 1) (by omega) (by omega) _ (by exact clr_s _ _) _ (by exact clr_s _ _) _ _ h _ (lv_sub hl [1, 2, 3, 4, 5, 0] rfl)
  exact lp13 ((12 - 0) + 1) 0 (Nat.lt_succ_self _) (by omega) _ (by exact (clr_0 _).symm) _ (by exact (clr_0 _).symm) _ _ h _ (lv_sub hl [1, 2, 3, 4, 5, 0] rfl)
