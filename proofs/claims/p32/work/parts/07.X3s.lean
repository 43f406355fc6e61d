/-! the class's static helpers -/
set_option maxHeartbeats 4000000 in
set_option maxRecDepth 100000 in
theorem k_X3_has (l : Launch) (g : GK) (n k : Nat) (hn : n < 2147483648) (hk : k < 32) : CI (S := Unit) l g yX3_has wsX3_has { frames := 0, cells := 0, slots := 0, locals := 0 } [.int (nI n), .int (nI k)] [] (fun r _ => r = nI (n.testBit k).toNat) (fun _ => []) := by
  refine q_ofI (own := RX3) (by decide) rfl rfl (Nat.le_of_ble_eq_true rfl) (fun v u hp => by obtain rfl := hp; exact n_bool _) ?_
  intro p e s m below meth c A Q args E hmn h hend ls hl
  have hl : lv_has ls 2 [(0, .int (nI n)), (1, .int (nI k))] := hl
  refine lv_iload_n E.1.1 E.1.2.1 dX3_has_0 rfl (lv_at hl 0 rfl) ?_
  refine lv_iload_n E.1.1 E.1.2.1 dX3_has_1 rfl (lv_at hl 1 rfl) ?_
  refine q_shr E (by exact hn) (by exact hk) dX3_has_2 ?_
  refine q_ic E 1 dX3_has_3 (by decide) ?_
  refine q_and E dX3_has_4 ?_
  refine q_ic E 1 dX3_has_5 (by decide) ?_
  refine q_ne E (tgt := 13) (by exact and1lt _) (by decide) dX3_has_6 (by decide) (fun hb6 => ?_) (fun hb6 => ?_)
  · skip
    refine q_ic E 0 dX3_has_13 (by decide) ?_
    -- world at the end: []
    exact hend _ _ _ _ _ () h dX3_has_14 (by exact has_r n k _ (Or.inr ⟨hb6, rfl⟩))
  · skip
    refine q_ic E 1 dX3_has_9 (by decide) ?_
    refine q_go E (tgt := 14) dX3_has_10 (by decide) ?_
    -- world at the end: []
    exact hend _ _ _ _ _ () h dX3_has_14 (by exact has_r n k _ (Or.inl ⟨hb6, rfl⟩))
set_option maxHeartbeats 4000000 in
set_option maxRecDepth 100000 in
theorem k_X3_with (l : Launch) (g : GK) (n k : Nat) (t : Bool) (hk : k < 31) : CI (S := Unit) l g yX3_with wsX3_with { frames := 0, cells := 0, slots := 0, locals := 0 } [.int (nI n), .int (nI k), .int (nI t.toNat)] [] (fun r _ => r = nI (sw n k t)) (fun _ => []) := by
  refine q_ofI (own := RX3) (by decide) rfl rfl (Nat.le_of_ble_eq_true rfl) n_int ?_
  intro p e s m below meth c A Q args E hmn h hend ls hl
  have hl : lv_has ls 3 [(0, .int (nI n)), (1, .int (nI k)), (2, .int (nI t.toNat))] := hl
  refine lv_iload_n E.1.1 E.1.2.1 dX3_with_0 rfl (lv_at hl 2 rfl) ?_
  refine q_beq E (tgt := 12) dX3_with_1 (by decide) (fun hb1 => ?_) (fun hb1 => ?_)
  · skip
    refine lv_iload_n E.1.1 E.1.2.1 dX3_with_12 rfl (lv_at hl 0 rfl) ?_
    refine q_ic E 1 dX3_with_13 (by decide) ?_
    refine lv_iload_n E.1.1 E.1.2.1 dX3_with_14 rfl (lv_at hl 1 rfl) ?_
    refine q_shl1 E (by exact hk) dX3_with_15 ?_
    refine q_im1 E dX3_with_16 ?_
    refine q_xor E dX3_with_17 ?_
    refine q_andn E dX3_with_18 ?_
    -- world at the end: []
    exact hend _ _ _ _ _ () h dX3_with_19 (by rw [hb1]; rfl)
  · skip
    refine lv_iload_n E.1.1 E.1.2.1 dX3_with_4 rfl (lv_at hl 0 rfl) ?_
    refine q_ic E 1 dX3_with_5 (by decide) ?_
    refine lv_iload_n E.1.1 E.1.2.1 dX3_with_6 rfl (lv_at hl 1 rfl) ?_
    refine q_shl1 E (by exact hk) dX3_with_7 ?_
    refine q_or E dX3_with_8 ?_
    refine q_go E (tgt := 19) dX3_with_9 (by decide) ?_
    -- world at the end: []
    exact hend _ _ _ _ _ () h dX3_with_19 (by rw [hb1]; rfl)
set_option maxHeartbeats 4000000 in
set_option maxRecDepth 100000 in
theorem k_X3_at (l : Launch) (g : GK) (h0 N i : Nat) (f : Nat → Nat) (hi : i < N) (hN : N < 2147483648) : CI (S := Unit) l g yX3_at wsX3_at { frames := 0, cells := 0, slots := 0, locals := 0 } [.ref h0, .int (nI i)] [(h0, .inl (gI g, N, .inl (aN f)))] (fun r _ => r = nI (f i)) (fun _ => [(h0, .inl (gI g, N, .inl (aN f)))]) := by
  refine q_ofI (own := RX3) (by decide) rfl rfl (Nat.le_of_ble_eq_true rfl) n_int ?_
  intro p e s m below meth c A Q args E hmn h hend ls hl
  have hl : lv_has ls 2 [(0, .ref h0), (1, .int (nI i))] := hl
  refine lv_iload_n E.1.1 E.1.2.1 dX3_at_0 rfl (lv_at hl 1 rfl) ?_
  refine q_lt0 E (tgt := 16) (by omega) dX3_at_1 (by decide) ?_
  refine lv_iload_n E.1.1 E.1.2.1 dX3_at_4 rfl (lv_at hl 1 rfl) ?_
  refine lv_aload_n E.1.1 E.1.2.1 dX3_at_5 rfl (lv_at hl 0 rfl) ?_
  refine q_alen E h 0 rfl dX3_at_6 ?_
  refine q_ge E (tgt := 16) (by omega) (by omega) dX3_at_7 (by decide) (fun hb7 => ?_) (fun hb7 => ?_)
  · skip
    exact absurd hb7 (by omega)
  · skip
    refine lv_aload_n E.1.1 E.1.2.1 dX3_at_10 rfl (lv_at hl 0 rfl) ?_
    refine lv_iload_n E.1.1 E.1.2.1 dX3_at_11 rfl (lv_at hl 1 rfl) ?_
    refine q_iald E h 0 (f := f) rfl (by omega) (by exact hN) dX3_at_12 ?_
    refine q_go E (tgt := 17) dX3_at_13 (by decide) ?_
    -- world at the end: [(h0, .inl (gI g, N, .inl (aN f)))]
    exact hend _ _ _ _ _ () h dX3_at_17 rfl
set_option maxHeartbeats 4000000 in
set_option maxRecDepth 100000 in
theorem k_X3_store (l : Launch) (g : GK) (h0 N i v : Nat) (f : Nat → Nat) (hi : i < N) (hN : N < 2147483648) : CV (S := Unit) l g yX3_store wsX3_store { frames := 0, cells := 0, slots := 0, locals := 0 } [.ref h0, .int (nI i), .int (nI v)] [(h0, .inl (gI g, N, .inl (aN f)))] (fun _ => True) (fun _ => [(h0, .inl (gI g, N, .inl (aN (updN f i v))))]) := by
  refine q_ofV (own := RX3) (by decide) rfl rfl (Nat.le_of_ble_eq_true rfl) ?_
  intro p e s m below meth c A Q args E hmn h hend ls hl
  have hl : lv_has ls 3 [(0, .ref h0), (1, .int (nI i)), (2, .int (nI v))] := hl
  refine lv_iload_n E.1.1 E.1.2.1 dX3_store_0 rfl (lv_at hl 1 rfl) ?_
  refine q_lt0 E (tgt := 14) (by omega) dX3_store_1 (by decide) ?_
  refine lv_iload_n E.1.1 E.1.2.1 dX3_store_4 rfl (lv_at hl 1 rfl) ?_
  refine lv_aload_n E.1.1 E.1.2.1 dX3_store_5 rfl (lv_at hl 0 rfl) ?_
  refine q_alen E h 0 rfl dX3_store_6 ?_
  refine q_ge E (tgt := 14) (by omega) (by omega) dX3_store_7 (by decide) (fun hb7 => ?_) (fun hb7 => ?_)
  · skip
    exact absurd hb7 (by omega)
  · skip
    refine lv_aload_n E.1.1 E.1.2.1 dX3_store_10 rfl (lv_at hl 0 rfl) ?_
    refine lv_iload_n E.1.1 E.1.2.1 dX3_store_11 rfl (lv_at hl 1 rfl) ?_
    refine lv_iload_n E.1.1 E.1.2.1 dX3_store_12 rfl (lv_at hl 2 rfl) ?_
    refine q_iast E h 0 (f := f) rfl (by omega) (by exact hN) dX3_store_13 (w2 := [(h0, .inl (gI g, N, .inl (aN (updN f i v))))]) rfl (fun H locs h => ?_)
    -- world at the end: [(h0, .inl (gI g, N, .inl (aN (updN f i v))))]
    exact hend _ _ _ _ () h dX3_store_14 trivial
