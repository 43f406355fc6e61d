/-! calls that throw -/
theorem tb_nIAE : ∀ w ∈ (vx_atS RX3 84 nIAE nmRT).filter (fun w => !goodWord w), w ∈ Cond.castable nIAE nIAE :: dclW := by decide +kernel
theorem tg_nIAE : ∀ w ∈ Cond.classLink RX3 80 nIAE :: Cond.initialized nIAE :: vx_atS RX3 84 nIAE nmRT, vx_ot w = true := by decide +kernel
theorem tb_nIOB : ∀ w ∈ (vx_atS RX3 130 nIOB nmRT).filter (fun w => !goodWord w), w ∈ Cond.castable nIOB nIOB :: dclW := by decide +kernel
theorem tg_nIOB : ∀ w ∈ Cond.classLink RX3 126 nIOB :: Cond.initialized nIOB :: vx_atS RX3 130 nIOB nmRT, vx_ot w = true := by decide +kernel
theorem tb_nISE : ∀ w ∈ (vx_atS RX3 55 nISE nmRT).filter (fun w => !goodWord w), w ∈ Cond.castable nISE nISE :: dclW := by decide +kernel
theorem tg_nISE : ∀ w ∈ Cond.classLink RX3 51 nISE :: Cond.initialized nISE :: vx_atS RX3 55 nISE nmRT, vx_ot w = true := by decide +kernel
theorem t_fit : ∀ n ∈ nmRT, Bundle.fit n = true := by decide +kernel
set_option maxHeartbeats 4000000 in
set_option maxRecDepth 100000 in
theorem k_X3_checkArgument_bad (l : Launch) (g : GK) (d0 w1 w2 h0 s0 p0 : Nat) (cnt pr tol : Nat) (sd : Bool) (z : Int32) (hz : z < 0 ∨ nI cnt ≤ z) (hlt : l.stackTraces = false) : CT (S := Unit) l g yX3_checkArgument wsX3_checkArgument { frames := 6, cells := 1, slots := 6, locals := 82 } [.ref d0, .int z] [(d0, .inr (3, [.ref w1, .ref w2, .ref h0, .ref s0, .ref p0, .int (nI cnt), .int (nI pr), .int (nI tol), .int (nI sd.toNat)]))] nIOB (fun _ => [(d0, .inr (3, [.ref w1, .ref w2, .ref h0, .ref s0, .ref p0, .int (nI cnt), .int (nI pr), .int (nI tol), .int (nI sd.toNat)]))]) := by
  refine q_ofT (own := RX3) (by decide) rfl rfl (Nat.le_of_ble_eq_true rfl) ?_
  intro p e s m below meth c A args E EX ht hlocks h ls hl
  have hl : lv_has ls 2 [(0, .ref d0), (1, .int z)] := hl
  have c_1 := E.1.2.2.2.2 (.classLink RX3 126 nIOB) (by decide +kernel)
  have c_2 := E.1.2.2.2.2 (.initialized nIOB) (by decide +kernel)
  have c_3 := E.1.2.2.2.2 (.fieldLink RX3 33 "DebateSolver" "count" "I") (by decide +kernel)
  have c_4 := (by decide +kernel : ∀ w ∈ wsX30, w ∈ wsX3_checkArgument)
  refine lv_iload_n E.1.1 E.1.2.1 dX3_checkArgument_0 rfl (lv_at hl 1 rfl) ?_
  refine lv_if_lt (tgt := 12) E.1.1 E.1.2.1 dX3_checkArgument_1 (by decide) (fun hb1 => ?_) (fun hb1 => ?_)
  · skip
    exact q_thr E EX hlt ht hlocks hl () h rfl (cls := nIOB) (text := "there is no such argument") (ik := 126) (is := 164) (ic := 130) (by decide) (by decide) (by decide +kernel) t_fit c_1 c_2 (fun w9 h9 => E.1.2.2.2.2 w9 (List.mem_cons_of_mem _ (List.mem_append_right _ h9))) tb_nIOB tg_nIOB dX3_checkArgument_12 dX3_checkArgument_15 dX3_checkArgument_16 dX3_checkArgument_18 dX3_checkArgument_21 (Nat.le_of_ble_eq_true rfl) (Nat.le_of_ble_eq_true rfl) (Nat.le_of_ble_eq_true rfl) (Nat.le_of_ble_eq_true rfl) (Nat.le_of_ble_eq_true rfl) (Nat.le_of_ble_eq_true rfl)
  · skip
    refine lv_iload_n E.1.1 E.1.2.1 dX3_checkArgument_4 rfl (lv_at hl 1 rfl) ?_
    refine lv_aload_n E.1.1 E.1.2.1 dX3_checkArgument_5 rfl (lv_at hl 0 rfl) ?_
    refine q_get E h (C := RX3) (T := TX3) (N := 9) 3 rfl c_4 0 rfl 5 (by decide) c_3 (v := .int (nI cnt)) rfl dX3_checkArgument_6 ?_
    refine lv_icmp_lt (tgt := 22) E.1.1 E.1.2.1 dX3_checkArgument_9 (by decide) (fun hb9 => ?_) (fun hb9 => ?_)
    · skip
      exact absurd hz (fun q9 => q9.elim hb1 (fun h9 => absurd hb9 (Int32.not_lt.mpr h9)))
    · skip
      exact q_thr E EX hlt ht hlocks hl () h rfl (cls := nIOB) (text := "there is no such argument") (ik := 126) (is := 164) (ic := 130) (by decide) (by decide) (by decide +kernel) t_fit c_1 c_2 (fun w9 h9 => E.1.2.2.2.2 w9 (List.mem_cons_of_mem _ (List.mem_append_right _ h9))) tb_nIOB tg_nIOB dX3_checkArgument_12 dX3_checkArgument_15 dX3_checkArgument_16 dX3_checkArgument_18 dX3_checkArgument_21 (Nat.le_of_ble_eq_true rfl) (Nat.le_of_ble_eq_true rfl) (Nat.le_of_ble_eq_true rfl) (Nat.le_of_ble_eq_true rfl) (Nat.le_of_ble_eq_true rfl) (Nat.le_of_ble_eq_true rfl)

set_option maxHeartbeats 4000000 in
set_option maxRecDepth 100000 in
theorem k_X3_checkSet_bad (l : Launch) (g : GK) (d0 w1 w2 h0 s0 p0 : Nat) (cnt pr tol : Nat) (sd : Bool) (z : Int32) (hcnt : cnt ≤ 12) (hz : z < 0 ∨ nI (2 ^ cnt) ≤ z) (hlt : l.stackTraces = false) : CT (S := Unit) l g yX3_checkSet wsX3_checkSet { frames := 6, cells := 1, slots := 6, locals := 82 } [.ref d0, .int z] [(d0, .inr (3, [.ref w1, .ref w2, .ref h0, .ref s0, .ref p0, .int (nI cnt), .int (nI pr), .int (nI tol), .int (nI sd.toNat)]))] nIAE (fun _ => [(d0, .inr (3, [.ref w1, .ref w2, .ref h0, .ref s0, .ref p0, .int (nI cnt), .int (nI pr), .int (nI tol), .int (nI sd.toNat)]))]) := by
  refine q_ofT (own := RX3) (by decide) rfl rfl (Nat.le_of_ble_eq_true rfl) ?_
  intro p e s m below meth c A args E EX ht hlocks h ls hl
  have hl : lv_has ls 2 [(0, .ref d0), (1, .int z)] := hl
  have c_1 := E.1.2.2.2.2 (.classLink RX3 80 nIAE) (by decide +kernel)
  have c_2 := E.1.2.2.2.2 (.initialized nIAE) (by decide +kernel)
  have c_3 := E.1.2.2.2.2 (.fieldLink RX3 33 "DebateSolver" "count" "I") (by decide +kernel)
  have c_4 := (by decide +kernel : ∀ w ∈ wsX30, w ∈ wsX3_checkSet)
  refine lv_iload_n E.1.1 E.1.2.1 dX3_checkSet_0 rfl (lv_at hl 1 rfl) ?_
  refine lv_if_lt (tgt := 14) E.1.1 E.1.2.1 dX3_checkSet_1 (by decide) (fun hb1 => ?_) (fun hb1 => ?_)
  · skip
    exact q_thr E EX hlt ht hlocks hl () h rfl (cls := nIAE) (text := "the set contains something that is no argument") (ik := 80) (is := 166) (ic := 84) (by decide) (by decide) (by decide +kernel) t_fit c_1 c_2 (fun w9 h9 => E.1.2.2.2.2 w9 (List.mem_cons_of_mem _ (List.mem_append_right _ h9))) tb_nIAE tg_nIAE dX3_checkSet_14 dX3_checkSet_17 dX3_checkSet_18 dX3_checkSet_20 dX3_checkSet_23 (Nat.le_of_ble_eq_true rfl) (Nat.le_of_ble_eq_true rfl) (Nat.le_of_ble_eq_true rfl) (Nat.le_of_ble_eq_true rfl) (Nat.le_of_ble_eq_true rfl) (Nat.le_of_ble_eq_true rfl)
  · skip
    refine lv_iload_n E.1.1 E.1.2.1 dX3_checkSet_4 rfl (lv_at hl 1 rfl) ?_
    refine q_ic E 1 dX3_checkSet_5 (by decide) ?_
    refine lv_aload_n E.1.1 E.1.2.1 dX3_checkSet_6 rfl (lv_at hl 0 rfl) ?_
    refine q_get E h (C := RX3) (T := TX3) (N := 9) 3 rfl c_4 0 rfl 5 (by decide) c_3 (v := .int (nI cnt)) rfl dX3_checkSet_7 ?_
    refine q_shl1 E (by omega) dX3_checkSet_10 ?_
    refine lv_icmp_lt (tgt := 24) E.1.1 E.1.2.1 dX3_checkSet_11 (by decide) (fun hb11 => ?_) (fun hb11 => ?_)
    · skip
      exact absurd hz (fun q9 => q9.elim hb1 (fun h9 => absurd hb11 (Int32.not_lt.mpr h9)))
    · skip
      exact q_thr E EX hlt ht hlocks hl () h rfl (cls := nIAE) (text := "the set contains something that is no argument") (ik := 80) (is := 166) (ic := 84) (by decide) (by decide) (by decide +kernel) t_fit c_1 c_2 (fun w9 h9 => E.1.2.2.2.2 w9 (List.mem_cons_of_mem _ (List.mem_append_right _ h9))) tb_nIAE tg_nIAE dX3_checkSet_14 dX3_checkSet_17 dX3_checkSet_18 dX3_checkSet_20 dX3_checkSet_23 (Nat.le_of_ble_eq_true rfl) (Nat.le_of_ble_eq_true rfl) (Nat.le_of_ble_eq_true rfl) (Nat.le_of_ble_eq_true rfl) (Nat.le_of_ble_eq_true rfl) (Nat.le_of_ble_eq_true rfl)

set_option maxHeartbeats 4000000 in
set_option maxRecDepth 100000 in
theorem k_X3_checkWeight_bad (l : Launch) (g : GK) (z : Int32) (hz : z < nI 1 ∨ nI 9 < z) (hlt : l.stackTraces = false) : CT (S := Unit) l g yX3_checkWeight wsX3_checkWeight { frames := 6, cells := 1, slots := 6, locals := 82 } [.int z] [] nIAE (fun _ => []) := by
  refine q_ofT (own := RX3) (by decide) rfl rfl (Nat.le_of_ble_eq_true rfl) ?_
  intro p e s m below meth c A args E EX ht hlocks h ls hl
  have hl : lv_has ls 1 [(0, .int z)] := hl
  have c_1 := E.1.2.2.2.2 (.classLink RX3 80 nIAE) (by decide +kernel)
  have c_2 := E.1.2.2.2.2 (.initialized nIAE) (by decide +kernel)
  refine lv_iload_n E.1.1 E.1.2.1 dX3_checkWeight_0 rfl (lv_at hl 0 rfl) ?_
  refine q_ic E 1 dX3_checkWeight_1 (by decide) ?_
  refine lv_icmp_lt (tgt := 11) E.1.1 E.1.2.1 dX3_checkWeight_2 (by decide) (fun hb2 => ?_) (fun hb2 => ?_)
  · skip
    exact q_thr E EX hlt ht hlocks hl () h rfl (cls := nIAE) (text := "weight is not 1 to 9") (ik := 80) (is := 168) (ic := 84) (by decide) (by decide) (by decide +kernel) t_fit c_1 c_2 (fun w9 h9 => E.1.2.2.2.2 w9 (List.mem_cons_of_mem _ (List.mem_append_right _ h9))) tb_nIAE tg_nIAE dX3_checkWeight_11 dX3_checkWeight_14 dX3_checkWeight_15 dX3_checkWeight_17 dX3_checkWeight_20 (Nat.le_of_ble_eq_true rfl) (Nat.le_of_ble_eq_true rfl) (Nat.le_of_ble_eq_true rfl) (Nat.le_of_ble_eq_true rfl) (Nat.le_of_ble_eq_true rfl) (Nat.le_of_ble_eq_true rfl)
  · skip
    refine lv_iload_n E.1.1 E.1.2.1 dX3_checkWeight_5 rfl (lv_at hl 0 rfl) ?_
    refine q_bi E 9 dX3_checkWeight_6 (by decide) ?_
    refine lv_icmp_le (tgt := 21) E.1.1 E.1.2.1 dX3_checkWeight_8 (by decide) (fun hb8 => ?_) (fun hb8 => ?_)
    · skip
      exact absurd hz (fun q9 => q9.elim hb2 (fun h9 => absurd hb8 (Int32.not_le.mpr h9)))
    · skip
      exact q_thr E EX hlt ht hlocks hl () h rfl (cls := nIAE) (text := "weight is not 1 to 9") (ik := 80) (is := 168) (ic := 84) (by decide) (by decide) (by decide +kernel) t_fit c_1 c_2 (fun w9 h9 => E.1.2.2.2.2 w9 (List.mem_cons_of_mem _ (List.mem_append_right _ h9))) tb_nIAE tg_nIAE dX3_checkWeight_11 dX3_checkWeight_14 dX3_checkWeight_15 dX3_checkWeight_17 dX3_checkWeight_20 (Nat.le_of_ble_eq_true rfl) (Nat.le_of_ble_eq_true rfl) (Nat.le_of_ble_eq_true rfl) (Nat.le_of_ble_eq_true rfl) (Nat.le_of_ble_eq_true rfl) (Nat.le_of_ble_eq_true rfl)

set_option maxHeartbeats 4000000 in
set_option maxRecDepth 100000 in
theorem k_X3_checkKind_bad (l : Launch) (g : GK) (z : Int32) (hz : z < 0 ∨ nI 7 ≤ z) (hlt : l.stackTraces = false) : CT (S := Unit) l g yX3_checkKind wsX3_checkKind { frames := 6, cells := 1, slots := 6, locals := 82 } [.int z] [] nIOB (fun _ => []) := by
  refine q_ofT (own := RX3) (by decide) rfl rfl (Nat.le_of_ble_eq_true rfl) ?_
  intro p e s m below meth c A args E EX ht hlocks h ls hl
  have hl : lv_has ls 1 [(0, .int z)] := hl
  have c_1 := E.1.2.2.2.2 (.classLink RX3 126 nIOB) (by decide +kernel)
  have c_2 := E.1.2.2.2.2 (.initialized nIOB) (by decide +kernel)
  refine lv_iload_n E.1.1 E.1.2.1 dX3_checkKind_0 rfl (lv_at hl 0 rfl) ?_
  refine lv_if_lt (tgt := 10) E.1.1 E.1.2.1 dX3_checkKind_1 (by decide) (fun hb1 => ?_) (fun hb1 => ?_)
  · skip
    exact q_thr E EX hlt ht hlocks hl () h rfl (cls := nIOB) (text := "kind is not 0 to 6") (ik := 126) (is := 170) (ic := 130) (by decide) (by decide) (by decide +kernel) t_fit c_1 c_2 (fun w9 h9 => E.1.2.2.2.2 w9 (List.mem_cons_of_mem _ (List.mem_append_right _ h9))) tb_nIOB tg_nIOB dX3_checkKind_10 dX3_checkKind_13 dX3_checkKind_14 dX3_checkKind_16 dX3_checkKind_19 (Nat.le_of_ble_eq_true rfl) (Nat.le_of_ble_eq_true rfl) (Nat.le_of_ble_eq_true rfl) (Nat.le_of_ble_eq_true rfl) (Nat.le_of_ble_eq_true rfl) (Nat.le_of_ble_eq_true rfl)
  · skip
    refine lv_iload_n E.1.1 E.1.2.1 dX3_checkKind_4 rfl (lv_at hl 0 rfl) ?_
    refine q_bi E 7 dX3_checkKind_5 (by decide) ?_
    refine lv_icmp_lt (tgt := 20) E.1.1 E.1.2.1 dX3_checkKind_7 (by decide) (fun hb7 => ?_) (fun hb7 => ?_)
    · skip
      exact absurd hz (fun q9 => q9.elim hb1 (fun h9 => absurd hb7 (Int32.not_lt.mpr h9)))
    · skip
      exact q_thr E EX hlt ht hlocks hl () h rfl (cls := nIOB) (text := "kind is not 0 to 6") (ik := 126) (is := 170) (ic := 130) (by decide) (by decide) (by decide +kernel) t_fit c_1 c_2 (fun w9 h9 => E.1.2.2.2.2 w9 (List.mem_cons_of_mem _ (List.mem_append_right _ h9))) tb_nIOB tg_nIOB dX3_checkKind_10 dX3_checkKind_13 dX3_checkKind_14 dX3_checkKind_16 dX3_checkKind_19 (Nat.le_of_ble_eq_true rfl) (Nat.le_of_ble_eq_true rfl) (Nat.le_of_ble_eq_true rfl) (Nat.le_of_ble_eq_true rfl) (Nat.le_of_ble_eq_true rfl) (Nat.le_of_ble_eq_true rfl)

set_option maxHeartbeats 4000000 in
set_option maxRecDepth 100000 in
theorem k_X3_addArgument_bad1 (l : Launch) (g : GK) (d0 w1 w2 h0 s0 p0 : Nat) (cnt pr tol : Nat) (sd : Bool) (z : Int32) (hz : z < nI 1 ∨ nI 9 < z) (hlt : l.stackTraces = false) : CT (S := Unit) l g yX3_addArgument wsX3_addArgument { frames := 7, cells := 1, slots := 6, locals := 102 } [.ref d0, .int z] [(d0, .inr (3, [.ref w1, .ref w2, .ref h0, .ref s0, .ref p0, .int (nI cnt), .int (nI pr), .int (nI tol), .int (nI sd.toNat)]))] nIAE (fun _ => [(d0, .inr (3, [.ref w1, .ref w2, .ref h0, .ref s0, .ref p0, .int (nI cnt), .int (nI pr), .int (nI tol), .int (nI sd.toNat)]))]) := by
  refine q_ofT (own := RX3) (by decide) rfl rfl (Nat.le_of_ble_eq_true rfl) ?_
  intro p e s m below meth c A args E EX ht hlocks h ls hl
  have hl : lv_has ls 3 [(0, .ref d0), (1, .int z)] := hl
  have c_1 := cwS (R := { frames := 7, cells := 1, slots := 6, locals := 102 }) (rm := { frames := 6, cells := 1, slots := 6, locals := 82 }) (mc := 1) (ms := 6) 1 E.1.2.2.2.2 gX3_addArgument_X3_checkWeight rfl rfl rfl (by decide +kernel) ⟨(Nat.le_of_ble_eq_true rfl), (Nat.le_of_ble_eq_true rfl)⟩
  refine lv_iload_n E.1.1 E.1.2.1 dX3_addArgument_0 rfl (lv_at hl 1 rfl) ?_
  refine q_kT (S := Unit) (w2 := fun _ => [(d0, .inr (3, [.ref w1, .ref w2, .ref h0, .ref s0, .ref p0, .int (nI cnt), .int (nI pr), .int (nI tol), .int (nI sd.toNat)]))]) (wr := [(d0, .inr (3, [.ref w1, .ref w2, .ref h0, .ref s0, .ref p0, .int (nI cnt), .int (nI pr), .int (nI tol), .int (nI sd.toNat)]))]) E h [] [0] [0] (vx_runS (As := [.int z]) (rest := []) E.1 (k_X3_checkWeight_bad l g z (by assumption) hlt _) c_1 (q_preSX E EX h [] rfl rfl) rfl rfl hl.1 rfl (lv_room (Nat.le_of_ble_eq_true rfl)) dX3_addArgument_1 ⟨(Nat.le_of_ble_eq_true rfl), (Nat.le_of_ble_eq_true rfl)⟩) (fun _ _ _ h9 => h9) rfl rfl rfl (by decide) rfl (fun _ => rfl) (fun ce q9 _ H locs h hc9 hv9 hk9 => ?_)
  exact q_out () h ht hlocks hc9 hv9 hk9 (Nat.le_of_ble_eq_true rfl) (Nat.le_of_ble_eq_true rfl)

set_option maxHeartbeats 4000000 in
set_option maxRecDepth 100000 in
theorem k_X3_addArgument_bad2 (l : Launch) (g : GK) (d0 w1 w2 h0 s0 p0 : Nat) (cnt pr tol : Nat) (sd : Bool) (w : Nat) (hw : 1 ≤ w ∧ w ≤ 9) (hc2 : cnt = 12) (hlt : l.stackTraces = false) : CT (S := Unit) l g yX3_addArgument wsX3_addArgument { frames := 6, cells := 1, slots := 6, locals := 82 } [.ref d0, .int (nI w)] [(d0, .inr (3, [.ref w1, .ref w2, .ref h0, .ref s0, .ref p0, .int (nI cnt), .int (nI pr), .int (nI tol), .int (nI sd.toNat)]))] nISE (fun _ => [(d0, .inr (3, [.ref w1, .ref w2, .ref h0, .ref s0, .ref p0, .int (nI cnt), .int (nI pr), .int (nI tol), .int (nI sd.toNat)]))]) := by
  refine q_ofT (own := RX3) (by decide) rfl rfl (Nat.le_of_ble_eq_true rfl) ?_
  intro p e s m below meth c A args E EX ht hlocks h ls hl
  have hl : lv_has ls 3 [(0, .ref d0), (1, .int (nI w))] := hl
  have c_1 := cwS (R := { frames := 6, cells := 1, slots := 6, locals := 82 }) (rm := { frames := 0, cells := 0, slots := 0, locals := 0 }) (mc := 0) (ms := 0) 1 E.1.2.2.2.2 gX3_addArgument_X3_checkWeight rfl rfl rfl (by decide +kernel) ⟨Nat.le_of_ble_eq_true rfl, Nat.le_of_ble_eq_true rfl⟩
  have c_2 := E.1.2.2.2.2 (.fieldLink RX3 33 "DebateSolver" "count" "I") (by decide +kernel)
  have c_3 := (by decide +kernel : ∀ w ∈ wsX30, w ∈ wsX3_addArgument)
  have c_4 := E.1.2.2.2.2 (.classLink RX3 51 nISE) (by decide +kernel)
  have c_5 := E.1.2.2.2.2 (.initialized nISE) (by decide +kernel)
  refine lv_iload_n E.1.1 E.1.2.1 dX3_addArgument_0 rfl (lv_at hl 1 rfl) ?_
  refine q_kv (w2 := fun _ => [(d0, .inr (3, [.ref w1, .ref w2, .ref h0, .ref s0, .ref p0, .int (nI cnt), .int (nI pr), .int (nI tol), .int (nI sd.toNat)]))]) (wr := [(d0, .inr (3, [.ref w1, .ref w2, .ref h0, .ref s0, .ref p0, .int (nI cnt), .int (nI pr), .int (nI tol), .int (nI sd.toNat)]))]) E h [] [0] [0] (va_runS (As := [.int (nI w)]) (rest := []) E.1 (k_X3_checkWeight l g w (by omega) _) c_1 (q_preS E h [] rfl rfl) rfl rfl hl.1 rfl (lv_room (Nat.le_of_ble_eq_true rfl)) dX3_addArgument_1 ⟨Nat.zero_le _, Nat.zero_le _⟩) rfl rfl rfl (by decide) rfl (fun _ => rfl) (fun _ H locs _ h => ?_)
  refine lv_aload_n E.1.1 E.1.2.1 dX3_addArgument_4 rfl (lv_at hl 0 rfl) ?_
  refine q_get E h (C := RX3) (T := TX3) (N := 9) 3 rfl c_3 0 rfl 5 (by decide) c_2 (v := .int (nI cnt)) rfl dX3_addArgument_5 ?_
  refine q_bi E 12 dX3_addArgument_8 (by decide) ?_
  refine q_lt E (tgt := 23) (by omega) (by omega) dX3_addArgument_10 (by decide) (fun hb10 => ?_) (fun hb10 => ?_)
  · skip
    exact absurd hb10 (by omega)
  · skip
    exact q_thr E EX hlt ht hlocks hl () h rfl (cls := nISE) (text := "there are 12 arguments") (ik := 51) (is := 53) (ic := 55) (by decide) (by decide) (by decide +kernel) t_fit c_4 c_5 (fun w9 h9 => E.1.2.2.2.2 w9 (List.mem_cons_of_mem _ (List.mem_append_left _ (List.mem_append_right _ h9)))) tb_nISE tg_nISE dX3_addArgument_13 dX3_addArgument_16 dX3_addArgument_17 dX3_addArgument_19 dX3_addArgument_22 (Nat.le_of_ble_eq_true rfl) (Nat.le_of_ble_eq_true rfl) (Nat.le_of_ble_eq_true rfl) (Nat.le_of_ble_eq_true rfl) (Nat.le_of_ble_eq_true rfl) (Nat.le_of_ble_eq_true rfl)

set_option maxHeartbeats 4000000 in
set_option maxRecDepth 100000 in
theorem k_X3_setWeight_bad1 (l : Launch) (g : GK) (d0 w1 w2 h0 s0 p0 : Nat) (cnt pr tol : Nat) (sd : Bool) (z y : Int32) (hz : z < 0 ∨ nI cnt ≤ z) (hlt : l.stackTraces = false) : CT (S := Unit) l g yX3_setWeight wsX3_setWeight { frames := 7, cells := 1, slots := 6, locals := 103 } [.ref d0, .int z, .int y] [(d0, .inr (3, [.ref w1, .ref w2, .ref h0, .ref s0, .ref p0, .int (nI cnt), .int (nI pr), .int (nI tol), .int (nI sd.toNat)]))] nIOB (fun _ => [(d0, .inr (3, [.ref w1, .ref w2, .ref h0, .ref s0, .ref p0, .int (nI cnt), .int (nI pr), .int (nI tol), .int (nI sd.toNat)]))]) := by
  refine q_ofT (own := RX3) (by decide) rfl rfl (Nat.le_of_ble_eq_true rfl) ?_
  intro p e s m below meth c A args E EX ht hlocks h ls hl
  have hl : lv_has ls 4 [(0, .ref d0), (1, .int z), (2, .int y)] := hl
  have c_1 := cwV (R := { frames := 7, cells := 1, slots := 6, locals := 103 }) (rm := { frames := 6, cells := 1, slots := 6, locals := 82 }) (mc := 1) (ms := 6) 1 E.1.2.2.2.2 gX3_setWeight_X3_checkArgument rfl rfl rfl (by decide +kernel) ⟨(Nat.le_of_ble_eq_true rfl), (Nat.le_of_ble_eq_true rfl)⟩
  refine lv_aload_n E.1.1 E.1.2.1 dX3_setWeight_0 rfl (lv_at hl 0 rfl) ?_
  refine lv_iload_n E.1.1 E.1.2.1 dX3_setWeight_1 rfl (lv_at hl 1 rfl) ?_
  refine q_kT (S := Unit) (w2 := fun _ => [(d0, .inr (3, [.ref w1, .ref w2, .ref h0, .ref s0, .ref p0, .int (nI cnt), .int (nI pr), .int (nI tol), .int (nI sd.toNat)]))]) (wr := []) E h [0] [] [0] (vx_runV (As := [.int z]) (rest := []) E.1 (k_X3_checkArgument_bad l g d0 w1 w2 h0 s0 p0 cnt pr tol sd z (by assumption) hlt _) c_1 (q_preVX E EX h [0] rfl rfl (C := RX3) (T := TX3) (N := 9) 3 rfl 0 rfl) rfl rfl hl.1 rfl (lv_room (Nat.le_of_ble_eq_true rfl)) dX3_setWeight_2 ⟨(Nat.le_of_ble_eq_true rfl), (Nat.le_of_ble_eq_true rfl)⟩) (fun _ _ _ h9 => h9) rfl rfl rfl (by decide) rfl (fun _ => rfl) (fun ce q9 _ H locs h hc9 hv9 hk9 => ?_)
  exact q_out () h ht hlocks hc9 hv9 hk9 (Nat.le_of_ble_eq_true rfl) (Nat.le_of_ble_eq_true rfl)

set_option maxHeartbeats 4000000 in
set_option maxRecDepth 100000 in
theorem k_X3_setWeight_bad2 (l : Launch) (g : GK) (d0 w1 w2 h0 s0 p0 : Nat) (cnt pr tol : Nat) (sd : Bool) (a : Nat) (y : Int32) (hcnt : cnt ≤ 12) (ha : a < cnt) (hy : y < nI 1 ∨ nI 9 < y) (hlt : l.stackTraces = false) : CT (S := Unit) l g yX3_setWeight wsX3_setWeight { frames := 7, cells := 1, slots := 6, locals := 102 } [.ref d0, .int (nI a), .int y] [(d0, .inr (3, [.ref w1, .ref w2, .ref h0, .ref s0, .ref p0, .int (nI cnt), .int (nI pr), .int (nI tol), .int (nI sd.toNat)]))] nIAE (fun _ => [(d0, .inr (3, [.ref w1, .ref w2, .ref h0, .ref s0, .ref p0, .int (nI cnt), .int (nI pr), .int (nI tol), .int (nI sd.toNat)]))]) := by
  refine q_ofT (own := RX3) (by decide) rfl rfl (Nat.le_of_ble_eq_true rfl) ?_
  intro p e s m below meth c A args E EX ht hlocks h ls hl
  have hl : lv_has ls 4 [(0, .ref d0), (1, .int (nI a)), (2, .int y)] := hl
  have c_1 := cwV (R := { frames := 7, cells := 1, slots := 6, locals := 102 }) (rm := { frames := 0, cells := 0, slots := 0, locals := 0 }) (mc := 0) (ms := 0) 1 E.1.2.2.2.2 gX3_setWeight_X3_checkArgument rfl rfl rfl (by decide +kernel) ⟨Nat.le_of_ble_eq_true rfl, Nat.le_of_ble_eq_true rfl⟩
  have c_2 := cwS (R := { frames := 7, cells := 1, slots := 6, locals := 102 }) (rm := { frames := 6, cells := 1, slots := 6, locals := 82 }) (mc := 1) (ms := 6) 1 E.1.2.2.2.2 gX3_setWeight_X3_checkWeight rfl rfl rfl (by decide +kernel) ⟨(Nat.le_of_ble_eq_true rfl), (Nat.le_of_ble_eq_true rfl)⟩
  refine lv_aload_n E.1.1 E.1.2.1 dX3_setWeight_0 rfl (lv_at hl 0 rfl) ?_
  refine lv_iload_n E.1.1 E.1.2.1 dX3_setWeight_1 rfl (lv_at hl 1 rfl) ?_
  refine q_kv (w2 := fun _ => [(d0, .inr (3, [.ref w1, .ref w2, .ref h0, .ref s0, .ref p0, .int (nI cnt), .int (nI pr), .int (nI tol), .int (nI sd.toNat)]))]) (wr := []) E h [0] [] [0] (va_runV (As := [.int (nI a)]) (rest := []) E.1 (k_X3_checkArgument l g d0 w1 w2 h0 s0 p0 cnt pr tol sd a (by omega) (by omega) _) c_1 (q_preV E h [0] rfl rfl (C := RX3) (T := TX3) (N := 9) 3 rfl 0 rfl) rfl rfl hl.1 rfl (lv_room (Nat.le_of_ble_eq_true rfl)) dX3_setWeight_2 ⟨Nat.zero_le _, Nat.zero_le _⟩) rfl rfl rfl (by decide) rfl (fun _ => rfl) (fun _ H locs _ h => ?_)
  refine lv_iload_n E.1.1 E.1.2.1 dX3_setWeight_5 rfl (lv_at hl 2 rfl) ?_
  refine q_kT (S := Unit) (w2 := fun _ => [(d0, .inr (3, [.ref w1, .ref w2, .ref h0, .ref s0, .ref p0, .int (nI cnt), .int (nI pr), .int (nI tol), .int (nI sd.toNat)]))]) (wr := [(d0, .inr (3, [.ref w1, .ref w2, .ref h0, .ref s0, .ref p0, .int (nI cnt), .int (nI pr), .int (nI tol), .int (nI sd.toNat)]))]) E h [] [0] [0] (vx_runS (As := [.int y]) (rest := []) E.1 (k_X3_checkWeight_bad l g y (by assumption) hlt _) c_2 (q_preSX E EX h [] rfl rfl) rfl rfl hl.1 rfl (lv_room (Nat.le_of_ble_eq_true rfl)) dX3_setWeight_6 ⟨(Nat.le_of_ble_eq_true rfl), (Nat.le_of_ble_eq_true rfl)⟩) (fun _ _ _ h9 => h9) rfl rfl rfl (by decide) rfl (fun _ => rfl) (fun ce q9 _ H locs h hc9 hv9 hk9 => ?_)
  exact q_out () h ht hlocks hc9 hv9 hk9 (Nat.le_of_ble_eq_true rfl) (Nat.le_of_ble_eq_true rfl)

set_option maxHeartbeats 4000000 in
set_option maxRecDepth 100000 in
theorem k_X3_put_bad (l : Launch) (g : GK) (d0 w1 w2 h0 s0 p0 : Nat) (cnt pr tol : Nat) (sd : Bool) (z : Int32) (t : Bool) (hz : z < 0 ∨ nI cnt ≤ z) (hlt : l.stackTraces = false) : CT (S := Unit) l g yX3_put wsX3_put { frames := 7, cells := 1, slots := 6, locals := 103 } [.ref d0, .int z, .int (nI t.toNat)] [(d0, .inr (3, [.ref w1, .ref w2, .ref h0, .ref s0, .ref p0, .int (nI cnt), .int (nI pr), .int (nI tol), .int (nI sd.toNat)]))] nIOB (fun _ => [(d0, .inr (3, [.ref w1, .ref w2, .ref h0, .ref s0, .ref p0, .int (nI cnt), .int (nI pr), .int (nI tol), .int (nI sd.toNat)]))]) := by
  refine q_ofT (own := RX3) (by decide) rfl rfl (Nat.le_of_ble_eq_true rfl) ?_
  intro p e s m below meth c A args E EX ht hlocks h ls hl
  have hl : lv_has ls 4 [(0, .ref d0), (1, .int z), (2, .int (nI t.toNat))] := hl
  have c_1 := cwV (R := { frames := 7, cells := 1, slots := 6, locals := 103 }) (rm := { frames := 6, cells := 1, slots := 6, locals := 82 }) (mc := 1) (ms := 6) 1 E.1.2.2.2.2 gX3_put_X3_checkArgument rfl rfl rfl (by decide +kernel) ⟨(Nat.le_of_ble_eq_true rfl), (Nat.le_of_ble_eq_true rfl)⟩
  refine lv_aload_n E.1.1 E.1.2.1 dX3_put_0 rfl (lv_at hl 0 rfl) ?_
  refine lv_iload_n E.1.1 E.1.2.1 dX3_put_1 rfl (lv_at hl 1 rfl) ?_
  refine q_kT (S := Unit) (w2 := fun _ => [(d0, .inr (3, [.ref w1, .ref w2, .ref h0, .ref s0, .ref p0, .int (nI cnt), .int (nI pr), .int (nI tol), .int (nI sd.toNat)]))]) (wr := []) E h [0] [] [0] (vx_runV (As := [.int z]) (rest := []) E.1 (k_X3_checkArgument_bad l g d0 w1 w2 h0 s0 p0 cnt pr tol sd z (by assumption) hlt _) c_1 (q_preVX E EX h [0] rfl rfl (C := RX3) (T := TX3) (N := 9) 3 rfl 0 rfl) rfl rfl hl.1 rfl (lv_room (Nat.le_of_ble_eq_true rfl)) dX3_put_2 ⟨(Nat.le_of_ble_eq_true rfl), (Nat.le_of_ble_eq_true rfl)⟩) (fun _ _ _ h9 => h9) rfl rfl rfl (by decide) rfl (fun _ => rfl) (fun ce q9 _ H locs h hc9 hv9 hk9 => ?_)
  exact q_out () h ht hlocks hc9 hv9 hk9 (Nat.le_of_ble_eq_true rfl) (Nat.le_of_ble_eq_true rfl)

set_option maxHeartbeats 4000000 in
set_option maxRecDepth 100000 in
theorem k_X3_attack_bad1 (l : Launch) (g : GK) (d0 w1 w2 h0 s0 p0 : Nat) (cnt pr tol : Nat) (sd : Bool) (z y : Int32) (t : Bool) (hz : z < 0 ∨ nI cnt ≤ z) (hlt : l.stackTraces = false) : CT (S := Unit) l g yX3_attack wsX3_attack { frames := 7, cells := 1, slots := 6, locals := 103 } [.ref d0, .int z, .int y, .int (nI t.toNat)] [(d0, .inr (3, [.ref w1, .ref w2, .ref h0, .ref s0, .ref p0, .int (nI cnt), .int (nI pr), .int (nI tol), .int (nI sd.toNat)]))] nIOB (fun _ => [(d0, .inr (3, [.ref w1, .ref w2, .ref h0, .ref s0, .ref p0, .int (nI cnt), .int (nI pr), .int (nI tol), .int (nI sd.toNat)]))]) := by
  refine q_ofT (own := RX3) (by decide) rfl rfl (Nat.le_of_ble_eq_true rfl) ?_
  intro p e s m below meth c A args E EX ht hlocks h ls hl
  have hl : lv_has ls 5 [(0, .ref d0), (1, .int z), (2, .int y), (3, .int (nI t.toNat))] := hl
  have c_1 := cwV (R := { frames := 7, cells := 1, slots := 6, locals := 103 }) (rm := { frames := 6, cells := 1, slots := 6, locals := 82 }) (mc := 1) (ms := 6) 1 E.1.2.2.2.2 gX3_attack_X3_checkArgument rfl rfl rfl (by decide +kernel) ⟨(Nat.le_of_ble_eq_true rfl), (Nat.le_of_ble_eq_true rfl)⟩
  refine lv_aload_n E.1.1 E.1.2.1 dX3_attack_0 rfl (lv_at hl 0 rfl) ?_
  refine lv_iload_n E.1.1 E.1.2.1 dX3_attack_1 rfl (lv_at hl 1 rfl) ?_
  refine q_kT (S := Unit) (w2 := fun _ => [(d0, .inr (3, [.ref w1, .ref w2, .ref h0, .ref s0, .ref p0, .int (nI cnt), .int (nI pr), .int (nI tol), .int (nI sd.toNat)]))]) (wr := []) E h [0] [] [0] (vx_runV (As := [.int z]) (rest := []) E.1 (k_X3_checkArgument_bad l g d0 w1 w2 h0 s0 p0 cnt pr tol sd z (by assumption) hlt _) c_1 (q_preVX E EX h [0] rfl rfl (C := RX3) (T := TX3) (N := 9) 3 rfl 0 rfl) rfl rfl hl.1 rfl (lv_room (Nat.le_of_ble_eq_true rfl)) dX3_attack_2 ⟨(Nat.le_of_ble_eq_true rfl), (Nat.le_of_ble_eq_true rfl)⟩) (fun _ _ _ h9 => h9) rfl rfl rfl (by decide) rfl (fun _ => rfl) (fun ce q9 _ H locs h hc9 hv9 hk9 => ?_)
  exact q_out () h ht hlocks hc9 hv9 hk9 (Nat.le_of_ble_eq_true rfl) (Nat.le_of_ble_eq_true rfl)

set_option maxHeartbeats 4000000 in
set_option maxRecDepth 100000 in
theorem k_X3_attack_bad2 (l : Launch) (g : GK) (d0 w1 w2 h0 s0 p0 : Nat) (cnt pr tol : Nat) (sd : Bool) (f : Nat) (y : Int32) (t : Bool) (hcnt : cnt ≤ 12) (hf : f < cnt) (hy : y < 0 ∨ nI cnt ≤ y) (hlt : l.stackTraces = false) : CT (S := Unit) l g yX3_attack wsX3_attack { frames := 7, cells := 1, slots := 6, locals := 103 } [.ref d0, .int (nI f), .int y, .int (nI t.toNat)] [(d0, .inr (3, [.ref w1, .ref w2, .ref h0, .ref s0, .ref p0, .int (nI cnt), .int (nI pr), .int (nI tol), .int (nI sd.toNat)]))] nIOB (fun _ => [(d0, .inr (3, [.ref w1, .ref w2, .ref h0, .ref s0, .ref p0, .int (nI cnt), .int (nI pr), .int (nI tol), .int (nI sd.toNat)]))]) := by
  refine q_ofT (own := RX3) (by decide) rfl rfl (Nat.le_of_ble_eq_true rfl) ?_
  intro p e s m below meth c A args E EX ht hlocks h ls hl
  have hl : lv_has ls 5 [(0, .ref d0), (1, .int (nI f)), (2, .int y), (3, .int (nI t.toNat))] := hl
  have c_1 := cwV (R := { frames := 7, cells := 1, slots := 6, locals := 103 }) (rm := { frames := 0, cells := 0, slots := 0, locals := 0 }) (mc := 0) (ms := 0) 1 E.1.2.2.2.2 gX3_attack_X3_checkArgument rfl rfl rfl (by decide +kernel) ⟨Nat.le_of_ble_eq_true rfl, Nat.le_of_ble_eq_true rfl⟩
  have c_2 := cwV (R := { frames := 7, cells := 1, slots := 6, locals := 103 }) (rm := { frames := 6, cells := 1, slots := 6, locals := 82 }) (mc := 1) (ms := 6) 1 E.1.2.2.2.2 gX3_attack_X3_checkArgument rfl rfl rfl (by decide +kernel) ⟨(Nat.le_of_ble_eq_true rfl), (Nat.le_of_ble_eq_true rfl)⟩
  refine lv_aload_n E.1.1 E.1.2.1 dX3_attack_0 rfl (lv_at hl 0 rfl) ?_
  refine lv_iload_n E.1.1 E.1.2.1 dX3_attack_1 rfl (lv_at hl 1 rfl) ?_
  refine q_kv (w2 := fun _ => [(d0, .inr (3, [.ref w1, .ref w2, .ref h0, .ref s0, .ref p0, .int (nI cnt), .int (nI pr), .int (nI tol), .int (nI sd.toNat)]))]) (wr := []) E h [0] [] [0] (va_runV (As := [.int (nI f)]) (rest := []) E.1 (k_X3_checkArgument l g d0 w1 w2 h0 s0 p0 cnt pr tol sd f (by omega) (by omega) _) c_1 (q_preV E h [0] rfl rfl (C := RX3) (T := TX3) (N := 9) 3 rfl 0 rfl) rfl rfl hl.1 rfl (lv_room (Nat.le_of_ble_eq_true rfl)) dX3_attack_2 ⟨Nat.zero_le _, Nat.zero_le _⟩) rfl rfl rfl (by decide) rfl (fun _ => rfl) (fun _ H locs _ h => ?_)
  refine lv_aload_n E.1.1 E.1.2.1 dX3_attack_5 rfl (lv_at hl 0 rfl) ?_
  refine lv_iload_n E.1.1 E.1.2.1 dX3_attack_6 rfl (lv_at hl 2 rfl) ?_
  refine q_kT (S := Unit) (w2 := fun _ => [(d0, .inr (3, [.ref w1, .ref w2, .ref h0, .ref s0, .ref p0, .int (nI cnt), .int (nI pr), .int (nI tol), .int (nI sd.toNat)]))]) (wr := []) E h [0] [] [0] (vx_runV (As := [.int y]) (rest := []) E.1 (k_X3_checkArgument_bad l g d0 w1 w2 h0 s0 p0 cnt pr tol sd y (by assumption) hlt _) c_2 (q_preVX E EX h [0] rfl rfl (C := RX3) (T := TX3) (N := 9) 3 rfl 0 rfl) rfl rfl hl.1 rfl (lv_room (Nat.le_of_ble_eq_true rfl)) dX3_attack_7 ⟨(Nat.le_of_ble_eq_true rfl), (Nat.le_of_ble_eq_true rfl)⟩) (fun _ _ _ h9 => h9) rfl rfl rfl (by decide) rfl (fun _ => rfl) (fun ce q9 _ H locs h hc9 hv9 hk9 => ?_)
  exact q_out () h ht hlocks hc9 hv9 hk9 (Nat.le_of_ble_eq_true rfl) (Nat.le_of_ble_eq_true rfl)

set_option maxHeartbeats 4000000 in
set_option maxRecDepth 100000 in
theorem k_X3_setTolerance_bad (l : Launch) (g : GK) (d0 w1 w2 h0 s0 p0 : Nat) (cnt pr tol : Nat) (sd : Bool) (z : Int32) (hz : z < 0 ∨ nI 9 < z) (hlt : l.stackTraces = false) : CT (S := Unit) l g yX3_setTolerance wsX3_setTolerance { frames := 6, cells := 1, slots := 6, locals := 82 } [.ref d0, .int z] [(d0, .inr (3, [.ref w1, .ref w2, .ref h0, .ref s0, .ref p0, .int (nI cnt), .int (nI pr), .int (nI tol), .int (nI sd.toNat)]))] nIAE (fun _ => [(d0, .inr (3, [.ref w1, .ref w2, .ref h0, .ref s0, .ref p0, .int (nI cnt), .int (nI pr), .int (nI tol), .int (nI sd.toNat)]))]) := by
  refine q_ofT (own := RX3) (by decide) rfl rfl (Nat.le_of_ble_eq_true rfl) ?_
  intro p e s m below meth c A args E EX ht hlocks h ls hl
  have hl : lv_has ls 3 [(0, .ref d0), (1, .int z)] := hl
  have c_1 := E.1.2.2.2.2 (.classLink RX3 80 nIAE) (by decide +kernel)
  have c_2 := E.1.2.2.2.2 (.initialized nIAE) (by decide +kernel)
  refine lv_iload_n E.1.1 E.1.2.1 dX3_setTolerance_0 rfl (lv_at hl 1 rfl) ?_
  refine lv_if_lt (tgt := 10) E.1.1 E.1.2.1 dX3_setTolerance_1 (by decide) (fun hb1 => ?_) (fun hb1 => ?_)
  · skip
    exact q_thr E EX hlt ht hlocks hl () h rfl (cls := nIAE) (text := "tolerance is not 0 to 9") (ik := 80) (is := 82) (ic := 84) (by decide) (by decide) (by decide +kernel) t_fit c_1 c_2 (fun w9 h9 => E.1.2.2.2.2 w9 (List.mem_cons_of_mem _ (List.mem_append_right _ h9))) tb_nIAE tg_nIAE dX3_setTolerance_10 dX3_setTolerance_13 dX3_setTolerance_14 dX3_setTolerance_16 dX3_setTolerance_19 (Nat.le_of_ble_eq_true rfl) (Nat.le_of_ble_eq_true rfl) (Nat.le_of_ble_eq_true rfl) (Nat.le_of_ble_eq_true rfl) (Nat.le_of_ble_eq_true rfl) (Nat.le_of_ble_eq_true rfl)
  · skip
    refine lv_iload_n E.1.1 E.1.2.1 dX3_setTolerance_4 rfl (lv_at hl 1 rfl) ?_
    refine q_bi E 9 dX3_setTolerance_5 (by decide) ?_
    refine lv_icmp_le (tgt := 20) E.1.1 E.1.2.1 dX3_setTolerance_7 (by decide) (fun hb7 => ?_) (fun hb7 => ?_)
    · skip
      exact absurd hz (fun q9 => q9.elim hb1 (fun h9 => absurd hb7 (Int32.not_le.mpr h9)))
    · skip
      exact q_thr E EX hlt ht hlocks hl () h rfl (cls := nIAE) (text := "tolerance is not 0 to 9") (ik := 80) (is := 82) (ic := 84) (by decide) (by decide) (by decide +kernel) t_fit c_1 c_2 (fun w9 h9 => E.1.2.2.2.2 w9 (List.mem_cons_of_mem _ (List.mem_append_right _ h9))) tb_nIAE tg_nIAE dX3_setTolerance_10 dX3_setTolerance_13 dX3_setTolerance_14 dX3_setTolerance_16 dX3_setTolerance_19 (Nat.le_of_ble_eq_true rfl) (Nat.le_of_ble_eq_true rfl) (Nat.le_of_ble_eq_true rfl) (Nat.le_of_ble_eq_true rfl) (Nat.le_of_ble_eq_true rfl) (Nat.le_of_ble_eq_true rfl)

set_option maxHeartbeats 4000000 in
set_option maxRecDepth 100000 in
theorem k_X3_attackers_bad (l : Launch) (g : GK) (d0 w1 w2 h0 s0 p0 : Nat) (cnt pr tol : Nat) (sd : Bool) (z : Int32) (hz : z < 0 ∨ nI cnt ≤ z) (hlt : l.stackTraces = false) : CT (S := Unit) l g yX3_attackers wsX3_attackers { frames := 7, cells := 1, slots := 6, locals := 103 } [.ref d0, .int z] [(d0, .inr (3, [.ref w1, .ref w2, .ref h0, .ref s0, .ref p0, .int (nI cnt), .int (nI pr), .int (nI tol), .int (nI sd.toNat)]))] nIOB (fun _ => [(d0, .inr (3, [.ref w1, .ref w2, .ref h0, .ref s0, .ref p0, .int (nI cnt), .int (nI pr), .int (nI tol), .int (nI sd.toNat)]))]) := by
  refine q_ofT (own := RX3) (by decide) rfl rfl (Nat.le_of_ble_eq_true rfl) ?_
  intro p e s m below meth c A args E EX ht hlocks h ls hl
  have hl : lv_has ls 2 [(0, .ref d0), (1, .int z)] := hl
  have c_1 := cwV (R := { frames := 7, cells := 1, slots := 6, locals := 103 }) (rm := { frames := 6, cells := 1, slots := 6, locals := 82 }) (mc := 1) (ms := 6) 1 E.1.2.2.2.2 gX3_attackers_X3_checkArgument rfl rfl rfl (by decide +kernel) ⟨(Nat.le_of_ble_eq_true rfl), (Nat.le_of_ble_eq_true rfl)⟩
  refine lv_aload_n E.1.1 E.1.2.1 dX3_attackers_0 rfl (lv_at hl 0 rfl) ?_
  refine lv_iload_n E.1.1 E.1.2.1 dX3_attackers_1 rfl (lv_at hl 1 rfl) ?_
  refine q_kT (S := Unit) (w2 := fun _ => [(d0, .inr (3, [.ref w1, .ref w2, .ref h0, .ref s0, .ref p0, .int (nI cnt), .int (nI pr), .int (nI tol), .int (nI sd.toNat)]))]) (wr := []) E h [0] [] [0] (vx_runV (As := [.int z]) (rest := []) E.1 (k_X3_checkArgument_bad l g d0 w1 w2 h0 s0 p0 cnt pr tol sd z (by assumption) hlt _) c_1 (q_preVX E EX h [0] rfl rfl (C := RX3) (T := TX3) (N := 9) 3 rfl 0 rfl) rfl rfl hl.1 rfl (lv_room (Nat.le_of_ble_eq_true rfl)) dX3_attackers_2 ⟨(Nat.le_of_ble_eq_true rfl), (Nat.le_of_ble_eq_true rfl)⟩) (fun _ _ _ h9 => h9) rfl rfl rfl (by decide) rfl (fun _ => rfl) (fun ce q9 _ H locs h hc9 hv9 hk9 => ?_)
  exact q_out () h ht hlocks hc9 hv9 hk9 (Nat.le_of_ble_eq_true rfl) (Nat.le_of_ble_eq_true rfl)

set_option maxHeartbeats 4000000 in
set_option maxRecDepth 100000 in
theorem k_X3_attacked_bad (l : Launch) (g : GK) (d0 w1 w2 h0 s0 p0 : Nat) (cnt pr tol : Nat) (sd : Bool) (z : Int32) (hz : z < 0 ∨ nI cnt ≤ z) (hlt : l.stackTraces = false) : CT (S := Unit) l g yX3_attacked wsX3_attacked { frames := 7, cells := 1, slots := 6, locals := 103 } [.ref d0, .int z] [(d0, .inr (3, [.ref w1, .ref w2, .ref h0, .ref s0, .ref p0, .int (nI cnt), .int (nI pr), .int (nI tol), .int (nI sd.toNat)]))] nIOB (fun _ => [(d0, .inr (3, [.ref w1, .ref w2, .ref h0, .ref s0, .ref p0, .int (nI cnt), .int (nI pr), .int (nI tol), .int (nI sd.toNat)]))]) := by
  refine q_ofT (own := RX3) (by decide) rfl rfl (Nat.le_of_ble_eq_true rfl) ?_
  intro p e s m below meth c A args E EX ht hlocks h ls hl
  have hl : lv_has ls 2 [(0, .ref d0), (1, .int z)] := hl
  have c_1 := cwV (R := { frames := 7, cells := 1, slots := 6, locals := 103 }) (rm := { frames := 6, cells := 1, slots := 6, locals := 82 }) (mc := 1) (ms := 6) 1 E.1.2.2.2.2 gX3_attacked_X3_checkArgument rfl rfl rfl (by decide +kernel) ⟨(Nat.le_of_ble_eq_true rfl), (Nat.le_of_ble_eq_true rfl)⟩
  refine lv_aload_n E.1.1 E.1.2.1 dX3_attacked_0 rfl (lv_at hl 0 rfl) ?_
  refine lv_iload_n E.1.1 E.1.2.1 dX3_attacked_1 rfl (lv_at hl 1 rfl) ?_
  refine q_kT (S := Unit) (w2 := fun _ => [(d0, .inr (3, [.ref w1, .ref w2, .ref h0, .ref s0, .ref p0, .int (nI cnt), .int (nI pr), .int (nI tol), .int (nI sd.toNat)]))]) (wr := []) E h [0] [] [0] (vx_runV (As := [.int z]) (rest := []) E.1 (k_X3_checkArgument_bad l g d0 w1 w2 h0 s0 p0 cnt pr tol sd z (by assumption) hlt _) c_1 (q_preVX E EX h [0] rfl rfl (C := RX3) (T := TX3) (N := 9) 3 rfl 0 rfl) rfl rfl hl.1 rfl (lv_room (Nat.le_of_ble_eq_true rfl)) dX3_attacked_2 ⟨(Nat.le_of_ble_eq_true rfl), (Nat.le_of_ble_eq_true rfl)⟩) (fun _ _ _ h9 => h9) rfl rfl rfl (by decide) rfl (fun _ => rfl) (fun ce q9 _ H locs h hc9 hv9 hk9 => ?_)
  exact q_out () h ht hlocks hc9 hv9 hk9 (Nat.le_of_ble_eq_true rfl) (Nat.le_of_ble_eq_true rfl)

set_option maxHeartbeats 4000000 in
set_option maxRecDepth 100000 in
theorem k_X3_support_bad (l : Launch) (g : GK) (d0 w1 w2 h0 s0 p0 : Nat) (cnt pr tol : Nat) (sd : Bool) (z : Int32) (hz : z < 0 ∨ nI cnt ≤ z) (hlt : l.stackTraces = false) : CT (S := Unit) l g yX3_support wsX3_support { frames := 7, cells := 1, slots := 6, locals := 103 } [.ref d0, .int z] [(d0, .inr (3, [.ref w1, .ref w2, .ref h0, .ref s0, .ref p0, .int (nI cnt), .int (nI pr), .int (nI tol), .int (nI sd.toNat)]))] nIOB (fun _ => [(d0, .inr (3, [.ref w1, .ref w2, .ref h0, .ref s0, .ref p0, .int (nI cnt), .int (nI pr), .int (nI tol), .int (nI sd.toNat)]))]) := by
  refine q_ofT (own := RX3) (by decide) rfl rfl (Nat.le_of_ble_eq_true rfl) ?_
  intro p e s m below meth c A args E EX ht hlocks h ls hl
  have hl : lv_has ls 5 [(0, .ref d0), (1, .int z)] := hl
  have c_1 := cwV (R := { frames := 7, cells := 1, slots := 6, locals := 103 }) (rm := { frames := 6, cells := 1, slots := 6, locals := 82 }) (mc := 1) (ms := 6) 1 E.1.2.2.2.2 gX3_support_X3_checkArgument rfl rfl rfl (by decide +kernel) ⟨(Nat.le_of_ble_eq_true rfl), (Nat.le_of_ble_eq_true rfl)⟩
  refine lv_aload_n E.1.1 E.1.2.1 dX3_support_0 rfl (lv_at hl 0 rfl) ?_
  refine lv_iload_n E.1.1 E.1.2.1 dX3_support_1 rfl (lv_at hl 1 rfl) ?_
  refine q_kT (S := Unit) (w2 := fun _ => [(d0, .inr (3, [.ref w1, .ref w2, .ref h0, .ref s0, .ref p0, .int (nI cnt), .int (nI pr), .int (nI tol), .int (nI sd.toNat)]))]) (wr := []) E h [0] [] [0] (vx_runV (As := [.int z]) (rest := []) E.1 (k_X3_checkArgument_bad l g d0 w1 w2 h0 s0 p0 cnt pr tol sd z (by assumption) hlt _) c_1 (q_preVX E EX h [0] rfl rfl (C := RX3) (T := TX3) (N := 9) 3 rfl 0 rfl) rfl rfl hl.1 rfl (lv_room (Nat.le_of_ble_eq_true rfl)) dX3_support_2 ⟨(Nat.le_of_ble_eq_true rfl), (Nat.le_of_ble_eq_true rfl)⟩) (fun _ _ _ h9 => h9) rfl rfl rfl (by decide) rfl (fun _ => rfl) (fun ce q9 _ H locs h hc9 hv9 hk9 => ?_)
  exact q_out () h ht hlocks hc9 hv9 hk9 (Nat.le_of_ble_eq_true rfl) (Nat.le_of_ble_eq_true rfl)

set_option maxHeartbeats 4000000 in
set_option maxRecDepth 100000 in
theorem k_X3_round_bad (l : Launch) (g : GK) (d0 w1 w2 h0 s0 p0 : Nat) (cnt pr tol : Nat) (sd : Bool) (z : Int32) (hz : z < 0 ∨ nI cnt ≤ z) (hlt : l.stackTraces = false) : CT (S := Unit) l g yX3_round wsX3_round { frames := 7, cells := 1, slots := 6, locals := 103 } [.ref d0, .int z] [(d0, .inr (3, [.ref w1, .ref w2, .ref h0, .ref s0, .ref p0, .int (nI cnt), .int (nI pr), .int (nI tol), .int (nI sd.toNat)]))] nIOB (fun _ => [(d0, .inr (3, [.ref w1, .ref w2, .ref h0, .ref s0, .ref p0, .int (nI cnt), .int (nI pr), .int (nI tol), .int (nI sd.toNat)]))]) := by
  refine q_ofT (own := RX3) (by decide) rfl rfl (Nat.le_of_ble_eq_true rfl) ?_
  intro p e s m below meth c A args E EX ht hlocks h ls hl
  have hl : lv_has ls 4 [(0, .ref d0), (1, .int z)] := hl
  have c_1 := cwV (R := { frames := 7, cells := 1, slots := 6, locals := 103 }) (rm := { frames := 6, cells := 1, slots := 6, locals := 82 }) (mc := 1) (ms := 6) 1 E.1.2.2.2.2 gX3_round_X3_checkArgument rfl rfl rfl (by decide +kernel) ⟨(Nat.le_of_ble_eq_true rfl), (Nat.le_of_ble_eq_true rfl)⟩
  refine lv_aload_n E.1.1 E.1.2.1 dX3_round_0 rfl (lv_at hl 0 rfl) ?_
  refine lv_iload_n E.1.1 E.1.2.1 dX3_round_1 rfl (lv_at hl 1 rfl) ?_
  refine q_kT (S := Unit) (w2 := fun _ => [(d0, .inr (3, [.ref w1, .ref w2, .ref h0, .ref s0, .ref p0, .int (nI cnt), .int (nI pr), .int (nI tol), .int (nI sd.toNat)]))]) (wr := []) E h [0] [] [0] (vx_runV (As := [.int z]) (rest := []) E.1 (k_X3_checkArgument_bad l g d0 w1 w2 h0 s0 p0 cnt pr tol sd z (by assumption) hlt _) c_1 (q_preVX E EX h [0] rfl rfl (C := RX3) (T := TX3) (N := 9) 3 rfl 0 rfl) rfl rfl hl.1 rfl (lv_room (Nat.le_of_ble_eq_true rfl)) dX3_round_2 ⟨(Nat.le_of_ble_eq_true rfl), (Nat.le_of_ble_eq_true rfl)⟩) (fun _ _ _ h9 => h9) rfl rfl rfl (by decide) rfl (fun _ => rfl) (fun ce q9 _ H locs h hc9 hv9 hk9 => ?_)
  exact q_out () h ht hlocks hc9 hv9 hk9 (Nat.le_of_ble_eq_true rfl) (Nat.le_of_ble_eq_true rfl)

set_option maxHeartbeats 4000000 in
set_option maxRecDepth 100000 in
theorem k_X3_wins_bad (l : Launch) (g : GK) (d0 w1 w2 h0 s0 p0 : Nat) (cnt pr tol : Nat) (sd : Bool) (z : Int32) (hz : z < 0 ∨ nI cnt ≤ z) (hlt : l.stackTraces = false) : CT (S := Unit) l g yX3_wins wsX3_wins { frames := 7, cells := 1, slots := 6, locals := 103 } [.ref d0, .int z] [(d0, .inr (3, [.ref w1, .ref w2, .ref h0, .ref s0, .ref p0, .int (nI cnt), .int (nI pr), .int (nI tol), .int (nI sd.toNat)]))] nIOB (fun _ => [(d0, .inr (3, [.ref w1, .ref w2, .ref h0, .ref s0, .ref p0, .int (nI cnt), .int (nI pr), .int (nI tol), .int (nI sd.toNat)]))]) := by
  refine q_ofT (own := RX3) (by decide) rfl rfl (Nat.le_of_ble_eq_true rfl) ?_
  intro p e s m below meth c A args E EX ht hlocks h ls hl
  have hl : lv_has ls 2 [(0, .ref d0), (1, .int z)] := hl
  have c_1 := cwV (R := { frames := 7, cells := 1, slots := 6, locals := 103 }) (rm := { frames := 6, cells := 1, slots := 6, locals := 82 }) (mc := 1) (ms := 6) 1 E.1.2.2.2.2 gX3_wins_X3_checkArgument rfl rfl rfl (by decide +kernel) ⟨(Nat.le_of_ble_eq_true rfl), (Nat.le_of_ble_eq_true rfl)⟩
  refine lv_aload_n E.1.1 E.1.2.1 dX3_wins_0 rfl (lv_at hl 0 rfl) ?_
  refine lv_iload_n E.1.1 E.1.2.1 dX3_wins_1 rfl (lv_at hl 1 rfl) ?_
  refine q_kT (S := Unit) (w2 := fun _ => [(d0, .inr (3, [.ref w1, .ref w2, .ref h0, .ref s0, .ref p0, .int (nI cnt), .int (nI pr), .int (nI tol), .int (nI sd.toNat)]))]) (wr := []) E h [0] [] [0] (vx_runV (As := [.int z]) (rest := []) E.1 (k_X3_checkArgument_bad l g d0 w1 w2 h0 s0 p0 cnt pr tol sd z (by assumption) hlt _) c_1 (q_preVX E EX h [0] rfl rfl (C := RX3) (T := TX3) (N := 9) 3 rfl 0 rfl) rfl rfl hl.1 rfl (lv_room (Nat.le_of_ble_eq_true rfl)) dX3_wins_2 ⟨(Nat.le_of_ble_eq_true rfl), (Nat.le_of_ble_eq_true rfl)⟩) (fun _ _ _ h9 => h9) rfl rfl rfl (by decide) rfl (fun _ => rfl) (fun ce q9 _ H locs h hc9 hv9 hk9 => ?_)
  exact q_out () h ht hlocks hc9 hv9 hk9 (Nat.le_of_ble_eq_true rfl) (Nat.le_of_ble_eq_true rfl)

set_option maxHeartbeats 4000000 in
set_option maxRecDepth 100000 in
theorem k_X3_silence_bad (l : Launch) (g : GK) (d0 w1 w2 h0 s0 p0 : Nat) (cnt pr tol : Nat) (sd : Bool) (z : Int32) (hz : z < 0 ∨ nI cnt ≤ z) (hlt : l.stackTraces = false) : CT (S := Unit) l g yX3_silence wsX3_silence { frames := 7, cells := 1, slots := 6, locals := 103 } [.ref d0, .int z] [(d0, .inr (3, [.ref w1, .ref w2, .ref h0, .ref s0, .ref p0, .int (nI cnt), .int (nI pr), .int (nI tol), .int (nI sd.toNat)]))] nIOB (fun _ => [(d0, .inr (3, [.ref w1, .ref w2, .ref h0, .ref s0, .ref p0, .int (nI cnt), .int (nI pr), .int (nI tol), .int (nI sd.toNat)]))]) := by
  refine q_ofT (own := RX3) (by decide) rfl rfl (Nat.le_of_ble_eq_true rfl) ?_
  intro p e s m below meth c A args E EX ht hlocks h ls hl
  have hl : lv_has ls 7 [(0, .ref d0), (1, .int z)] := hl
  have c_1 := cwV (R := { frames := 7, cells := 1, slots := 6, locals := 103 }) (rm := { frames := 6, cells := 1, slots := 6, locals := 82 }) (mc := 1) (ms := 6) 1 E.1.2.2.2.2 gX3_silence_X3_checkArgument rfl rfl rfl (by decide +kernel) ⟨(Nat.le_of_ble_eq_true rfl), (Nat.le_of_ble_eq_true rfl)⟩
  refine lv_aload_n E.1.1 E.1.2.1 dX3_silence_0 rfl (lv_at hl 0 rfl) ?_
  refine lv_iload_n E.1.1 E.1.2.1 dX3_silence_1 rfl (lv_at hl 1 rfl) ?_
  refine q_kT (S := Unit) (w2 := fun _ => [(d0, .inr (3, [.ref w1, .ref w2, .ref h0, .ref s0, .ref p0, .int (nI cnt), .int (nI pr), .int (nI tol), .int (nI sd.toNat)]))]) (wr := []) E h [0] [] [0] (vx_runV (As := [.int z]) (rest := []) E.1 (k_X3_checkArgument_bad l g d0 w1 w2 h0 s0 p0 cnt pr tol sd z (by assumption) hlt _) c_1 (q_preVX E EX h [0] rfl rfl (C := RX3) (T := TX3) (N := 9) 3 rfl 0 rfl) rfl rfl hl.1 rfl (lv_room (Nat.le_of_ble_eq_true rfl)) dX3_silence_2 ⟨(Nat.le_of_ble_eq_true rfl), (Nat.le_of_ble_eq_true rfl)⟩) (fun _ _ _ h9 => h9) rfl rfl rfl (by decide) rfl (fun _ => rfl) (fun ce q9 _ H locs h hc9 hv9 hk9 => ?_)
  exact q_out () h ht hlocks hc9 hv9 hk9 (Nat.le_of_ble_eq_true rfl) (Nat.le_of_ble_eq_true rfl)

set_option maxHeartbeats 4000000 in
set_option maxRecDepth 100000 in
theorem k_X3_tolerable_bad (l : Launch) (g : GK) (d0 w1 w2 h0 s0 p0 : Nat) (cnt pr tol : Nat) (sd : Bool) (z : Int32) (hz : z < 0 ∨ nI cnt ≤ z) (hlt : l.stackTraces = false) : CT (S := Unit) l g yX3_tolerable wsX3_tolerable { frames := 7, cells := 1, slots := 6, locals := 103 } [.ref d0, .int z] [(d0, .inr (3, [.ref w1, .ref w2, .ref h0, .ref s0, .ref p0, .int (nI cnt), .int (nI pr), .int (nI tol), .int (nI sd.toNat)]))] nIOB (fun _ => [(d0, .inr (3, [.ref w1, .ref w2, .ref h0, .ref s0, .ref p0, .int (nI cnt), .int (nI pr), .int (nI tol), .int (nI sd.toNat)]))]) := by
  refine q_ofT (own := RX3) (by decide) rfl rfl (Nat.le_of_ble_eq_true rfl) ?_
  intro p e s m below meth c A args E EX ht hlocks h ls hl
  have hl : lv_has ls 3 [(0, .ref d0), (1, .int z)] := hl
  have c_1 := cwV (R := { frames := 7, cells := 1, slots := 6, locals := 103 }) (rm := { frames := 6, cells := 1, slots := 6, locals := 82 }) (mc := 1) (ms := 6) 1 E.1.2.2.2.2 gX3_tolerable_X3_checkArgument rfl rfl rfl (by decide +kernel) ⟨(Nat.le_of_ble_eq_true rfl), (Nat.le_of_ble_eq_true rfl)⟩
  refine lv_aload_n E.1.1 E.1.2.1 dX3_tolerable_0 rfl (lv_at hl 0 rfl) ?_
  refine lv_iload_n E.1.1 E.1.2.1 dX3_tolerable_1 rfl (lv_at hl 1 rfl) ?_
  refine q_kT (S := Unit) (w2 := fun _ => [(d0, .inr (3, [.ref w1, .ref w2, .ref h0, .ref s0, .ref p0, .int (nI cnt), .int (nI pr), .int (nI tol), .int (nI sd.toNat)]))]) (wr := []) E h [0] [] [0] (vx_runV (As := [.int z]) (rest := []) E.1 (k_X3_checkArgument_bad l g d0 w1 w2 h0 s0 p0 cnt pr tol sd z (by assumption) hlt _) c_1 (q_preVX E EX h [0] rfl rfl (C := RX3) (T := TX3) (N := 9) 3 rfl 0 rfl) rfl rfl hl.1 rfl (lv_room (Nat.le_of_ble_eq_true rfl)) dX3_tolerable_2 ⟨(Nat.le_of_ble_eq_true rfl), (Nat.le_of_ble_eq_true rfl)⟩) (fun _ _ _ h9 => h9) rfl rfl rfl (by decide) rfl (fun _ => rfl) (fun ce q9 _ H locs h hc9 hv9 hk9 => ?_)
  exact q_out () h ht hlocks hc9 hv9 hk9 (Nat.le_of_ble_eq_true rfl) (Nat.le_of_ble_eq_true rfl)

set_option maxHeartbeats 4000000 in
set_option maxRecDepth 100000 in
theorem k_X3_isFree_bad (l : Launch) (g : GK) (d0 w1 w2 h0 s0 p0 : Nat) (cnt pr tol : Nat) (sd : Bool) (z : Int32) (hcnt : cnt ≤ 12) (hz : z < 0 ∨ nI (2 ^ cnt) ≤ z) (hlt : l.stackTraces = false) : CT (S := Unit) l g yX3_isFree wsX3_isFree { frames := 7, cells := 1, slots := 6, locals := 103 } [.ref d0, .int z] [(d0, .inr (3, [.ref w1, .ref w2, .ref h0, .ref s0, .ref p0, .int (nI cnt), .int (nI pr), .int (nI tol), .int (nI sd.toNat)]))] nIAE (fun _ => [(d0, .inr (3, [.ref w1, .ref w2, .ref h0, .ref s0, .ref p0, .int (nI cnt), .int (nI pr), .int (nI tol), .int (nI sd.toNat)]))]) := by
  refine q_ofT (own := RX3) (by decide) rfl rfl (Nat.le_of_ble_eq_true rfl) ?_
  intro p e s m below meth c A args E EX ht hlocks h ls hl
  have hl : lv_has ls 2 [(0, .ref d0), (1, .int z)] := hl
  have c_1 := cwV (R := { frames := 7, cells := 1, slots := 6, locals := 103 }) (rm := { frames := 6, cells := 1, slots := 6, locals := 82 }) (mc := 1) (ms := 6) 1 E.1.2.2.2.2 gX3_isFree_X3_checkSet rfl rfl rfl (by decide +kernel) ⟨(Nat.le_of_ble_eq_true rfl), (Nat.le_of_ble_eq_true rfl)⟩
  refine lv_aload_n E.1.1 E.1.2.1 dX3_isFree_0 rfl (lv_at hl 0 rfl) ?_
  refine lv_iload_n E.1.1 E.1.2.1 dX3_isFree_1 rfl (lv_at hl 1 rfl) ?_
  refine q_kT (S := Unit) (w2 := fun _ => [(d0, .inr (3, [.ref w1, .ref w2, .ref h0, .ref s0, .ref p0, .int (nI cnt), .int (nI pr), .int (nI tol), .int (nI sd.toNat)]))]) (wr := []) E h [0] [] [0] (vx_runV (As := [.int z]) (rest := []) E.1 (k_X3_checkSet_bad l g d0 w1 w2 h0 s0 p0 cnt pr tol sd z (by assumption) (by assumption) hlt _) c_1 (q_preVX E EX h [0] rfl rfl (C := RX3) (T := TX3) (N := 9) 3 rfl 0 rfl) rfl rfl hl.1 rfl (lv_room (Nat.le_of_ble_eq_true rfl)) dX3_isFree_2 ⟨(Nat.le_of_ble_eq_true rfl), (Nat.le_of_ble_eq_true rfl)⟩) (fun _ _ _ h9 => h9) rfl rfl rfl (by decide) rfl (fun _ => rfl) (fun ce q9 _ H locs h hc9 hv9 hk9 => ?_)
  exact q_out () h ht hlocks hc9 hv9 hk9 (Nat.le_of_ble_eq_true rfl) (Nat.le_of_ble_eq_true rfl)

set_option maxHeartbeats 4000000 in
set_option maxRecDepth 100000 in
theorem k_X3_defended_bad (l : Launch) (g : GK) (d0 w1 w2 h0 s0 p0 : Nat) (cnt pr tol : Nat) (sd : Bool) (z : Int32) (hcnt : cnt ≤ 12) (hz : z < 0 ∨ nI (2 ^ cnt) ≤ z) (hlt : l.stackTraces = false) : CT (S := Unit) l g yX3_defended wsX3_defended { frames := 7, cells := 1, slots := 6, locals := 103 } [.ref d0, .int z] [(d0, .inr (3, [.ref w1, .ref w2, .ref h0, .ref s0, .ref p0, .int (nI cnt), .int (nI pr), .int (nI tol), .int (nI sd.toNat)]))] nIAE (fun _ => [(d0, .inr (3, [.ref w1, .ref w2, .ref h0, .ref s0, .ref p0, .int (nI cnt), .int (nI pr), .int (nI tol), .int (nI sd.toNat)]))]) := by
  refine q_ofT (own := RX3) (by decide) rfl rfl (Nat.le_of_ble_eq_true rfl) ?_
  intro p e s m below meth c A args E EX ht hlocks h ls hl
  have hl : lv_has ls 2 [(0, .ref d0), (1, .int z)] := hl
  have c_1 := cwV (R := { frames := 7, cells := 1, slots := 6, locals := 103 }) (rm := { frames := 6, cells := 1, slots := 6, locals := 82 }) (mc := 1) (ms := 6) 1 E.1.2.2.2.2 gX3_defended_X3_checkSet rfl rfl rfl (by decide +kernel) ⟨(Nat.le_of_ble_eq_true rfl), (Nat.le_of_ble_eq_true rfl)⟩
  refine lv_aload_n E.1.1 E.1.2.1 dX3_defended_0 rfl (lv_at hl 0 rfl) ?_
  refine lv_iload_n E.1.1 E.1.2.1 dX3_defended_1 rfl (lv_at hl 1 rfl) ?_
  refine q_kT (S := Unit) (w2 := fun _ => [(d0, .inr (3, [.ref w1, .ref w2, .ref h0, .ref s0, .ref p0, .int (nI cnt), .int (nI pr), .int (nI tol), .int (nI sd.toNat)]))]) (wr := []) E h [0] [] [0] (vx_runV (As := [.int z]) (rest := []) E.1 (k_X3_checkSet_bad l g d0 w1 w2 h0 s0 p0 cnt pr tol sd z (by assumption) (by assumption) hlt _) c_1 (q_preVX E EX h [0] rfl rfl (C := RX3) (T := TX3) (N := 9) 3 rfl 0 rfl) rfl rfl hl.1 rfl (lv_room (Nat.le_of_ble_eq_true rfl)) dX3_defended_2 ⟨(Nat.le_of_ble_eq_true rfl), (Nat.le_of_ble_eq_true rfl)⟩) (fun _ _ _ h9 => h9) rfl rfl rfl (by decide) rfl (fun _ => rfl) (fun ce q9 _ H locs h hc9 hv9 hk9 => ?_)
  exact q_out () h ht hlocks hc9 hv9 hk9 (Nat.le_of_ble_eq_true rfl) (Nat.le_of_ble_eq_true rfl)

set_option maxHeartbeats 4000000 in
set_option maxRecDepth 100000 in
theorem k_X3_isAdmissible_bad (l : Launch) (g : GK) (d0 w1 w2 h0 s0 p0 : Nat) (cnt pr tol : Nat) (sd : Bool) (z : Int32) (hcnt : cnt ≤ 12) (hz : z < 0 ∨ nI (2 ^ cnt) ≤ z) (hlt : l.stackTraces = false) : CT (S := Unit) l g yX3_isAdmissible wsX3_isAdmissible { frames := 7, cells := 1, slots := 6, locals := 103 } [.ref d0, .int z] [(d0, .inr (3, [.ref w1, .ref w2, .ref h0, .ref s0, .ref p0, .int (nI cnt), .int (nI pr), .int (nI tol), .int (nI sd.toNat)]))] nIAE (fun _ => [(d0, .inr (3, [.ref w1, .ref w2, .ref h0, .ref s0, .ref p0, .int (nI cnt), .int (nI pr), .int (nI tol), .int (nI sd.toNat)]))]) := by
  refine q_ofT (own := RX3) (by decide) rfl rfl (Nat.le_of_ble_eq_true rfl) ?_
  intro p e s m below meth c A args E EX ht hlocks h ls hl
  have hl : lv_has ls 3 [(0, .ref d0), (1, .int z)] := hl
  have c_1 := cwV (R := { frames := 7, cells := 1, slots := 6, locals := 103 }) (rm := { frames := 6, cells := 1, slots := 6, locals := 82 }) (mc := 1) (ms := 6) 1 E.1.2.2.2.2 gX3_isAdmissible_X3_checkSet rfl rfl rfl (by decide +kernel) ⟨(Nat.le_of_ble_eq_true rfl), (Nat.le_of_ble_eq_true rfl)⟩
  refine lv_aload_n E.1.1 E.1.2.1 dX3_isAdmissible_0 rfl (lv_at hl 0 rfl) ?_
  refine lv_iload_n E.1.1 E.1.2.1 dX3_isAdmissible_1 rfl (lv_at hl 1 rfl) ?_
  refine q_kT (S := Unit) (w2 := fun _ => [(d0, .inr (3, [.ref w1, .ref w2, .ref h0, .ref s0, .ref p0, .int (nI cnt), .int (nI pr), .int (nI tol), .int (nI sd.toNat)]))]) (wr := []) E h [0] [] [0] (vx_runV (As := [.int z]) (rest := []) E.1 (k_X3_checkSet_bad l g d0 w1 w2 h0 s0 p0 cnt pr tol sd z (by assumption) (by assumption) hlt _) c_1 (q_preVX E EX h [0] rfl rfl (C := RX3) (T := TX3) (N := 9) 3 rfl 0 rfl) rfl rfl hl.1 rfl (lv_room (Nat.le_of_ble_eq_true rfl)) dX3_isAdmissible_2 ⟨(Nat.le_of_ble_eq_true rfl), (Nat.le_of_ble_eq_true rfl)⟩) (fun _ _ _ h9 => h9) rfl rfl rfl (by decide) rfl (fun _ => rfl) (fun ce q9 _ H locs h hc9 hv9 hk9 => ?_)
  exact q_out () h ht hlocks hc9 hv9 hk9 (Nat.le_of_ble_eq_true rfl) (Nat.le_of_ble_eq_true rfl)

set_option maxHeartbeats 4000000 in
set_option maxRecDepth 100000 in
theorem k_X3_repair_bad (l : Launch) (g : GK) (d0 w1 w2 h0 s0 p0 : Nat) (cnt pr tol : Nat) (sd : Bool) (z : Int32) (hcnt : cnt ≤ 12) (hz : z < 0 ∨ nI (2 ^ cnt) ≤ z) (hlt : l.stackTraces = false) : CT (S := Unit) l g yX3_repair wsX3_repair { frames := 7, cells := 1, slots := 6, locals := 103 } [.ref d0, .int z] [(d0, .inr (3, [.ref w1, .ref w2, .ref h0, .ref s0, .ref p0, .int (nI cnt), .int (nI pr), .int (nI tol), .int (nI sd.toNat)]))] nIAE (fun _ => [(d0, .inr (3, [.ref w1, .ref w2, .ref h0, .ref s0, .ref p0, .int (nI cnt), .int (nI pr), .int (nI tol), .int (nI sd.toNat)]))]) := by
  refine q_ofT (own := RX3) (by decide) rfl rfl (Nat.le_of_ble_eq_true rfl) ?_
  intro p e s m below meth c A args E EX ht hlocks h ls hl
  have hl : lv_has ls 4 [(0, .ref d0), (1, .int z)] := hl
  have c_1 := cwV (R := { frames := 7, cells := 1, slots := 6, locals := 103 }) (rm := { frames := 6, cells := 1, slots := 6, locals := 82 }) (mc := 1) (ms := 6) 1 E.1.2.2.2.2 gX3_repair_X3_checkSet rfl rfl rfl (by decide +kernel) ⟨(Nat.le_of_ble_eq_true rfl), (Nat.le_of_ble_eq_true rfl)⟩
  refine lv_aload_n E.1.1 E.1.2.1 dX3_repair_0 rfl (lv_at hl 0 rfl) ?_
  refine lv_iload_n E.1.1 E.1.2.1 dX3_repair_1 rfl (lv_at hl 1 rfl) ?_
  refine q_kT (S := Unit) (w2 := fun _ => [(d0, .inr (3, [.ref w1, .ref w2, .ref h0, .ref s0, .ref p0, .int (nI cnt), .int (nI pr), .int (nI tol), .int (nI sd.toNat)]))]) (wr := []) E h [0] [] [0] (vx_runV (As := [.int z]) (rest := []) E.1 (k_X3_checkSet_bad l g d0 w1 w2 h0 s0 p0 cnt pr tol sd z (by assumption) (by assumption) hlt _) c_1 (q_preVX E EX h [0] rfl rfl (C := RX3) (T := TX3) (N := 9) 3 rfl 0 rfl) rfl rfl hl.1 rfl (lv_room (Nat.le_of_ble_eq_true rfl)) dX3_repair_2 ⟨(Nat.le_of_ble_eq_true rfl), (Nat.le_of_ble_eq_true rfl)⟩) (fun _ _ _ h9 => h9) rfl rfl rfl (by decide) rfl (fun _ => rfl) (fun ce q9 _ H locs h hc9 hv9 hk9 => ?_)
  exact q_out () h ht hlocks hc9 hv9 hk9 (Nat.le_of_ble_eq_true rfl) (Nat.le_of_ble_eq_true rfl)

set_option maxHeartbeats 4000000 in
set_option maxRecDepth 100000 in
theorem k_X3_label_bad1 (l : Launch) (g : GK) (d0 w1 w2 h0 s0 p0 : Nat) (cnt pr tol : Nat) (sd : Bool) (z y : Int32) (hz : z < 0 ∨ nI cnt ≤ z) (hlt : l.stackTraces = false) : CT (S := Unit) l g yX3_label wsX3_label { frames := 7, cells := 1, slots := 6, locals := 103 } [.ref d0, .int z, .int y] [(d0, .inr (3, [.ref w1, .ref w2, .ref h0, .ref s0, .ref p0, .int (nI cnt), .int (nI pr), .int (nI tol), .int (nI sd.toNat)]))] nIOB (fun _ => [(d0, .inr (3, [.ref w1, .ref w2, .ref h0, .ref s0, .ref p0, .int (nI cnt), .int (nI pr), .int (nI tol), .int (nI sd.toNat)]))]) := by
  refine q_ofT (own := RX3) (by decide) rfl rfl (Nat.le_of_ble_eq_true rfl) ?_
  intro p e s m below meth c A args E EX ht hlocks h ls hl
  have hl : lv_has ls 6 [(0, .ref d0), (1, .int z), (2, .int y)] := hl
  have c_1 := cwV (R := { frames := 7, cells := 1, slots := 6, locals := 103 }) (rm := { frames := 6, cells := 1, slots := 6, locals := 82 }) (mc := 1) (ms := 6) 1 E.1.2.2.2.2 gX3_label_X3_checkArgument rfl rfl rfl (by decide +kernel) ⟨(Nat.le_of_ble_eq_true rfl), (Nat.le_of_ble_eq_true rfl)⟩
  refine lv_aload_n E.1.1 E.1.2.1 dX3_label_0 rfl (lv_at hl 0 rfl) ?_
  refine lv_iload_n E.1.1 E.1.2.1 dX3_label_1 rfl (lv_at hl 1 rfl) ?_
  refine q_kT (S := Unit) (w2 := fun _ => [(d0, .inr (3, [.ref w1, .ref w2, .ref h0, .ref s0, .ref p0, .int (nI cnt), .int (nI pr), .int (nI tol), .int (nI sd.toNat)]))]) (wr := []) E h [0] [] [0] (vx_runV (As := [.int z]) (rest := []) E.1 (k_X3_checkArgument_bad l g d0 w1 w2 h0 s0 p0 cnt pr tol sd z (by assumption) hlt _) c_1 (q_preVX E EX h [0] rfl rfl (C := RX3) (T := TX3) (N := 9) 3 rfl 0 rfl) rfl rfl hl.1 rfl (lv_room (Nat.le_of_ble_eq_true rfl)) dX3_label_2 ⟨(Nat.le_of_ble_eq_true rfl), (Nat.le_of_ble_eq_true rfl)⟩) (fun _ _ _ h9 => h9) rfl rfl rfl (by decide) rfl (fun _ => rfl) (fun ce q9 _ H locs h hc9 hv9 hk9 => ?_)
  exact q_out () h ht hlocks hc9 hv9 hk9 (Nat.le_of_ble_eq_true rfl) (Nat.le_of_ble_eq_true rfl)

set_option maxHeartbeats 4000000 in
set_option maxRecDepth 100000 in
theorem k_X3_label_bad2 (l : Launch) (g : GK) (d0 w1 w2 h0 s0 p0 : Nat) (cnt pr tol : Nat) (sd : Bool) (v : Nat) (z : Int32) (hcnt : cnt ≤ 12) (hv : v < cnt) (hz : z < 0 ∨ nI (2 ^ cnt) ≤ z) (hlt : l.stackTraces = false) : CT (S := Unit) l g yX3_label wsX3_label { frames := 7, cells := 1, slots := 6, locals := 103 } [.ref d0, .int (nI v), .int z] [(d0, .inr (3, [.ref w1, .ref w2, .ref h0, .ref s0, .ref p0, .int (nI cnt), .int (nI pr), .int (nI tol), .int (nI sd.toNat)]))] nIAE (fun _ => [(d0, .inr (3, [.ref w1, .ref w2, .ref h0, .ref s0, .ref p0, .int (nI cnt), .int (nI pr), .int (nI tol), .int (nI sd.toNat)]))]) := by
  refine q_ofT (own := RX3) (by decide) rfl rfl (Nat.le_of_ble_eq_true rfl) ?_
  intro p e s m below meth c A args E EX ht hlocks h ls hl
  have hl : lv_has ls 6 [(0, .ref d0), (1, .int (nI v)), (2, .int z)] := hl
  have c_1 := cwV (R := { frames := 7, cells := 1, slots := 6, locals := 103 }) (rm := { frames := 0, cells := 0, slots := 0, locals := 0 }) (mc := 0) (ms := 0) 1 E.1.2.2.2.2 gX3_label_X3_checkArgument rfl rfl rfl (by decide +kernel) ⟨Nat.le_of_ble_eq_true rfl, Nat.le_of_ble_eq_true rfl⟩
  have c_2 := cwV (R := { frames := 7, cells := 1, slots := 6, locals := 103 }) (rm := { frames := 6, cells := 1, slots := 6, locals := 82 }) (mc := 1) (ms := 6) 1 E.1.2.2.2.2 gX3_label_X3_checkSet rfl rfl rfl (by decide +kernel) ⟨(Nat.le_of_ble_eq_true rfl), (Nat.le_of_ble_eq_true rfl)⟩
  refine lv_aload_n E.1.1 E.1.2.1 dX3_label_0 rfl (lv_at hl 0 rfl) ?_
  refine lv_iload_n E.1.1 E.1.2.1 dX3_label_1 rfl (lv_at hl 1 rfl) ?_
  refine q_kv (w2 := fun _ => [(d0, .inr (3, [.ref w1, .ref w2, .ref h0, .ref s0, .ref p0, .int (nI cnt), .int (nI pr), .int (nI tol), .int (nI sd.toNat)]))]) (wr := []) E h [0] [] [0] (va_runV (As := [.int (nI v)]) (rest := []) E.1 (k_X3_checkArgument l g d0 w1 w2 h0 s0 p0 cnt pr tol sd v (by omega) (by omega) _) c_1 (q_preV E h [0] rfl rfl (C := RX3) (T := TX3) (N := 9) 3 rfl 0 rfl) rfl rfl hl.1 rfl (lv_room (Nat.le_of_ble_eq_true rfl)) dX3_label_2 ⟨Nat.zero_le _, Nat.zero_le _⟩) rfl rfl rfl (by decide) rfl (fun _ => rfl) (fun _ H locs _ h => ?_)
  refine lv_aload_n E.1.1 E.1.2.1 dX3_label_5 rfl (lv_at hl 0 rfl) ?_
  refine lv_iload_n E.1.1 E.1.2.1 dX3_label_6 rfl (lv_at hl 2 rfl) ?_
  refine q_kT (S := Unit) (w2 := fun _ => [(d0, .inr (3, [.ref w1, .ref w2, .ref h0, .ref s0, .ref p0, .int (nI cnt), .int (nI pr), .int (nI tol), .int (nI sd.toNat)]))]) (wr := []) E h [0] [] [0] (vx_runV (As := [.int z]) (rest := []) E.1 (k_X3_checkSet_bad l g d0 w1 w2 h0 s0 p0 cnt pr tol sd z (by assumption) (by assumption) hlt _) c_2 (q_preVX E EX h [0] rfl rfl (C := RX3) (T := TX3) (N := 9) 3 rfl 0 rfl) rfl rfl hl.1 rfl (lv_room (Nat.le_of_ble_eq_true rfl)) dX3_label_7 ⟨(Nat.le_of_ble_eq_true rfl), (Nat.le_of_ble_eq_true rfl)⟩) (fun _ _ _ h9 => h9) rfl rfl rfl (by decide) rfl (fun _ => rfl) (fun ce q9 _ H locs h hc9 hv9 hk9 => ?_)
  exact q_out () h ht hlocks hc9 hv9 hk9 (Nat.le_of_ble_eq_true rfl) (Nat.le_of_ble_eq_true rfl)

set_option maxHeartbeats 4000000 in
set_option maxRecDepth 100000 in
theorem k_X3_leads_bad1 (l : Launch) (g : GK) (d0 w1 w2 h0 s0 p0 : Nat) (cnt pr tol : Nat) (sd : Bool) (z y : Int32) (hz : z < 0 ∨ nI cnt ≤ z) (hlt : l.stackTraces = false) : CT (S := Unit) l g yX3_leads wsX3_leads { frames := 7, cells := 1, slots := 6, locals := 103 } [.ref d0, .int z, .int y] [(d0, .inr (3, [.ref w1, .ref w2, .ref h0, .ref s0, .ref p0, .int (nI cnt), .int (nI pr), .int (nI tol), .int (nI sd.toNat)]))] nIOB (fun _ => [(d0, .inr (3, [.ref w1, .ref w2, .ref h0, .ref s0, .ref p0, .int (nI cnt), .int (nI pr), .int (nI tol), .int (nI sd.toNat)]))]) := by
  refine q_ofT (own := RX3) (by decide) rfl rfl (Nat.le_of_ble_eq_true rfl) ?_
  intro p e s m below meth c A args E EX ht hlocks h ls hl
  have hl : lv_has ls 3 [(0, .ref d0), (1, .int z), (2, .int y)] := hl
  have c_1 := cwV (R := { frames := 7, cells := 1, slots := 6, locals := 103 }) (rm := { frames := 6, cells := 1, slots := 6, locals := 82 }) (mc := 1) (ms := 6) 1 E.1.2.2.2.2 gX3_leads_X3_checkArgument rfl rfl rfl (by decide +kernel) ⟨(Nat.le_of_ble_eq_true rfl), (Nat.le_of_ble_eq_true rfl)⟩
  refine lv_aload_n E.1.1 E.1.2.1 dX3_leads_0 rfl (lv_at hl 0 rfl) ?_
  refine lv_iload_n E.1.1 E.1.2.1 dX3_leads_1 rfl (lv_at hl 1 rfl) ?_
  refine q_kT (S := Unit) (w2 := fun _ => [(d0, .inr (3, [.ref w1, .ref w2, .ref h0, .ref s0, .ref p0, .int (nI cnt), .int (nI pr), .int (nI tol), .int (nI sd.toNat)]))]) (wr := []) E h [0] [] [0] (vx_runV (As := [.int z]) (rest := []) E.1 (k_X3_checkArgument_bad l g d0 w1 w2 h0 s0 p0 cnt pr tol sd z (by assumption) hlt _) c_1 (q_preVX E EX h [0] rfl rfl (C := RX3) (T := TX3) (N := 9) 3 rfl 0 rfl) rfl rfl hl.1 rfl (lv_room (Nat.le_of_ble_eq_true rfl)) dX3_leads_2 ⟨(Nat.le_of_ble_eq_true rfl), (Nat.le_of_ble_eq_true rfl)⟩) (fun _ _ _ h9 => h9) rfl rfl rfl (by decide) rfl (fun _ => rfl) (fun ce q9 _ H locs h hc9 hv9 hk9 => ?_)
  exact q_out () h ht hlocks hc9 hv9 hk9 (Nat.le_of_ble_eq_true rfl) (Nat.le_of_ble_eq_true rfl)

set_option maxHeartbeats 4000000 in
set_option maxRecDepth 100000 in
theorem k_X3_leads_bad2 (l : Launch) (g : GK) (d0 w1 w2 h0 s0 p0 : Nat) (cnt pr tol : Nat) (sd : Bool) (v : Nat) (y : Int32) (hcnt : cnt ≤ 12) (hv : v < cnt) (hy : y < 0 ∨ nI cnt ≤ y) (hlt : l.stackTraces = false) : CT (S := Unit) l g yX3_leads wsX3_leads { frames := 7, cells := 1, slots := 6, locals := 103 } [.ref d0, .int (nI v), .int y] [(d0, .inr (3, [.ref w1, .ref w2, .ref h0, .ref s0, .ref p0, .int (nI cnt), .int (nI pr), .int (nI tol), .int (nI sd.toNat)]))] nIOB (fun _ => [(d0, .inr (3, [.ref w1, .ref w2, .ref h0, .ref s0, .ref p0, .int (nI cnt), .int (nI pr), .int (nI tol), .int (nI sd.toNat)]))]) := by
  refine q_ofT (own := RX3) (by decide) rfl rfl (Nat.le_of_ble_eq_true rfl) ?_
  intro p e s m below meth c A args E EX ht hlocks h ls hl
  have hl : lv_has ls 3 [(0, .ref d0), (1, .int (nI v)), (2, .int y)] := hl
  have c_1 := cwV (R := { frames := 7, cells := 1, slots := 6, locals := 103 }) (rm := { frames := 0, cells := 0, slots := 0, locals := 0 }) (mc := 0) (ms := 0) 1 E.1.2.2.2.2 gX3_leads_X3_checkArgument rfl rfl rfl (by decide +kernel) ⟨Nat.le_of_ble_eq_true rfl, Nat.le_of_ble_eq_true rfl⟩
  have c_2 := cwV (R := { frames := 7, cells := 1, slots := 6, locals := 103 }) (rm := { frames := 6, cells := 1, slots := 6, locals := 82 }) (mc := 1) (ms := 6) 1 E.1.2.2.2.2 gX3_leads_X3_checkArgument rfl rfl rfl (by decide +kernel) ⟨(Nat.le_of_ble_eq_true rfl), (Nat.le_of_ble_eq_true rfl)⟩
  refine lv_aload_n E.1.1 E.1.2.1 dX3_leads_0 rfl (lv_at hl 0 rfl) ?_
  refine lv_iload_n E.1.1 E.1.2.1 dX3_leads_1 rfl (lv_at hl 1 rfl) ?_
  refine q_kv (w2 := fun _ => [(d0, .inr (3, [.ref w1, .ref w2, .ref h0, .ref s0, .ref p0, .int (nI cnt), .int (nI pr), .int (nI tol), .int (nI sd.toNat)]))]) (wr := []) E h [0] [] [0] (va_runV (As := [.int (nI v)]) (rest := []) E.1 (k_X3_checkArgument l g d0 w1 w2 h0 s0 p0 cnt pr tol sd v (by omega) (by omega) _) c_1 (q_preV E h [0] rfl rfl (C := RX3) (T := TX3) (N := 9) 3 rfl 0 rfl) rfl rfl hl.1 rfl (lv_room (Nat.le_of_ble_eq_true rfl)) dX3_leads_2 ⟨Nat.zero_le _, Nat.zero_le _⟩) rfl rfl rfl (by decide) rfl (fun _ => rfl) (fun _ H locs _ h => ?_)
  refine lv_aload_n E.1.1 E.1.2.1 dX3_leads_5 rfl (lv_at hl 0 rfl) ?_
  refine lv_iload_n E.1.1 E.1.2.1 dX3_leads_6 rfl (lv_at hl 2 rfl) ?_
  refine q_kT (S := Unit) (w2 := fun _ => [(d0, .inr (3, [.ref w1, .ref w2, .ref h0, .ref s0, .ref p0, .int (nI cnt), .int (nI pr), .int (nI tol), .int (nI sd.toNat)]))]) (wr := []) E h [0] [] [0] (vx_runV (As := [.int y]) (rest := []) E.1 (k_X3_checkArgument_bad l g d0 w1 w2 h0 s0 p0 cnt pr tol sd y (by assumption) hlt _) c_2 (q_preVX E EX h [0] rfl rfl (C := RX3) (T := TX3) (N := 9) 3 rfl 0 rfl) rfl rfl hl.1 rfl (lv_room (Nat.le_of_ble_eq_true rfl)) dX3_leads_7 ⟨(Nat.le_of_ble_eq_true rfl), (Nat.le_of_ble_eq_true rfl)⟩) (fun _ _ _ h9 => h9) rfl rfl rfl (by decide) rfl (fun _ => rfl) (fun ce q9 _ H locs h hc9 hv9 hk9 => ?_)
  exact q_out () h ht hlocks hc9 hv9 hk9 (Nat.le_of_ble_eq_true rfl) (Nat.le_of_ble_eq_true rfl)

set_option maxHeartbeats 4000000 in
set_option maxRecDepth 100000 in
theorem k_X3_positions_bad (l : Launch) (g : GK) (d0 w1 w2 h0 s0 p0 : Nat) (cnt pr tol : Nat) (sd : Bool) (z : Int32) (hz : z < 0 ∨ nI 7 ≤ z) (hlt : l.stackTraces = false) : CT (S := Unit) l g yX3_positions wsX3_positions { frames := 7, cells := 1, slots := 6, locals := 102 } [.ref d0, .int z] [(d0, .inr (3, [.ref w1, .ref w2, .ref h0, .ref s0, .ref p0, .int (nI cnt), .int (nI pr), .int (nI tol), .int (nI sd.toNat)]))] nIOB (fun _ => [(d0, .inr (3, [.ref w1, .ref w2, .ref h0, .ref s0, .ref p0, .int (nI cnt), .int (nI pr), .int (nI tol), .int (nI sd.toNat)]))]) := by
  refine q_ofT (own := RX3) (by decide) rfl rfl (Nat.le_of_ble_eq_true rfl) ?_
  intro p e s m below meth c A args E EX ht hlocks h ls hl
  have hl : lv_has ls 2 [(0, .ref d0), (1, .int z)] := hl
  have c_1 := cwS (R := { frames := 7, cells := 1, slots := 6, locals := 102 }) (rm := { frames := 6, cells := 1, slots := 6, locals := 82 }) (mc := 1) (ms := 6) 1 E.1.2.2.2.2 gX3_positions_X3_checkKind rfl rfl rfl (by decide +kernel) ⟨(Nat.le_of_ble_eq_true rfl), (Nat.le_of_ble_eq_true rfl)⟩
  refine lv_iload_n E.1.1 E.1.2.1 dX3_positions_0 rfl (lv_at hl 1 rfl) ?_
  refine q_kT (S := Unit) (w2 := fun _ => [(d0, .inr (3, [.ref w1, .ref w2, .ref h0, .ref s0, .ref p0, .int (nI cnt), .int (nI pr), .int (nI tol), .int (nI sd.toNat)]))]) (wr := [(d0, .inr (3, [.ref w1, .ref w2, .ref h0, .ref s0, .ref p0, .int (nI cnt), .int (nI pr), .int (nI tol), .int (nI sd.toNat)]))]) E h [] [0] [0] (vx_runS (As := [.int z]) (rest := []) E.1 (k_X3_checkKind_bad l g z (by assumption) hlt _) c_1 (q_preSX E EX h [] rfl rfl) rfl rfl hl.1 rfl (lv_room (Nat.le_of_ble_eq_true rfl)) dX3_positions_1 ⟨(Nat.le_of_ble_eq_true rfl), (Nat.le_of_ble_eq_true rfl)⟩) (fun _ _ _ h9 => h9) rfl rfl rfl (by decide) rfl (fun _ => rfl) (fun ce q9 _ H locs h hc9 hv9 hk9 => ?_)
  exact q_out () h ht hlocks hc9 hv9 hk9 (Nat.le_of_ble_eq_true rfl) (Nat.le_of_ble_eq_true rfl)

set_option maxHeartbeats 4000000 in
set_option maxRecDepth 100000 in
theorem k_X3_heaviest_bad (l : Launch) (g : GK) (d0 w1 w2 h0 s0 p0 : Nat) (cnt pr tol : Nat) (sd : Bool) (z : Int32) (hz : z < 0 ∨ nI 7 ≤ z) (hlt : l.stackTraces = false) : CT (S := Unit) l g yX3_heaviest wsX3_heaviest { frames := 7, cells := 1, slots := 6, locals := 102 } [.ref d0, .int z] [(d0, .inr (3, [.ref w1, .ref w2, .ref h0, .ref s0, .ref p0, .int (nI cnt), .int (nI pr), .int (nI tol), .int (nI sd.toNat)]))] nIOB (fun _ => [(d0, .inr (3, [.ref w1, .ref w2, .ref h0, .ref s0, .ref p0, .int (nI cnt), .int (nI pr), .int (nI tol), .int (nI sd.toNat)]))]) := by
  refine q_ofT (own := RX3) (by decide) rfl rfl (Nat.le_of_ble_eq_true rfl) ?_
  intro p e s m below meth c A args E EX ht hlocks h ls hl
  have hl : lv_has ls 7 [(0, .ref d0), (1, .int z)] := hl
  have c_1 := cwS (R := { frames := 7, cells := 1, slots := 6, locals := 102 }) (rm := { frames := 6, cells := 1, slots := 6, locals := 82 }) (mc := 1) (ms := 6) 1 E.1.2.2.2.2 gX3_heaviest_X3_checkKind rfl rfl rfl (by decide +kernel) ⟨(Nat.le_of_ble_eq_true rfl), (Nat.le_of_ble_eq_true rfl)⟩
  refine lv_iload_n E.1.1 E.1.2.1 dX3_heaviest_0 rfl (lv_at hl 1 rfl) ?_
  refine q_kT (S := Unit) (w2 := fun _ => [(d0, .inr (3, [.ref w1, .ref w2, .ref h0, .ref s0, .ref p0, .int (nI cnt), .int (nI pr), .int (nI tol), .int (nI sd.toNat)]))]) (wr := [(d0, .inr (3, [.ref w1, .ref w2, .ref h0, .ref s0, .ref p0, .int (nI cnt), .int (nI pr), .int (nI tol), .int (nI sd.toNat)]))]) E h [] [0] [0] (vx_runS (As := [.int z]) (rest := []) E.1 (k_X3_checkKind_bad l g z (by assumption) hlt _) c_1 (q_preSX E EX h [] rfl rfl) rfl rfl hl.1 rfl (lv_room (Nat.le_of_ble_eq_true rfl)) dX3_heaviest_1 ⟨(Nat.le_of_ble_eq_true rfl), (Nat.le_of_ble_eq_true rfl)⟩) (fun _ _ _ h9 => h9) rfl rfl rfl (by decide) rfl (fun _ => rfl) (fun ce q9 _ H locs h hc9 hv9 hk9 => ?_)
  exact q_out () h ht hlocks hc9 hv9 hk9 (Nat.le_of_ble_eq_true rfl) (Nat.le_of_ble_eq_true rfl)

set_option maxHeartbeats 4000000 in
set_option maxRecDepth 100000 in
theorem k_X3_accepted_bad (l : Launch) (g : GK) (d0 w1 w2 h0 s0 p0 : Nat) (cnt pr tol : Nat) (sd : Bool) (z : Int32) (t : Bool) (hz : z < 0 ∨ nI 7 ≤ z) (hlt : l.stackTraces = false) : CT (S := Unit) l g yX3_accepted wsX3_accepted { frames := 7, cells := 1, slots := 6, locals := 102 } [.ref d0, .int z, .int (nI t.toNat)] [(d0, .inr (3, [.ref w1, .ref w2, .ref h0, .ref s0, .ref p0, .int (nI cnt), .int (nI pr), .int (nI tol), .int (nI sd.toNat)]))] nIOB (fun _ => [(d0, .inr (3, [.ref w1, .ref w2, .ref h0, .ref s0, .ref p0, .int (nI cnt), .int (nI pr), .int (nI tol), .int (nI sd.toNat)]))]) := by
  refine q_ofT (own := RX3) (by decide) rfl rfl (Nat.le_of_ble_eq_true rfl) ?_
  intro p e s m below meth c A args E EX ht hlocks h ls hl
  have hl : lv_has ls 4 [(0, .ref d0), (1, .int z), (2, .int (nI t.toNat))] := hl
  have c_1 := cwS (R := { frames := 7, cells := 1, slots := 6, locals := 102 }) (rm := { frames := 6, cells := 1, slots := 6, locals := 82 }) (mc := 1) (ms := 6) 1 E.1.2.2.2.2 gX3_accepted_X3_checkKind rfl rfl rfl (by decide +kernel) ⟨(Nat.le_of_ble_eq_true rfl), (Nat.le_of_ble_eq_true rfl)⟩
  refine lv_iload_n E.1.1 E.1.2.1 dX3_accepted_0 rfl (lv_at hl 1 rfl) ?_
  refine q_kT (S := Unit) (w2 := fun _ => [(d0, .inr (3, [.ref w1, .ref w2, .ref h0, .ref s0, .ref p0, .int (nI cnt), .int (nI pr), .int (nI tol), .int (nI sd.toNat)]))]) (wr := [(d0, .inr (3, [.ref w1, .ref w2, .ref h0, .ref s0, .ref p0, .int (nI cnt), .int (nI pr), .int (nI tol), .int (nI sd.toNat)]))]) E h [] [0] [0] (vx_runS (As := [.int z]) (rest := []) E.1 (k_X3_checkKind_bad l g z (by assumption) hlt _) c_1 (q_preSX E EX h [] rfl rfl) rfl rfl hl.1 rfl (lv_room (Nat.le_of_ble_eq_true rfl)) dX3_accepted_1 ⟨(Nat.le_of_ble_eq_true rfl), (Nat.le_of_ble_eq_true rfl)⟩) (fun _ _ _ h9 => h9) rfl rfl rfl (by decide) rfl (fun _ => rfl) (fun ce q9 _ H locs h hc9 hv9 hk9 => ?_)
  exact q_out () h ht hlocks hc9 hv9 hk9 (Nat.le_of_ble_eq_true rfl) (Nat.le_of_ble_eq_true rfl)

set_option maxHeartbeats 4000000 in
set_option maxRecDepth 100000 in
theorem k_X3_position_bad1 (l : Launch) (g : GK) (d0 w1 w2 h0 s0 p0 : Nat) (cnt pr tol : Nat) (sd : Bool) (z y : Int32) (hz : z < 0 ∨ nI 7 ≤ z) (hlt : l.stackTraces = false) : CT (S := Unit) l g yX3_position wsX3_position { frames := 7, cells := 1, slots := 6, locals := 102 } [.ref d0, .int z, .int y] [(d0, .inr (3, [.ref w1, .ref w2, .ref h0, .ref s0, .ref p0, .int (nI cnt), .int (nI pr), .int (nI tol), .int (nI sd.toNat)]))] nIOB (fun _ => [(d0, .inr (3, [.ref w1, .ref w2, .ref h0, .ref s0, .ref p0, .int (nI cnt), .int (nI pr), .int (nI tol), .int (nI sd.toNat)]))]) := by
  refine q_ofT (own := RX3) (by decide) rfl rfl (Nat.le_of_ble_eq_true rfl) ?_
  intro p e s m below meth c A args E EX ht hlocks h ls hl
  have hl : lv_has ls 4 [(0, .ref d0), (1, .int z), (2, .int y)] := hl
  have c_1 := cwS (R := { frames := 7, cells := 1, slots := 6, locals := 102 }) (rm := { frames := 6, cells := 1, slots := 6, locals := 82 }) (mc := 1) (ms := 6) 1 E.1.2.2.2.2 gX3_position_X3_checkKind rfl rfl rfl (by decide +kernel) ⟨(Nat.le_of_ble_eq_true rfl), (Nat.le_of_ble_eq_true rfl)⟩
  refine lv_iload_n E.1.1 E.1.2.1 dX3_position_0 rfl (lv_at hl 1 rfl) ?_
  refine q_kT (S := Unit) (w2 := fun _ => [(d0, .inr (3, [.ref w1, .ref w2, .ref h0, .ref s0, .ref p0, .int (nI cnt), .int (nI pr), .int (nI tol), .int (nI sd.toNat)]))]) (wr := [(d0, .inr (3, [.ref w1, .ref w2, .ref h0, .ref s0, .ref p0, .int (nI cnt), .int (nI pr), .int (nI tol), .int (nI sd.toNat)]))]) E h [] [0] [0] (vx_runS (As := [.int z]) (rest := []) E.1 (k_X3_checkKind_bad l g z (by assumption) hlt _) c_1 (q_preSX E EX h [] rfl rfl) rfl rfl hl.1 rfl (lv_room (Nat.le_of_ble_eq_true rfl)) dX3_position_1 ⟨(Nat.le_of_ble_eq_true rfl), (Nat.le_of_ble_eq_true rfl)⟩) (fun _ _ _ h9 => h9) rfl rfl rfl (by decide) rfl (fun _ => rfl) (fun ce q9 _ H locs h hc9 hv9 hk9 => ?_)
  exact q_out () h ht hlocks hc9 hv9 hk9 (Nat.le_of_ble_eq_true rfl) (Nat.le_of_ble_eq_true rfl)
