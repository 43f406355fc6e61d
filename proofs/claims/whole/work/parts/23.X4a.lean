/-! the reference: edits and helpers -/
set_option maxHeartbeats 4000000 in
set_option maxRecDepth 100000 in
theorem k_X4_thrown (l : Launch) (g : GK) (m0 mw ma mc mf mr mt mar mbe mou : Nat) (th cnt pr tol : Nat) (kn : Bool)  : CI (S := Unit) l g yX4_thrown wsX4_thrown { frames := 0, cells := 0, slots := 0, locals := 0 } [.ref m0] [(m0, .inr (4, [.int (nI th), .int (nI cnt), .ref mw, .int (nI pr), .ref ma, .int (nI tol), .int (nI kn.toNat), .ref mc, .ref mf, .ref mr, .ref mt, .ref mar, .ref mbe, .ref mou]))] (fun r _ => r = nI th) (fun _ => [(m0, .inr (4, [.int (nI th), .int (nI cnt), .ref mw, .int (nI pr), .ref ma, .int (nI tol), .int (nI kn.toNat), .ref mc, .ref mf, .ref mr, .ref mt, .ref mar, .ref mbe, .ref mou]))]) := by
  refine q_ofI (own := RX4) (by decide) rfl rfl (Nat.le_of_ble_eq_true rfl) n_int ?_
  intro p e s m below meth c A Q args E hmn h hend ls hl
  have hl : lv_has ls 1 [(0, .ref m0)] := hl
  have c_1 := E.1.2.2.2.2 (.fieldLink RX4 44 "DebateSolverModel" "thrown" "I") (by decide +kernel)
  have c_2 := (by decide +kernel : ∀ w ∈ wsX40, w ∈ wsX4_thrown)
  refine lv_aload_n E.1.1 E.1.2.1 dX4_thrown_0 rfl (lv_at hl 0 rfl) ?_
  refine q_get E h (C := RX4) (T := TX4) (N := 14) 4 rfl c_2 0 rfl 0 (by decide) c_1 (v := .int (nI th)) rfl dX4_thrown_1 ?_
  -- world at the end: [(m0, .inr (4, [.int (nI th), .int (nI cnt), .ref mw, .int (nI pr), .ref ma, .int (nI tol), .int (nI kn.toNat), .ref mc, .ref mf, .ref mr, .ref mt, .ref mar, .ref mbe, .ref mou]))]
  exact hend _ _ _ _ _ () h dX4_thrown_4 rfl

set_option maxHeartbeats 4000000 in
set_option maxRecDepth 100000 in
theorem k_X4_fail (l : Launch) (g : GK) (m0 mw ma mc mf mr mt mar mbe mou : Nat) (th cnt pr tol : Nat) (kn : Bool) (n : Nat)  : CI (S := Unit) l g yX4_fail wsX4_fail { frames := 0, cells := 0, slots := 0, locals := 0 } [.ref m0, .int (nI n)] [(m0, .inr (4, [.int (nI th), .int (nI cnt), .ref mw, .int (nI pr), .ref ma, .int (nI tol), .int (nI kn.toNat), .ref mc, .ref mf, .ref mr, .ref mt, .ref mar, .ref mbe, .ref mou]))] (fun r _ => r = nI 0) (fun _ => [(m0, .inr (4, [.int (nI n), .int (nI cnt), .ref mw, .int (nI pr), .ref ma, .int (nI tol), .int (nI kn.toNat), .ref mc, .ref mf, .ref mr, .ref mt, .ref mar, .ref mbe, .ref mou]))]) := by
  refine q_ofI (own := RX4) (by decide) rfl rfl (Nat.le_of_ble_eq_true rfl) n_int ?_
  intro p e s m below meth c A Q args E hmn h hend ls hl
  have hl : lv_has ls 2 [(0, .ref m0), (1, .int (nI n))] := hl
  have c_1 := E.1.2.2.2.2 (.fieldLink RX4 44 "DebateSolverModel" "thrown" "I") (by decide +kernel)
  have c_2 := (by decide +kernel : ∀ w ∈ wsX40, w ∈ wsX4_fail)
  refine lv_aload_n E.1.1 E.1.2.1 dX4_fail_0 rfl (lv_at hl 0 rfl) ?_
  refine lv_iload_n E.1.1 E.1.2.1 dX4_fail_1 rfl (lv_at hl 1 rfl) ?_
  refine q_put E h (C := RX4) (T := TX4) (N := 14) 4 rfl tyX4 tyX4_ok nmX4 c_2 0 rfl 0 (by decide) c_1 rfl (v := .int (nI n)) (ty := .int) (by decide +kernel) rfl rfl (Nat.le_of_ble_eq_true rfl) dX4_fail_2 (w2 := [(m0, .inr (4, [.int (nI n), .int (nI cnt), .ref mw, .int (nI pr), .ref ma, .int (nI tol), .int (nI kn.toNat), .ref mc, .ref mf, .ref mr, .ref mt, .ref mar, .ref mbe, .ref mou]))]) rfl (fun H locs h => ?_)
  refine q_ic E 0 dX4_fail_5 (by decide) ?_
  -- world at the end: [(m0, .inr (4, [.int (nI n), .int (nI cnt), .ref mw, .int (nI pr), .ref ma, .int (nI tol), .int (nI kn.toNat), .ref mc, .ref mf, .ref mr, .ref mt, .ref mar, .ref mbe, .ref mou]))]
  exact hend _ _ _ _ _ () h dX4_fail_6 rfl

set_option maxHeartbeats 4000000 in
set_option maxRecDepth 100000 in
theorem k_X4_isArgument (l : Launch) (g : GK) (m0 mw ma mc mf mr mt mar mbe mou : Nat) (th cnt pr tol : Nat) (kn : Bool) (v : Nat) (hcnt : cnt ≤ 12) (hv : v < cnt) : CI (S := Unit) l g yX4_isArgument wsX4_isArgument { frames := 0, cells := 0, slots := 0, locals := 0 } [.ref m0, .int (nI v)] [(m0, .inr (4, [.int (nI th), .int (nI cnt), .ref mw, .int (nI pr), .ref ma, .int (nI tol), .int (nI kn.toNat), .ref mc, .ref mf, .ref mr, .ref mt, .ref mar, .ref mbe, .ref mou]))] (fun r _ => r = nI true.toNat) (fun _ => [(m0, .inr (4, [.int (nI th), .int (nI cnt), .ref mw, .int (nI pr), .ref ma, .int (nI tol), .int (nI kn.toNat), .ref mc, .ref mf, .ref mr, .ref mt, .ref mar, .ref mbe, .ref mou]))]) := by
  refine q_ofI (own := RX4) (by decide) rfl rfl (Nat.le_of_ble_eq_true rfl) (fun v u hp => by obtain rfl := hp; exact n_bool _) ?_
  intro p e s m below meth c A Q args E hmn h hend ls hl
  have hl : lv_has ls 2 [(0, .ref m0), (1, .int (nI v))] := hl
  have c_1 := E.1.2.2.2.2 (.fieldLink RX4 47 "DebateSolverModel" "many" "I") (by decide +kernel)
  have c_2 := (by decide +kernel : ∀ w ∈ wsX40, w ∈ wsX4_isArgument)
  refine lv_iload_n E.1.1 E.1.2.1 dX4_isArgument_0 rfl (lv_at hl 1 rfl) ?_
  refine q_lt0 E (tgt := 16) (by omega) dX4_isArgument_1 (by decide) ?_
  refine lv_iload_n E.1.1 E.1.2.1 dX4_isArgument_4 rfl (lv_at hl 1 rfl) ?_
  refine lv_aload_n E.1.1 E.1.2.1 dX4_isArgument_5 rfl (lv_at hl 0 rfl) ?_
  refine q_get E h (C := RX4) (T := TX4) (N := 14) 4 rfl c_2 0 rfl 1 (by decide) c_1 (v := .int (nI cnt)) rfl dX4_isArgument_6 ?_
  refine q_ge E (tgt := 16) (by omega) (by omega) dX4_isArgument_9 (by decide) (fun hb9 => ?_) (fun hb9 => ?_)
  · skip
    exact absurd hb9 (by omega)
  · skip
    refine q_ic E 1 dX4_isArgument_12 (by decide) ?_
    refine q_go E (tgt := 17) dX4_isArgument_13 (by decide) ?_
    -- world at the end: [(m0, .inr (4, [.int (nI th), .int (nI cnt), .ref mw, .int (nI pr), .ref ma, .int (nI tol), .int (nI kn.toNat), .ref mc, .ref mf, .ref mr, .ref mt, .ref mar, .ref mbe, .ref mou]))]
    exact hend _ _ _ _ _ () h dX4_isArgument_17 rfl

set_option maxHeartbeats 4000000 in
set_option maxRecDepth 100000 in
theorem k_X4_isArgument_bad (l : Launch) (g : GK) (m0 mw ma mc mf mr mt mar mbe mou : Nat) (th cnt pr tol : Nat) (kn : Bool) (z : Int32) (hz : z < 0 ∨ nI cnt ≤ z) : CI (S := Unit) l g yX4_isArgument wsX4_isArgument { frames := 0, cells := 0, slots := 0, locals := 0 } [.ref m0, .int z] [(m0, .inr (4, [.int (nI th), .int (nI cnt), .ref mw, .int (nI pr), .ref ma, .int (nI tol), .int (nI kn.toNat), .ref mc, .ref mf, .ref mr, .ref mt, .ref mar, .ref mbe, .ref mou]))] (fun r _ => r = nI false.toNat) (fun _ => [(m0, .inr (4, [.int (nI th), .int (nI cnt), .ref mw, .int (nI pr), .ref ma, .int (nI tol), .int (nI kn.toNat), .ref mc, .ref mf, .ref mr, .ref mt, .ref mar, .ref mbe, .ref mou]))]) := by
  refine q_ofI (own := RX4) (by decide) rfl rfl (Nat.le_of_ble_eq_true rfl) (fun v u hp => by obtain rfl := hp; exact n_bool _) ?_
  intro p e s m below meth c A Q args E hmn h hend ls hl
  have hl : lv_has ls 2 [(0, .ref m0), (1, .int z)] := hl
  have c_1 := E.1.2.2.2.2 (.fieldLink RX4 47 "DebateSolverModel" "many" "I") (by decide +kernel)
  have c_2 := (by decide +kernel : ∀ w ∈ wsX40, w ∈ wsX4_isArgument)
  refine lv_iload_n E.1.1 E.1.2.1 dX4_isArgument_0 rfl (lv_at hl 1 rfl) ?_
  refine lv_if_lt (tgt := 16) E.1.1 E.1.2.1 dX4_isArgument_1 (by decide) (fun hb1 => ?_) (fun hb1 => ?_)
  · skip
    refine q_ic E 0 dX4_isArgument_16 (by decide) ?_
    -- world at the end: [(m0, .inr (4, [.int (nI th), .int (nI cnt), .ref mw, .int (nI pr), .ref ma, .int (nI tol), .int (nI kn.toNat), .ref mc, .ref mf, .ref mr, .ref mt, .ref mar, .ref mbe, .ref mou]))]
    exact hend _ _ _ _ _ () h dX4_isArgument_17 rfl
  · skip
    refine lv_iload_n E.1.1 E.1.2.1 dX4_isArgument_4 rfl (lv_at hl 1 rfl) ?_
    refine lv_aload_n E.1.1 E.1.2.1 dX4_isArgument_5 rfl (lv_at hl 0 rfl) ?_
    refine q_get E h (C := RX4) (T := TX4) (N := 14) 4 rfl c_2 0 rfl 1 (by decide) c_1 (v := .int (nI cnt)) rfl dX4_isArgument_6 ?_
    refine lv_icmp_ge (tgt := 16) E.1.1 E.1.2.1 dX4_isArgument_9 (by decide) (fun hb9 => ?_) (fun hb9 => ?_)
    · skip
      refine q_ic E 0 dX4_isArgument_16 (by decide) ?_
      -- world at the end: [(m0, .inr (4, [.int (nI th), .int (nI cnt), .ref mw, .int (nI pr), .ref ma, .int (nI tol), .int (nI kn.toNat), .ref mc, .ref mf, .ref mr, .ref mt, .ref mar, .ref mbe, .ref mou]))]
      exact hend _ _ _ _ _ () h dX4_isArgument_17 rfl
    · skip
      exact absurd hz (fun q => q.elim hb1 hb9)

set_option maxHeartbeats 4000000 in
set_option maxRecDepth 100000 in
theorem k_X4_isSet (l : Launch) (g : GK) (m0 mw ma mc mf mr mt mar mbe mou : Nat) (th cnt pr tol : Nat) (kn : Bool) (n : Nat) (hcnt : cnt ≤ 12) (hn : n < 2 ^ cnt) : CI (S := Unit) l g yX4_isSet wsX4_isSet { frames := 0, cells := 0, slots := 0, locals := 0 } [.ref m0, .int (nI n)] [(m0, .inr (4, [.int (nI th), .int (nI cnt), .ref mw, .int (nI pr), .ref ma, .int (nI tol), .int (nI kn.toNat), .ref mc, .ref mf, .ref mr, .ref mt, .ref mar, .ref mbe, .ref mou]))] (fun r _ => r = nI true.toNat) (fun _ => [(m0, .inr (4, [.int (nI th), .int (nI cnt), .ref mw, .int (nI pr), .ref ma, .int (nI tol), .int (nI kn.toNat), .ref mc, .ref mf, .ref mr, .ref mt, .ref mar, .ref mbe, .ref mou]))]) := by
  refine q_ofI (own := RX4) (by decide) rfl rfl (Nat.le_of_ble_eq_true rfl) (fun v u hp => by obtain rfl := hp; exact n_bool _) ?_
  intro p e s m below meth c A Q args E hmn h hend ls hl
  have hl : lv_has ls 2 [(0, .ref m0), (1, .int (nI n))] := hl
  have c_1 := E.1.2.2.2.2 (.fieldLink RX4 47 "DebateSolverModel" "many" "I") (by decide +kernel)
  have c_2 := (by decide +kernel : ∀ w ∈ wsX40, w ∈ wsX4_isSet)
  have hp12 := cnt_p12 hcnt
  refine lv_iload_n E.1.1 E.1.2.1 dX4_isSet_0 rfl (lv_at hl 1 rfl) ?_
  refine q_lt0 E (tgt := 18) (by omega) dX4_isSet_1 (by decide) ?_
  refine lv_iload_n E.1.1 E.1.2.1 dX4_isSet_4 rfl (lv_at hl 1 rfl) ?_
  refine q_ic E 1 dX4_isSet_5 (by decide) ?_
  refine lv_aload_n E.1.1 E.1.2.1 dX4_isSet_6 rfl (lv_at hl 0 rfl) ?_
  refine q_get E h (C := RX4) (T := TX4) (N := 14) 4 rfl c_2 0 rfl 1 (by decide) c_1 (v := .int (nI cnt)) rfl dX4_isSet_7 ?_
  refine q_shl1 E (by omega) dX4_isSet_10 ?_
  refine q_ge E (tgt := 18) (by omega) (by omega) dX4_isSet_11 (by decide) (fun hb11 => ?_) (fun hb11 => ?_)
  · skip
    exact absurd hb11 (by omega)
  · skip
    refine q_ic E 1 dX4_isSet_14 (by decide) ?_
    refine q_go E (tgt := 19) dX4_isSet_15 (by decide) ?_
    -- world at the end: [(m0, .inr (4, [.int (nI th), .int (nI cnt), .ref mw, .int (nI pr), .ref ma, .int (nI tol), .int (nI kn.toNat), .ref mc, .ref mf, .ref mr, .ref mt, .ref mar, .ref mbe, .ref mou]))]
    exact hend _ _ _ _ _ () h dX4_isSet_19 rfl

set_option maxHeartbeats 4000000 in
set_option maxRecDepth 100000 in
theorem k_X4_isSet_bad (l : Launch) (g : GK) (m0 mw ma mc mf mr mt mar mbe mou : Nat) (th cnt pr tol : Nat) (kn : Bool) (z : Int32) (hcnt : cnt ≤ 12) (hz : z < 0 ∨ nI (2 ^ cnt) ≤ z) : CI (S := Unit) l g yX4_isSet wsX4_isSet { frames := 0, cells := 0, slots := 0, locals := 0 } [.ref m0, .int z] [(m0, .inr (4, [.int (nI th), .int (nI cnt), .ref mw, .int (nI pr), .ref ma, .int (nI tol), .int (nI kn.toNat), .ref mc, .ref mf, .ref mr, .ref mt, .ref mar, .ref mbe, .ref mou]))] (fun r _ => r = nI false.toNat) (fun _ => [(m0, .inr (4, [.int (nI th), .int (nI cnt), .ref mw, .int (nI pr), .ref ma, .int (nI tol), .int (nI kn.toNat), .ref mc, .ref mf, .ref mr, .ref mt, .ref mar, .ref mbe, .ref mou]))]) := by
  refine q_ofI (own := RX4) (by decide) rfl rfl (Nat.le_of_ble_eq_true rfl) (fun v u hp => by obtain rfl := hp; exact n_bool _) ?_
  intro p e s m below meth c A Q args E hmn h hend ls hl
  have hl : lv_has ls 2 [(0, .ref m0), (1, .int z)] := hl
  have c_1 := E.1.2.2.2.2 (.fieldLink RX4 47 "DebateSolverModel" "many" "I") (by decide +kernel)
  have c_2 := (by decide +kernel : ∀ w ∈ wsX40, w ∈ wsX4_isSet)
  refine lv_iload_n E.1.1 E.1.2.1 dX4_isSet_0 rfl (lv_at hl 1 rfl) ?_
  refine lv_if_lt (tgt := 18) E.1.1 E.1.2.1 dX4_isSet_1 (by decide) (fun hb1 => ?_) (fun hb1 => ?_)
  · skip
    refine q_ic E 0 dX4_isSet_18 (by decide) ?_
    -- world at the end: [(m0, .inr (4, [.int (nI th), .int (nI cnt), .ref mw, .int (nI pr), .ref ma, .int (nI tol), .int (nI kn.toNat), .ref mc, .ref mf, .ref mr, .ref mt, .ref mar, .ref mbe, .ref mou]))]
    exact hend _ _ _ _ _ () h dX4_isSet_19 rfl
  · skip
    refine lv_iload_n E.1.1 E.1.2.1 dX4_isSet_4 rfl (lv_at hl 1 rfl) ?_
    refine q_ic E 1 dX4_isSet_5 (by decide) ?_
    refine lv_aload_n E.1.1 E.1.2.1 dX4_isSet_6 rfl (lv_at hl 0 rfl) ?_
    refine q_get E h (C := RX4) (T := TX4) (N := 14) 4 rfl c_2 0 rfl 1 (by decide) c_1 (v := .int (nI cnt)) rfl dX4_isSet_7 ?_
    refine q_shl1 E (by omega) dX4_isSet_10 ?_
    refine lv_icmp_ge (tgt := 18) E.1.1 E.1.2.1 dX4_isSet_11 (by decide) (fun hb11 => ?_) (fun hb11 => ?_)
    · skip
      refine q_ic E 0 dX4_isSet_18 (by decide) ?_
      -- world at the end: [(m0, .inr (4, [.int (nI th), .int (nI cnt), .ref mw, .int (nI pr), .ref ma, .int (nI tol), .int (nI kn.toNat), .ref mc, .ref mf, .ref mr, .ref mt, .ref mar, .ref mbe, .ref mou]))]
      exact hend _ _ _ _ _ () h dX4_isSet_19 rfl
    · skip
      exact absurd hz (fun q => q.elim hb1 hb11)

set_option maxHeartbeats 4000000 in
set_option maxRecDepth 100000 in
theorem k_X4_isWeight (l : Launch) (g : GK) (w : Nat) (hw : 1 ≤ w ∧ w ≤ 9) : CI (S := Unit) l g yX4_isWeight wsX4_isWeight { frames := 0, cells := 0, slots := 0, locals := 0 } [.int (nI w)] [] (fun r _ => r = nI true.toNat) (fun _ => []) := by
  refine q_ofI (own := RX4) (by decide) rfl rfl (Nat.le_of_ble_eq_true rfl) (fun v u hp => by obtain rfl := hp; exact n_bool _) ?_
  intro p e s m below meth c A Q args E hmn h hend ls hl
  have hl : lv_has ls 1 [(0, .int (nI w))] := hl
  refine lv_iload_n E.1.1 E.1.2.1 dX4_isWeight_0 rfl (lv_at hl 0 rfl) ?_
  refine q_ic E 1 dX4_isWeight_1 (by decide) ?_
  refine q_lt E (tgt := 15) (by omega) (by omega) dX4_isWeight_2 (by decide) (fun hb2 => ?_) (fun hb2 => ?_)
  · skip
    exact absurd hb2 (by omega)
  · skip
    refine lv_iload_n E.1.1 E.1.2.1 dX4_isWeight_5 rfl (lv_at hl 0 rfl) ?_
    refine q_bi E 9 dX4_isWeight_6 (by decide) ?_
    refine q_gt E (tgt := 15) (by omega) (by omega) dX4_isWeight_8 (by decide) (fun hb8 => ?_) (fun hb8 => ?_)
    · skip
      exact absurd hb8 (by omega)
    · skip
      refine q_ic E 1 dX4_isWeight_11 (by decide) ?_
      refine q_go E (tgt := 16) dX4_isWeight_12 (by decide) ?_
      -- world at the end: []
      exact hend _ _ _ _ _ () h dX4_isWeight_16 rfl

set_option maxHeartbeats 4000000 in
set_option maxRecDepth 100000 in
theorem k_X4_isWeight_bad (l : Launch) (g : GK) (z : Int32) (hz : z < nI 1 ∨ nI 9 < z) : CI (S := Unit) l g yX4_isWeight wsX4_isWeight { frames := 0, cells := 0, slots := 0, locals := 0 } [.int z] [] (fun r _ => r = nI false.toNat) (fun _ => []) := by
  refine q_ofI (own := RX4) (by decide) rfl rfl (Nat.le_of_ble_eq_true rfl) (fun v u hp => by obtain rfl := hp; exact n_bool _) ?_
  intro p e s m below meth c A Q args E hmn h hend ls hl
  have hl : lv_has ls 1 [(0, .int z)] := hl
  refine lv_iload_n E.1.1 E.1.2.1 dX4_isWeight_0 rfl (lv_at hl 0 rfl) ?_
  refine q_ic E 1 dX4_isWeight_1 (by decide) ?_
  refine lv_icmp_lt (tgt := 15) E.1.1 E.1.2.1 dX4_isWeight_2 (by decide) (fun hb2 => ?_) (fun hb2 => ?_)
  · skip
    refine q_ic E 0 dX4_isWeight_15 (by decide) ?_
    -- world at the end: []
    exact hend _ _ _ _ _ () h dX4_isWeight_16 rfl
  · skip
    refine lv_iload_n E.1.1 E.1.2.1 dX4_isWeight_5 rfl (lv_at hl 0 rfl) ?_
    refine q_bi E 9 dX4_isWeight_6 (by decide) ?_
    refine lv_icmp_gt (tgt := 15) E.1.1 E.1.2.1 dX4_isWeight_8 (by decide) (fun hb8 => ?_) (fun hb8 => ?_)
    · skip
      refine q_ic E 0 dX4_isWeight_15 (by decide) ?_
      -- world at the end: []
      exact hend _ _ _ _ _ () h dX4_isWeight_16 rfl
    · skip
      exact absurd hz (fun q => q.elim hb2 hb8)

set_option maxHeartbeats 4000000 in
set_option maxRecDepth 100000 in
theorem k_X4_has (l : Launch) (g : GK) (n k : Nat) (hn : n < 2147483648) (hk : k < 32) : CI (S := Unit) l g yX4_has wsX4_has { frames := 0, cells := 0, slots := 0, locals := 0 } [.int (nI n), .int (nI k)] [] (fun r _ => r = nI (n.testBit k).toNat) (fun _ => []) := by
  refine q_ofI (own := RX4) (by decide) rfl rfl (Nat.le_of_ble_eq_true rfl) (fun v u hp => by obtain rfl := hp; exact n_bool _) ?_
  intro p e s m below meth c A Q args E hmn h hend ls hl
  have hl : lv_has ls 2 [(0, .int (nI n)), (1, .int (nI k))] := hl
  refine lv_iload_n E.1.1 E.1.2.1 dX4_has_0 rfl (lv_at hl 0 rfl) ?_
  refine lv_iload_n E.1.1 E.1.2.1 dX4_has_1 rfl (lv_at hl 1 rfl) ?_
  refine q_shr E (by exact hn) (by exact hk) dX4_has_2 ?_
  refine q_ic E 1 dX4_has_3 (by decide) ?_
  refine q_and E dX4_has_4 ?_
  refine q_ic E 1 dX4_has_5 (by decide) ?_
  refine q_ne E (tgt := 13) (by exact and1lt _) (by decide) dX4_has_6 (by decide) (fun hb6 => ?_) (fun hb6 => ?_)
  · skip
    refine q_ic E 0 dX4_has_13 (by decide) ?_
    -- world at the end: []
    exact hend _ _ _ _ _ () h dX4_has_14 (by exact has_r n k _ (Or.inr ⟨hb6, rfl⟩))
  · skip
    refine q_ic E 1 dX4_has_9 (by decide) ?_
    refine q_go E (tgt := 14) dX4_has_10 (by decide) ?_
    -- world at the end: []
    exact hend _ _ _ _ _ () h dX4_has_14 (by exact has_r n k _ (Or.inl ⟨hb6, rfl⟩))

set_option maxHeartbeats 4000000 in
set_option maxRecDepth 100000 in
theorem k_X4_change (l : Launch) (g : GK) (m0 mw ma mc mf mr mt mar mbe mou : Nat) (th cnt pr tol : Nat) (kn : Bool)  : CV (S := Unit) l g yX4_change wsX4_change { frames := 0, cells := 0, slots := 0, locals := 0 } [.ref m0] [(m0, .inr (4, [.int (nI th), .int (nI cnt), .ref mw, .int (nI pr), .ref ma, .int (nI tol), .int (nI kn.toNat), .ref mc, .ref mf, .ref mr, .ref mt, .ref mar, .ref mbe, .ref mou]))] (fun _ => True) (fun _ => [(m0, .inr (4, [.int (nI th), .int (nI cnt), .ref mw, .int (nI pr), .ref ma, .int (nI tol), .int (nI false.toNat), .ref mc, .ref mf, .ref mr, .ref mt, .ref mar, .ref mbe, .ref mou]))]) := by
  refine q_ofV (own := RX4) (by decide) rfl rfl (Nat.le_of_ble_eq_true rfl) ?_
  intro p e s m below meth c A Q args E hmn h hend ls hl
  have hl : lv_has ls 1 [(0, .ref m0)] := hl
  have c_1 := E.1.2.2.2.2 (.fieldLink RX4 50 "DebateSolverModel" "isKnown" "Z") (by decide +kernel)
  have c_2 := (by decide +kernel : ∀ w ∈ wsX40, w ∈ wsX4_change)
  refine lv_aload_n E.1.1 E.1.2.1 dX4_change_0 rfl (lv_at hl 0 rfl) ?_
  refine q_ic E 0 dX4_change_1 (by decide) ?_
  refine q_put E h (C := RX4) (T := TX4) (N := 14) 4 rfl tyX4 tyX4_ok nmX4 c_2 0 rfl 6 (by decide) c_1 rfl (v := .int (nI 0)) (ty := .boolean) (by decide +kernel) (by decide) (by decide) (Nat.le_of_ble_eq_true rfl) dX4_change_2 (w2 := [(m0, .inr (4, [.int (nI th), .int (nI cnt), .ref mw, .int (nI pr), .ref ma, .int (nI tol), .int (nI 0), .ref mc, .ref mf, .ref mr, .ref mt, .ref mar, .ref mbe, .ref mou]))]) rfl (fun H locs h => ?_)
  -- world at the end: [(m0, .inr (4, [.int (nI th), .int (nI cnt), .ref mw, .int (nI pr), .ref ma, .int (nI tol), .int (nI 0), .ref mc, .ref mf, .ref mr, .ref mt, .ref mar, .ref mbe, .ref mou]))]
  exact hend _ _ _ _ () h dX4_change_5 trivial

set_option maxHeartbeats 4000000 in
set_option maxRecDepth 100000 in
theorem k_X4_addArgument (l : Launch) (g : GK) (m0 mw ma mc mf mr mt mar mbe mou : Nat) (th cnt pr tol : Nat) (kn : Bool) (wt : Nat → Nat) (w : Nat) (hw : 1 ≤ w ∧ w ≤ 9) (hc2 : cnt < 12) : CI (S := Unit) l g yX4_addArgument wsX4_addArgument { frames := 1, cells := 0, slots := 0, locals := 20 } [.ref m0, .int (nI w)] [(m0, .inr (4, [.int (nI th), .int (nI cnt), .ref mw, .int (nI pr), .ref ma, .int (nI tol), .int (nI kn.toNat), .ref mc, .ref mf, .ref mr, .ref mt, .ref mar, .ref mbe, .ref mou])), (mw, .inl (gI g, 12, .inl (aN wt)))] (fun r _ => r = nI cnt) (fun _ => [(m0, .inr (4, [.int (nI 0), .int (nI (cnt + 1)), .ref mw, .int (nI (pr ||| 2 ^ cnt)), .ref ma, .int (nI tol), .int (nI false.toNat), .ref mc, .ref mf, .ref mr, .ref mt, .ref mar, .ref mbe, .ref mou])), (mw, .inl (gI g, 12, .inl (aN (updN wt cnt w))))]) := by
  refine q_ofI (own := RX4) (by decide) rfl rfl (Nat.le_of_ble_eq_true rfl) n_int ?_
  intro p e s m below meth c A Q args E hmn h hend ls hl
  have hl : lv_has ls 2 [(0, .ref m0), (1, .int (nI w))] := hl
  have c_1 := E.1.2.2.2.2 (.fieldLink RX4 44 "DebateSolverModel" "thrown" "I") (by decide +kernel)
  have c_2 := (by decide +kernel : ∀ w ∈ wsX40, w ∈ wsX4_addArgument)
  have c_3 := cwS (R := { frames := 1, cells := 0, slots := 0, locals := 20 }) (rm := { frames := 0, cells := 0, slots := 0, locals := 0 }) (mc := 0) (ms := 0) 1 E.1.2.2.2.2 gX4_addArgument_X4_isWeight rfl rfl rfl (by decide +kernel) ⟨Nat.le_of_ble_eq_true rfl, Nat.le_of_ble_eq_true rfl⟩
  have c_5 := E.1.2.2.2.2 (.fieldLink RX4 47 "DebateSolverModel" "many" "I") (by decide +kernel)
  have c_6 := E.1.2.2.2.2 (.fieldLink RX4 9 "DebateSolverModel" "weights" "[I") (by decide +kernel)
  have c_7 := E.1.2.2.2.2 (.fieldLink RX4 62 "DebateSolverModel" "in" "I") (by decide +kernel)
  have c_8 := cwV (R := { frames := 1, cells := 0, slots := 0, locals := 20 }) (rm := { frames := 0, cells := 0, slots := 0, locals := 0 }) (mc := 0) (ms := 0) 0 E.1.2.2.2.2 gX4_addArgument_X4_change rfl rfl rfl (by decide +kernel) ⟨Nat.le_of_ble_eq_true rfl, Nat.le_of_ble_eq_true rfl⟩
  refine lv_aload_n E.1.1 E.1.2.1 dX4_addArgument_0 rfl (lv_at hl 0 rfl) ?_
  refine q_ic E 0 dX4_addArgument_1 (by decide) ?_
  refine q_put E h (C := RX4) (T := TX4) (N := 14) 4 rfl tyX4 tyX4_ok nmX4 c_2 0 rfl 0 (by decide) c_1 rfl (v := .int (nI 0)) (ty := .int) (by decide +kernel) rfl rfl (Nat.le_of_ble_eq_true rfl) dX4_addArgument_2 (w2 := [(m0, .inr (4, [.int (nI 0), .int (nI cnt), .ref mw, .int (nI pr), .ref ma, .int (nI tol), .int (nI kn.toNat), .ref mc, .ref mf, .ref mr, .ref mt, .ref mar, .ref mbe, .ref mou])), (mw, .inl (gI g, 12, .inl (aN wt)))]) rfl (fun H locs h => ?_)
  refine lv_iload_n E.1.1 E.1.2.1 dX4_addArgument_5 rfl (lv_at hl 1 rfl) ?_
  refine q_ki (w2 := fun _ => [(m0, .inr (4, [.int (nI 0), .int (nI cnt), .ref mw, .int (nI pr), .ref ma, .int (nI tol), .int (nI kn.toNat), .ref mc, .ref mf, .ref mr, .ref mt, .ref mar, .ref mbe, .ref mou])), (mw, .inl (gI g, 12, .inl (aN wt)))]) (wr := [(m0, .inr (4, [.int (nI 0), .int (nI cnt), .ref mw, .int (nI pr), .ref ma, .int (nI tol), .int (nI kn.toNat), .ref mc, .ref mf, .ref mr, .ref mt, .ref mar, .ref mbe, .ref mou])), (mw, .inl (gI g, 12, .inl (aN wt)))]) E h [] [0, 1] [0, 1] (va_runS (As := [.int (nI w)]) (rest := []) E.1 (k_X4_isWeight l g w (by omega) _) c_3 (q_preS E h [] rfl rfl) rfl rfl hl.1 rfl (lv_room (Nat.le_of_ble_eq_true rfl)) dX4_addArgument_6 ⟨Nat.zero_le _, Nat.zero_le _⟩) rfl rfl rfl (by decide) rfl (fun _ => rfl) (fun r4 _ H locs hr4 h => ?_)
  subst hr4
  refine q_bne E (tgt := 18) dX4_addArgument_9 (by decide) (fun hb9 => ?_) (fun hb9 => ?_)
  · skip
    refine lv_aload_n E.1.1 E.1.2.1 dX4_addArgument_18 rfl (lv_at hl 0 rfl) ?_
    refine q_get E h (C := RX4) (T := TX4) (N := 14) 4 rfl c_2 0 rfl 1 (by decide) c_5 (v := .int (nI cnt)) rfl dX4_addArgument_19 ?_
    refine q_bi E 12 dX4_addArgument_22 (by decide) ?_
    refine q_ne E (tgt := 33) (by omega) (by omega) dX4_addArgument_24 (by decide) (fun hb24 => ?_) (fun hb24 => ?_)
    · skip
      refine lv_aload_n E.1.1 E.1.2.1 dX4_addArgument_33 rfl (lv_at hl 0 rfl) ?_
      refine q_get E h (C := RX4) (T := TX4) (N := 14) 4 rfl c_2 0 rfl 2 (by decide) c_6 (v := .ref mw) rfl dX4_addArgument_34 ?_
      refine lv_aload_n E.1.1 E.1.2.1 dX4_addArgument_37 rfl (lv_at hl 0 rfl) ?_
      refine q_get E h (C := RX4) (T := TX4) (N := 14) 4 rfl c_2 0 rfl 1 (by decide) c_5 (v := .int (nI cnt)) rfl dX4_addArgument_38 ?_
      refine lv_iload_n E.1.1 E.1.2.1 dX4_addArgument_41 rfl (lv_at hl 1 rfl) ?_
      refine q_iast E h 1 (f := wt) rfl (by omega) (by decide) dX4_addArgument_42 (w2 := [(m0, .inr (4, [.int (nI 0), .int (nI cnt), .ref mw, .int (nI pr), .ref ma, .int (nI tol), .int (nI kn.toNat), .ref mc, .ref mf, .ref mr, .ref mt, .ref mar, .ref mbe, .ref mou])), (mw, .inl (gI g, 12, .inl (aN (updN wt cnt w))))]) rfl (fun H locs h => ?_)
      refine lv_aload_n E.1.1 E.1.2.1 dX4_addArgument_43 rfl (lv_at hl 0 rfl) ?_
      refine lv_dup E.1.1 E.1.2.1 dX4_addArgument_44 rfl ?_
      refine q_get E h (C := RX4) (T := TX4) (N := 14) 4 rfl c_2 0 rfl 3 (by decide) c_7 (v := .int (nI pr)) rfl dX4_addArgument_45 ?_
      refine q_ic E 1 dX4_addArgument_48 (by decide) ?_
      refine lv_aload_n E.1.1 E.1.2.1 dX4_addArgument_49 rfl (lv_at hl 0 rfl) ?_
      refine q_get E h (C := RX4) (T := TX4) (N := 14) 4 rfl c_2 0 rfl 1 (by decide) c_5 (v := .int (nI cnt)) rfl dX4_addArgument_50 ?_
      refine q_shl1 E (by omega) dX4_addArgument_53 ?_
      refine q_or E dX4_addArgument_54 ?_
      refine q_put E h (C := RX4) (T := TX4) (N := 14) 4 rfl tyX4 tyX4_ok nmX4 c_2 0 rfl 3 (by decide) c_7 rfl (v := .int (nI (pr ||| (2 ^ cnt)))) (ty := .int) (by decide +kernel) rfl rfl (Nat.le_of_ble_eq_true rfl) dX4_addArgument_55 (w2 := [(m0, .inr (4, [.int (nI 0), .int (nI cnt), .ref mw, .int (nI (pr ||| (2 ^ cnt))), .ref ma, .int (nI tol), .int (nI kn.toNat), .ref mc, .ref mf, .ref mr, .ref mt, .ref mar, .ref mbe, .ref mou])), (mw, .inl (gI g, 12, .inl (aN (updN wt cnt w))))]) rfl (fun H locs h => ?_)
      refine lv_aload_n E.1.1 E.1.2.1 dX4_addArgument_58 rfl (lv_at hl 0 rfl) ?_
      refine lv_dup E.1.1 E.1.2.1 dX4_addArgument_59 rfl ?_
      refine q_get E h (C := RX4) (T := TX4) (N := 14) 4 rfl c_2 0 rfl 1 (by decide) c_5 (v := .int (nI cnt)) rfl dX4_addArgument_60 ?_
      refine q_ic E 1 dX4_addArgument_63 (by decide) ?_
      refine q_add E dX4_addArgument_64 ?_
      refine q_put E h (C := RX4) (T := TX4) (N := 14) 4 rfl tyX4 tyX4_ok nmX4 c_2 0 rfl 1 (by decide) c_5 rfl (v := .int (nI (cnt + 1))) (ty := .int) (by decide +kernel) rfl rfl (Nat.le_of_ble_eq_true rfl) dX4_addArgument_65 (w2 := [(m0, .inr (4, [.int (nI 0), .int (nI (cnt + 1)), .ref mw, .int (nI (pr ||| (2 ^ cnt))), .ref ma, .int (nI tol), .int (nI kn.toNat), .ref mc, .ref mf, .ref mr, .ref mt, .ref mar, .ref mbe, .ref mou])), (mw, .inl (gI g, 12, .inl (aN (updN wt cnt w))))]) rfl (fun H locs h => ?_)
      refine lv_aload_n E.1.1 E.1.2.1 dX4_addArgument_68 rfl (lv_at hl 0 rfl) ?_
      refine q_kv (w2 := fun _ => [(m0, .inr (4, [.int (nI 0), .int (nI (cnt + 1)), .ref mw, .int (nI (pr ||| (2 ^ cnt))), .ref ma, .int (nI tol), .int (nI false.toNat), .ref mc, .ref mf, .ref mr, .ref mt, .ref mar, .ref mbe, .ref mou])), (mw, .inl (gI g, 12, .inl (aN (updN wt cnt w))))]) (wr := [(mw, .inl (gI g, 12, .inl (aN (updN wt cnt w))))]) E h [0] [1] [1, 0] (va_runV (As := []) (rest := []) E.1 (k_X4_change l g m0 mw ma mc mf mr mt mar mbe mou 0 (cnt + 1) (pr ||| (2 ^ cnt)) tol kn  _) c_8 (q_preV E h [0] rfl rfl (C := RX4) (T := TX4) (N := 14) 4 rfl 0 rfl) rfl rfl hl.1 rfl (lv_room (Nat.le_of_ble_eq_true rfl)) dX4_addArgument_69 ⟨Nat.zero_le _, Nat.zero_le _⟩) rfl rfl rfl (by decide) rfl (fun _ => rfl) (fun _ H locs _ h => ?_)
      refine lv_aload_n E.1.1 E.1.2.1 dX4_addArgument_72 rfl (lv_at hl 0 rfl) ?_
      refine q_get E h (C := RX4) (T := TX4) (N := 14) 4 rfl c_2 0 rfl 1 (by decide) c_5 (v := .int (nI (cnt + 1))) rfl dX4_addArgument_73 ?_
      refine q_ic E 1 dX4_addArgument_76 (by decide) ?_
      refine q_sub E (by omega) dX4_addArgument_77 ?_
      -- world at the end: [(m0, .inr (4, [.int (nI 0), .int (nI (cnt + 1)), .ref mw, .int (nI (pr ||| (2 ^ cnt))), .ref ma, .int (nI tol), .int (nI false.toNat), .ref mc, .ref mf, .ref mr, .ref mt, .ref mar, .ref mbe, .ref mou])), (mw, .inl (gI g, 12, .inl (aN (updN wt cnt w))))]
      exact hend _ _ _ _ _ () h dX4_addArgument_78 (by rw [Nat.add_sub_cancel])
    · skip
      exact absurd hb24 (by omega)
  · exact absurd hb9 (by decide)

set_option maxHeartbeats 4000000 in
set_option maxRecDepth 100000 in
theorem k_X4_addArgument_bad1 (l : Launch) (g : GK) (m0 mw ma mc mf mr mt mar mbe mou : Nat) (th cnt pr tol : Nat) (kn : Bool) (z : Int32) (hz : z < nI 1 ∨ nI 9 < z) : CI (S := Unit) l g yX4_addArgument wsX4_addArgument { frames := 1, cells := 0, slots := 0, locals := 21 } [.ref m0, .int z] [(m0, .inr (4, [.int (nI th), .int (nI cnt), .ref mw, .int (nI pr), .ref ma, .int (nI tol), .int (nI kn.toNat), .ref mc, .ref mf, .ref mr, .ref mt, .ref mar, .ref mbe, .ref mou]))] (fun r _ => r = nI 0) (fun _ => [(m0, .inr (4, [.int (nI 1), .int (nI cnt), .ref mw, .int (nI pr), .ref ma, .int (nI tol), .int (nI kn.toNat), .ref mc, .ref mf, .ref mr, .ref mt, .ref mar, .ref mbe, .ref mou]))]) := by
  refine q_ofI (own := RX4) (by decide) rfl rfl (Nat.le_of_ble_eq_true rfl) n_int ?_
  intro p e s m below meth c A Q args E hmn h hend ls hl
  have hl : lv_has ls 2 [(0, .ref m0), (1, .int z)] := hl
  have c_1 := E.1.2.2.2.2 (.fieldLink RX4 44 "DebateSolverModel" "thrown" "I") (by decide +kernel)
  have c_2 := (by decide +kernel : ∀ w ∈ wsX40, w ∈ wsX4_addArgument)
  have c_3 := cwS (R := { frames := 1, cells := 0, slots := 0, locals := 21 }) (rm := { frames := 0, cells := 0, slots := 0, locals := 0 }) (mc := 0) (ms := 0) 1 E.1.2.2.2.2 gX4_addArgument_X4_isWeight rfl rfl rfl (by decide +kernel) ⟨Nat.le_of_ble_eq_true rfl, Nat.le_of_ble_eq_true rfl⟩
  have c_5 := cwV (R := { frames := 1, cells := 0, slots := 0, locals := 21 }) (rm := { frames := 0, cells := 0, slots := 0, locals := 0 }) (mc := 0) (ms := 0) 1 E.1.2.2.2.2 gX4_addArgument_X4_fail rfl rfl rfl (by decide +kernel) ⟨Nat.le_of_ble_eq_true rfl, Nat.le_of_ble_eq_true rfl⟩
  refine lv_aload_n E.1.1 E.1.2.1 dX4_addArgument_0 rfl (lv_at hl 0 rfl) ?_
  refine q_ic E 0 dX4_addArgument_1 (by decide) ?_
  refine q_put E h (C := RX4) (T := TX4) (N := 14) 4 rfl tyX4 tyX4_ok nmX4 c_2 0 rfl 0 (by decide) c_1 rfl (v := .int (nI 0)) (ty := .int) (by decide +kernel) rfl rfl (Nat.le_of_ble_eq_true rfl) dX4_addArgument_2 (w2 := [(m0, .inr (4, [.int (nI 0), .int (nI cnt), .ref mw, .int (nI pr), .ref ma, .int (nI tol), .int (nI kn.toNat), .ref mc, .ref mf, .ref mr, .ref mt, .ref mar, .ref mbe, .ref mou]))]) rfl (fun H locs h => ?_)
  refine lv_iload_n E.1.1 E.1.2.1 dX4_addArgument_5 rfl (lv_at hl 1 rfl) ?_
  refine q_ki (w2 := fun _ => [(m0, .inr (4, [.int (nI 0), .int (nI cnt), .ref mw, .int (nI pr), .ref ma, .int (nI tol), .int (nI kn.toNat), .ref mc, .ref mf, .ref mr, .ref mt, .ref mar, .ref mbe, .ref mou]))]) (wr := [(m0, .inr (4, [.int (nI 0), .int (nI cnt), .ref mw, .int (nI pr), .ref ma, .int (nI tol), .int (nI kn.toNat), .ref mc, .ref mf, .ref mr, .ref mt, .ref mar, .ref mbe, .ref mou]))]) E h [] [0] [0] (va_runS (As := [.int z]) (rest := []) E.1 (k_X4_isWeight_bad l g z (by exact hz) _) c_3 (q_preS E h [] rfl rfl) rfl rfl hl.1 rfl (lv_room (Nat.le_of_ble_eq_true rfl)) dX4_addArgument_6 ⟨Nat.zero_le _, Nat.zero_le _⟩) rfl rfl rfl (by decide) rfl (fun _ => rfl) (fun r4 _ H locs hr4 h => ?_)
  subst hr4
  refine q_bne E (tgt := 18) dX4_addArgument_9 (by decide) (fun hb9 => ?_) (fun hb9 => ?_)
  · exact absurd hb9 (by decide)
  · skip
    refine lv_aload_n E.1.1 E.1.2.1 dX4_addArgument_12 rfl (lv_at hl 0 rfl) ?_
    refine q_ic E 1 dX4_addArgument_13 (by decide) ?_
    refine q_ki (w2 := fun _ => [(m0, .inr (4, [.int (nI 1), .int (nI cnt), .ref mw, .int (nI pr), .ref ma, .int (nI tol), .int (nI kn.toNat), .ref mc, .ref mf, .ref mr, .ref mt, .ref mar, .ref mbe, .ref mou]))]) (wr := []) E h [0] [] [0] (va_runV (As := [.int (nI 1)]) (rest := []) E.1 (k_X4_fail l g m0 mw ma mc mf mr mt mar mbe mou 0 cnt pr tol kn 1  _) c_5 (q_preV E h [0] rfl rfl (C := RX4) (T := TX4) (N := 14) 4 rfl 0 rfl) rfl rfl hl.1 rfl (lv_room (Nat.le_of_ble_eq_true rfl)) dX4_addArgument_14 ⟨Nat.zero_le _, Nat.zero_le _⟩) rfl rfl rfl (by decide) rfl (fun _ => rfl) (fun r6 _ H locs hr6 h => ?_)
    subst hr6
    -- world at the end: [(m0, .inr (4, [.int (nI 1), .int (nI cnt), .ref mw, .int (nI pr), .ref ma, .int (nI tol), .int (nI kn.toNat), .ref mc, .ref mf, .ref mr, .ref mt, .ref mar, .ref mbe, .ref mou]))]
    exact hend _ _ _ _ _ () h dX4_addArgument_17 rfl

set_option maxHeartbeats 4000000 in
set_option maxRecDepth 100000 in
theorem k_X4_addArgument_bad2 (l : Launch) (g : GK) (m0 mw ma mc mf mr mt mar mbe mou : Nat) (th cnt pr tol : Nat) (kn : Bool) (w : Nat) (hw : 1 ≤ w ∧ w ≤ 9) (hc2 : cnt = 12) : CI (S := Unit) l g yX4_addArgument wsX4_addArgument { frames := 1, cells := 0, slots := 0, locals := 21 } [.ref m0, .int (nI w)] [(m0, .inr (4, [.int (nI th), .int (nI cnt), .ref mw, .int (nI pr), .ref ma, .int (nI tol), .int (nI kn.toNat), .ref mc, .ref mf, .ref mr, .ref mt, .ref mar, .ref mbe, .ref mou]))] (fun r _ => r = nI 0) (fun _ => [(m0, .inr (4, [.int (nI 2), .int (nI cnt), .ref mw, .int (nI pr), .ref ma, .int (nI tol), .int (nI kn.toNat), .ref mc, .ref mf, .ref mr, .ref mt, .ref mar, .ref mbe, .ref mou]))]) := by
  refine q_ofI (own := RX4) (by decide) rfl rfl (Nat.le_of_ble_eq_true rfl) n_int ?_
  intro p e s m below meth c A Q args E hmn h hend ls hl
  have hl : lv_has ls 2 [(0, .ref m0), (1, .int (nI w))] := hl
  have c_1 := E.1.2.2.2.2 (.fieldLink RX4 44 "DebateSolverModel" "thrown" "I") (by decide +kernel)
  have c_2 := (by decide +kernel : ∀ w ∈ wsX40, w ∈ wsX4_addArgument)
  have c_3 := cwS (R := { frames := 1, cells := 0, slots := 0, locals := 21 }) (rm := { frames := 0, cells := 0, slots := 0, locals := 0 }) (mc := 0) (ms := 0) 1 E.1.2.2.2.2 gX4_addArgument_X4_isWeight rfl rfl rfl (by decide +kernel) ⟨Nat.le_of_ble_eq_true rfl, Nat.le_of_ble_eq_true rfl⟩
  have c_5 := E.1.2.2.2.2 (.fieldLink RX4 47 "DebateSolverModel" "many" "I") (by decide +kernel)
  have c_6 := cwV (R := { frames := 1, cells := 0, slots := 0, locals := 21 }) (rm := { frames := 0, cells := 0, slots := 0, locals := 0 }) (mc := 0) (ms := 0) 1 E.1.2.2.2.2 gX4_addArgument_X4_fail rfl rfl rfl (by decide +kernel) ⟨Nat.le_of_ble_eq_true rfl, Nat.le_of_ble_eq_true rfl⟩
  refine lv_aload_n E.1.1 E.1.2.1 dX4_addArgument_0 rfl (lv_at hl 0 rfl) ?_
  refine q_ic E 0 dX4_addArgument_1 (by decide) ?_
  refine q_put E h (C := RX4) (T := TX4) (N := 14) 4 rfl tyX4 tyX4_ok nmX4 c_2 0 rfl 0 (by decide) c_1 rfl (v := .int (nI 0)) (ty := .int) (by decide +kernel) rfl rfl (Nat.le_of_ble_eq_true rfl) dX4_addArgument_2 (w2 := [(m0, .inr (4, [.int (nI 0), .int (nI cnt), .ref mw, .int (nI pr), .ref ma, .int (nI tol), .int (nI kn.toNat), .ref mc, .ref mf, .ref mr, .ref mt, .ref mar, .ref mbe, .ref mou]))]) rfl (fun H locs h => ?_)
  refine lv_iload_n E.1.1 E.1.2.1 dX4_addArgument_5 rfl (lv_at hl 1 rfl) ?_
  refine q_ki (w2 := fun _ => [(m0, .inr (4, [.int (nI 0), .int (nI cnt), .ref mw, .int (nI pr), .ref ma, .int (nI tol), .int (nI kn.toNat), .ref mc, .ref mf, .ref mr, .ref mt, .ref mar, .ref mbe, .ref mou]))]) (wr := [(m0, .inr (4, [.int (nI 0), .int (nI cnt), .ref mw, .int (nI pr), .ref ma, .int (nI tol), .int (nI kn.toNat), .ref mc, .ref mf, .ref mr, .ref mt, .ref mar, .ref mbe, .ref mou]))]) E h [] [0] [0] (va_runS (As := [.int (nI w)]) (rest := []) E.1 (k_X4_isWeight l g w (by omega) _) c_3 (q_preS E h [] rfl rfl) rfl rfl hl.1 rfl (lv_room (Nat.le_of_ble_eq_true rfl)) dX4_addArgument_6 ⟨Nat.zero_le _, Nat.zero_le _⟩) rfl rfl rfl (by decide) rfl (fun _ => rfl) (fun r4 _ H locs hr4 h => ?_)
  subst hr4
  refine q_bne E (tgt := 18) dX4_addArgument_9 (by decide) (fun hb9 => ?_) (fun hb9 => ?_)
  · skip
    refine lv_aload_n E.1.1 E.1.2.1 dX4_addArgument_18 rfl (lv_at hl 0 rfl) ?_
    refine q_get E h (C := RX4) (T := TX4) (N := 14) 4 rfl c_2 0 rfl 1 (by decide) c_5 (v := .int (nI cnt)) rfl dX4_addArgument_19 ?_
    refine q_bi E 12 dX4_addArgument_22 (by decide) ?_
    refine q_ne E (tgt := 33) (by omega) (by omega) dX4_addArgument_24 (by decide) (fun hb24 => ?_) (fun hb24 => ?_)
    · skip
      exact absurd hc2 hb24
    · skip
      refine lv_aload_n E.1.1 E.1.2.1 dX4_addArgument_27 rfl (lv_at hl 0 rfl) ?_
      refine q_ic E 2 dX4_addArgument_28 (by decide) ?_
      refine q_ki (w2 := fun _ => [(m0, .inr (4, [.int (nI 2), .int (nI cnt), .ref mw, .int (nI pr), .ref ma, .int (nI tol), .int (nI kn.toNat), .ref mc, .ref mf, .ref mr, .ref mt, .ref mar, .ref mbe, .ref mou]))]) (wr := []) E h [0] [] [0] (va_runV (As := [.int (nI 2)]) (rest := []) E.1 (k_X4_fail l g m0 mw ma mc mf mr mt mar mbe mou 0 cnt pr tol kn 2  _) c_6 (q_preV E h [0] rfl rfl (C := RX4) (T := TX4) (N := 14) 4 rfl 0 rfl) rfl rfl hl.1 rfl (lv_room (Nat.le_of_ble_eq_true rfl)) dX4_addArgument_29 ⟨Nat.zero_le _, Nat.zero_le _⟩) rfl rfl rfl (by decide) rfl (fun _ => rfl) (fun r7 _ H locs hr7 h => ?_)
      subst hr7
      -- world at the end: [(m0, .inr (4, [.int (nI 2), .int (nI cnt), .ref mw, .int (nI pr), .ref ma, .int (nI tol), .int (nI kn.toNat), .ref mc, .ref mf, .ref mr, .ref mt, .ref mar, .ref mbe, .ref mou]))]
      exact hend _ _ _ _ _ () h dX4_addArgument_32 rfl
  · exact absurd hb9 (by decide)

set_option maxHeartbeats 4000000 in
set_option maxRecDepth 100000 in
theorem k_X4_setWeight (l : Launch) (g : GK) (m0 mw ma mc mf mr mt mar mbe mou : Nat) (th cnt pr tol : Nat) (kn : Bool) (wt : Nat → Nat) (a w : Nat) (hcnt : cnt ≤ 12) (ha : a < cnt) (hw : 1 ≤ w ∧ w ≤ 9) : CI (S := Unit) l g yX4_setWeight wsX4_setWeight { frames := 1, cells := 0, slots := 0, locals := 21 } [.ref m0, .int (nI a), .int (nI w)] [(m0, .inr (4, [.int (nI th), .int (nI cnt), .ref mw, .int (nI pr), .ref ma, .int (nI tol), .int (nI kn.toNat), .ref mc, .ref mf, .ref mr, .ref mt, .ref mar, .ref mbe, .ref mou])), (mw, .inl (gI g, 12, .inl (aN wt)))] (fun r _ => r = nI (wt a)) (fun _ => [(m0, .inr (4, [.int (nI 0), .int (nI cnt), .ref mw, .int (nI pr), .ref ma, .int (nI tol), .int (nI false.toNat), .ref mc, .ref mf, .ref mr, .ref mt, .ref mar, .ref mbe, .ref mou])), (mw, .inl (gI g, 12, .inl (aN (updN wt a w))))]) := by
  refine q_ofI (own := RX4) (by decide) rfl rfl (Nat.le_of_ble_eq_true rfl) n_int ?_
  intro p e s m below meth c A Q args E hmn h hend ls hl
  have hl : lv_has ls 4 [(0, .ref m0), (1, .int (nI a)), (2, .int (nI w))] := hl
  have c_1 := E.1.2.2.2.2 (.fieldLink RX4 44 "DebateSolverModel" "thrown" "I") (by decide +kernel)
  have c_2 := (by decide +kernel : ∀ w ∈ wsX40, w ∈ wsX4_setWeight)
  have c_3 := cwV (R := { frames := 1, cells := 0, slots := 0, locals := 21 }) (rm := { frames := 0, cells := 0, slots := 0, locals := 0 }) (mc := 0) (ms := 0) 1 E.1.2.2.2.2 gX4_setWeight_X4_isArgument rfl rfl rfl (by decide +kernel) ⟨Nat.le_of_ble_eq_true rfl, Nat.le_of_ble_eq_true rfl⟩
  have c_5 := cwS (R := { frames := 1, cells := 0, slots := 0, locals := 21 }) (rm := { frames := 0, cells := 0, slots := 0, locals := 0 }) (mc := 0) (ms := 0) 1 E.1.2.2.2.2 gX4_setWeight_X4_isWeight rfl rfl rfl (by decide +kernel) ⟨Nat.le_of_ble_eq_true rfl, Nat.le_of_ble_eq_true rfl⟩
  have c_7 := E.1.2.2.2.2 (.fieldLink RX4 9 "DebateSolverModel" "weights" "[I") (by decide +kernel)
  have c_8 := cwV (R := { frames := 1, cells := 0, slots := 0, locals := 21 }) (rm := { frames := 0, cells := 0, slots := 0, locals := 0 }) (mc := 0) (ms := 0) 0 E.1.2.2.2.2 gX4_setWeight_X4_change rfl rfl rfl (by decide +kernel) ⟨Nat.le_of_ble_eq_true rfl, Nat.le_of_ble_eq_true rfl⟩
  refine lv_aload_n E.1.1 E.1.2.1 dX4_setWeight_0 rfl (lv_at hl 0 rfl) ?_
  refine q_ic E 0 dX4_setWeight_1 (by decide) ?_
  refine q_put E h (C := RX4) (T := TX4) (N := 14) 4 rfl tyX4 tyX4_ok nmX4 c_2 0 rfl 0 (by decide) c_1 rfl (v := .int (nI 0)) (ty := .int) (by decide +kernel) rfl rfl (Nat.le_of_ble_eq_true rfl) dX4_setWeight_2 (w2 := [(m0, .inr (4, [.int (nI 0), .int (nI cnt), .ref mw, .int (nI pr), .ref ma, .int (nI tol), .int (nI kn.toNat), .ref mc, .ref mf, .ref mr, .ref mt, .ref mar, .ref mbe, .ref mou])), (mw, .inl (gI g, 12, .inl (aN wt)))]) rfl (fun H locs h => ?_)
  refine lv_aload_n E.1.1 E.1.2.1 dX4_setWeight_5 rfl (lv_at hl 0 rfl) ?_
  refine lv_iload_n E.1.1 E.1.2.1 dX4_setWeight_6 rfl (lv_at hl 1 rfl) ?_
  refine q_ki (w2 := fun _ => [(m0, .inr (4, [.int (nI 0), .int (nI cnt), .ref mw, .int (nI pr), .ref ma, .int (nI tol), .int (nI kn.toNat), .ref mc, .ref mf, .ref mr, .ref mt, .ref mar, .ref mbe, .ref mou])), (mw, .inl (gI g, 12, .inl (aN wt)))]) (wr := [(mw, .inl (gI g, 12, .inl (aN wt)))]) E h [0] [1] [1, 0] (va_runV (As := [.int (nI a)]) (rest := []) E.1 (k_X4_isArgument l g m0 mw ma mc mf mr mt mar mbe mou 0 cnt pr tol kn a (by omega) (by omega) _) c_3 (q_preV E h [0] rfl rfl (C := RX4) (T := TX4) (N := 14) 4 rfl 0 rfl) rfl rfl hl.1 rfl (lv_room (Nat.le_of_ble_eq_true rfl)) dX4_setWeight_7 ⟨Nat.zero_le _, Nat.zero_le _⟩) rfl rfl rfl (by decide) rfl (fun _ => rfl) (fun r4 _ H locs hr4 h => ?_)
  subst hr4
  refine q_bne E (tgt := 19) dX4_setWeight_10 (by decide) (fun hb10 => ?_) (fun hb10 => ?_)
  · skip
    refine lv_iload_n E.1.1 E.1.2.1 dX4_setWeight_19 rfl (lv_at hl 2 rfl) ?_
    refine q_ki (w2 := fun _ => [(m0, .inr (4, [.int (nI 0), .int (nI cnt), .ref mw, .int (nI pr), .ref ma, .int (nI tol), .int (nI kn.toNat), .ref mc, .ref mf, .ref mr, .ref mt, .ref mar, .ref mbe, .ref mou])), (mw, .inl (gI g, 12, .inl (aN wt)))]) (wr := [(m0, .inr (4, [.int (nI 0), .int (nI cnt), .ref mw, .int (nI pr), .ref ma, .int (nI tol), .int (nI kn.toNat), .ref mc, .ref mf, .ref mr, .ref mt, .ref mar, .ref mbe, .ref mou])), (mw, .inl (gI g, 12, .inl (aN wt)))]) E h [] [0, 1] [0, 1] (va_runS (As := [.int (nI w)]) (rest := []) E.1 (k_X4_isWeight l g w (by omega) _) c_5 (q_preS E h [] rfl rfl) rfl rfl hl.1 rfl (lv_room (Nat.le_of_ble_eq_true rfl)) dX4_setWeight_20 ⟨Nat.zero_le _, Nat.zero_le _⟩) rfl rfl rfl (by decide) rfl (fun _ => rfl) (fun r6 _ H locs hr6 h => ?_)
    subst hr6
    refine q_bne E (tgt := 32) dX4_setWeight_23 (by decide) (fun hb23 => ?_) (fun hb23 => ?_)
    · skip
      refine lv_aload_n E.1.1 E.1.2.1 dX4_setWeight_32 rfl (lv_at hl 0 rfl) ?_
      refine q_get E h (C := RX4) (T := TX4) (N := 14) 4 rfl c_2 0 rfl 2 (by decide) c_7 (v := .ref mw) rfl dX4_setWeight_33 ?_
      refine lv_iload_n E.1.1 E.1.2.1 dX4_setWeight_36 rfl (lv_at hl 1 rfl) ?_
      refine q_iald E h 1 (f := wt) rfl (by omega) (by decide) dX4_setWeight_37 ?_
      refine lv_istore_n (lv' := [(3, .int (nI (wt a))), (0, .ref m0), (1, .int (nI a)), (2, .int (nI w))]) E.1.1 E.1.2.1 dX4_setWeight_38 rfl hl (by decide) rfl (fun ls hl => ?_)
      refine lv_aload_n E.1.1 E.1.2.1 dX4_setWeight_39 rfl (lv_at hl 1 rfl) ?_
      refine q_get E h (C := RX4) (T := TX4) (N := 14) 4 rfl c_2 0 rfl 2 (by decide) c_7 (v := .ref mw) rfl dX4_setWeight_40 ?_
      refine lv_iload_n E.1.1 E.1.2.1 dX4_setWeight_43 rfl (lv_at hl 2 rfl) ?_
      refine lv_iload_n E.1.1 E.1.2.1 dX4_setWeight_44 rfl (lv_at hl 3 rfl) ?_
      refine q_iast E h 1 (f := wt) rfl (by omega) (by decide) dX4_setWeight_45 (w2 := [(m0, .inr (4, [.int (nI 0), .int (nI cnt), .ref mw, .int (nI pr), .ref ma, .int (nI tol), .int (nI kn.toNat), .ref mc, .ref mf, .ref mr, .ref mt, .ref mar, .ref mbe, .ref mou])), (mw, .inl (gI g, 12, .inl (aN (updN wt a w))))]) rfl (fun H locs h => ?_)
      refine lv_aload_n E.1.1 E.1.2.1 dX4_setWeight_46 rfl (lv_at hl 1 rfl) ?_
      refine q_kv (w2 := fun _ => [(m0, .inr (4, [.int (nI 0), .int (nI cnt), .ref mw, .int (nI pr), .ref ma, .int (nI tol), .int (nI false.toNat), .ref mc, .ref mf, .ref mr, .ref mt, .ref mar, .ref mbe, .ref mou])), (mw, .inl (gI g, 12, .inl (aN (updN wt a w))))]) (wr := [(mw, .inl (gI g, 12, .inl (aN (updN wt a w))))]) E h [0] [1] [1, 0] (va_runV (As := []) (rest := []) E.1 (k_X4_change l g m0 mw ma mc mf mr mt mar mbe mou 0 cnt pr tol kn  _) c_8 (q_preV E h [0] rfl rfl (C := RX4) (T := TX4) (N := 14) 4 rfl 0 rfl) rfl rfl hl.1 rfl (lv_room (Nat.le_of_ble_eq_true rfl)) dX4_setWeight_47 ⟨Nat.zero_le _, Nat.zero_le _⟩) rfl rfl rfl (by decide) rfl (fun _ => rfl) (fun _ H locs _ h => ?_)
      refine lv_iload_n E.1.1 E.1.2.1 dX4_setWeight_50 rfl (lv_at hl 0 rfl) ?_
      -- world at the end: [(m0, .inr (4, [.int (nI 0), .int (nI cnt), .ref mw, .int (nI pr), .ref ma, .int (nI tol), .int (nI false.toNat), .ref mc, .ref mf, .ref mr, .ref mt, .ref mar, .ref mbe, .ref mou])), (mw, .inl (gI g, 12, .inl (aN (updN wt a w))))]
      exact hend _ _ _ _ _ () h dX4_setWeight_51 rfl
    · exact absurd hb23 (by decide)
  · exact absurd hb10 (by decide)

set_option maxHeartbeats 4000000 in
set_option maxRecDepth 100000 in
theorem k_X4_setWeight_bad1 (l : Launch) (g : GK) (m0 mw ma mc mf mr mt mar mbe mou : Nat) (th cnt pr tol : Nat) (kn : Bool) (z y : Int32) (hz : z < 0 ∨ nI cnt ≤ z) : CI (S := Unit) l g yX4_setWeight wsX4_setWeight { frames := 1, cells := 0, slots := 0, locals := 21 } [.ref m0, .int z, .int y] [(m0, .inr (4, [.int (nI th), .int (nI cnt), .ref mw, .int (nI pr), .ref ma, .int (nI tol), .int (nI kn.toNat), .ref mc, .ref mf, .ref mr, .ref mt, .ref mar, .ref mbe, .ref mou]))] (fun r _ => r = nI 0) (fun _ => [(m0, .inr (4, [.int (nI 1), .int (nI cnt), .ref mw, .int (nI pr), .ref ma, .int (nI tol), .int (nI kn.toNat), .ref mc, .ref mf, .ref mr, .ref mt, .ref mar, .ref mbe, .ref mou]))]) := by
  refine q_ofI (own := RX4) (by decide) rfl rfl (Nat.le_of_ble_eq_true rfl) n_int ?_
  intro p e s m below meth c A Q args E hmn h hend ls hl
  have hl : lv_has ls 4 [(0, .ref m0), (1, .int z), (2, .int y)] := hl
  have c_1 := E.1.2.2.2.2 (.fieldLink RX4 44 "DebateSolverModel" "thrown" "I") (by decide +kernel)
  have c_2 := (by decide +kernel : ∀ w ∈ wsX40, w ∈ wsX4_setWeight)
  have c_3 := cwV (R := { frames := 1, cells := 0, slots := 0, locals := 21 }) (rm := { frames := 0, cells := 0, slots := 0, locals := 0 }) (mc := 0) (ms := 0) 1 E.1.2.2.2.2 gX4_setWeight_X4_isArgument rfl rfl rfl (by decide +kernel) ⟨Nat.le_of_ble_eq_true rfl, Nat.le_of_ble_eq_true rfl⟩
  have c_5 := cwV (R := { frames := 1, cells := 0, slots := 0, locals := 21 }) (rm := { frames := 0, cells := 0, slots := 0, locals := 0 }) (mc := 0) (ms := 0) 1 E.1.2.2.2.2 gX4_setWeight_X4_fail rfl rfl rfl (by decide +kernel) ⟨Nat.le_of_ble_eq_true rfl, Nat.le_of_ble_eq_true rfl⟩
  refine lv_aload_n E.1.1 E.1.2.1 dX4_setWeight_0 rfl (lv_at hl 0 rfl) ?_
  refine q_ic E 0 dX4_setWeight_1 (by decide) ?_
  refine q_put E h (C := RX4) (T := TX4) (N := 14) 4 rfl tyX4 tyX4_ok nmX4 c_2 0 rfl 0 (by decide) c_1 rfl (v := .int (nI 0)) (ty := .int) (by decide +kernel) rfl rfl (Nat.le_of_ble_eq_true rfl) dX4_setWeight_2 (w2 := [(m0, .inr (4, [.int (nI 0), .int (nI cnt), .ref mw, .int (nI pr), .ref ma, .int (nI tol), .int (nI kn.toNat), .ref mc, .ref mf, .ref mr, .ref mt, .ref mar, .ref mbe, .ref mou]))]) rfl (fun H locs h => ?_)
  refine lv_aload_n E.1.1 E.1.2.1 dX4_setWeight_5 rfl (lv_at hl 0 rfl) ?_
  refine lv_iload_n E.1.1 E.1.2.1 dX4_setWeight_6 rfl (lv_at hl 1 rfl) ?_
  refine q_ki (w2 := fun _ => [(m0, .inr (4, [.int (nI 0), .int (nI cnt), .ref mw, .int (nI pr), .ref ma, .int (nI tol), .int (nI kn.toNat), .ref mc, .ref mf, .ref mr, .ref mt, .ref mar, .ref mbe, .ref mou]))]) (wr := []) E h [0] [] [0] (va_runV (As := [.int z]) (rest := []) E.1 (k_X4_isArgument_bad l g m0 mw ma mc mf mr mt mar mbe mou 0 cnt pr tol kn z (by exact hz) _) c_3 (q_preV E h [0] rfl rfl (C := RX4) (T := TX4) (N := 14) 4 rfl 0 rfl) rfl rfl hl.1 rfl (lv_room (Nat.le_of_ble_eq_true rfl)) dX4_setWeight_7 ⟨Nat.zero_le _, Nat.zero_le _⟩) rfl rfl rfl (by decide) rfl (fun _ => rfl) (fun r4 _ H locs hr4 h => ?_)
  subst hr4
  refine q_bne E (tgt := 19) dX4_setWeight_10 (by decide) (fun hb10 => ?_) (fun hb10 => ?_)
  · exact absurd hb10 (by decide)
  · skip
    refine lv_aload_n E.1.1 E.1.2.1 dX4_setWeight_13 rfl (lv_at hl 0 rfl) ?_
    refine q_ic E 1 dX4_setWeight_14 (by decide) ?_
    refine q_ki (w2 := fun _ => [(m0, .inr (4, [.int (nI 1), .int (nI cnt), .ref mw, .int (nI pr), .ref ma, .int (nI tol), .int (nI kn.toNat), .ref mc, .ref mf, .ref mr, .ref mt, .ref mar, .ref mbe, .ref mou]))]) (wr := []) E h [0] [] [0] (va_runV (As := [.int (nI 1)]) (rest := []) E.1 (k_X4_fail l g m0 mw ma mc mf mr mt mar mbe mou 0 cnt pr tol kn 1  _) c_5 (q_preV E h [0] rfl rfl (C := RX4) (T := TX4) (N := 14) 4 rfl 0 rfl) rfl rfl hl.1 rfl (lv_room (Nat.le_of_ble_eq_true rfl)) dX4_setWeight_15 ⟨Nat.zero_le _, Nat.zero_le _⟩) rfl rfl rfl (by decide) rfl (fun _ => rfl) (fun r6 _ H locs hr6 h => ?_)
    subst hr6
    -- world at the end: [(m0, .inr (4, [.int (nI 1), .int (nI cnt), .ref mw, .int (nI pr), .ref ma, .int (nI tol), .int (nI kn.toNat), .ref mc, .ref mf, .ref mr, .ref mt, .ref mar, .ref mbe, .ref mou]))]
    exact hend _ _ _ _ _ () h dX4_setWeight_18 rfl

set_option maxHeartbeats 4000000 in
set_option maxRecDepth 100000 in
theorem k_X4_setWeight_bad2 (l : Launch) (g : GK) (m0 mw ma mc mf mr mt mar mbe mou : Nat) (th cnt pr tol : Nat) (kn : Bool) (a : Nat) (y : Int32) (hcnt : cnt ≤ 12) (ha : a < cnt) (hy : y < nI 1 ∨ nI 9 < y) : CI (S := Unit) l g yX4_setWeight wsX4_setWeight { frames := 1, cells := 0, slots := 0, locals := 21 } [.ref m0, .int (nI a), .int y] [(m0, .inr (4, [.int (nI th), .int (nI cnt), .ref mw, .int (nI pr), .ref ma, .int (nI tol), .int (nI kn.toNat), .ref mc, .ref mf, .ref mr, .ref mt, .ref mar, .ref mbe, .ref mou]))] (fun r _ => r = nI 0) (fun _ => [(m0, .inr (4, [.int (nI 2), .int (nI cnt), .ref mw, .int (nI pr), .ref ma, .int (nI tol), .int (nI kn.toNat), .ref mc, .ref mf, .ref mr, .ref mt, .ref mar, .ref mbe, .ref mou]))]) := by
  refine q_ofI (own := RX4) (by decide) rfl rfl (Nat.le_of_ble_eq_true rfl) n_int ?_
  intro p e s m below meth c A Q args E hmn h hend ls hl
  have hl : lv_has ls 4 [(0, .ref m0), (1, .int (nI a)), (2, .int y)] := hl
  have c_1 := E.1.2.2.2.2 (.fieldLink RX4 44 "DebateSolverModel" "thrown" "I") (by decide +kernel)
  have c_2 := (by decide +kernel : ∀ w ∈ wsX40, w ∈ wsX4_setWeight)
  have c_3 := cwV (R := { frames := 1, cells := 0, slots := 0, locals := 21 }) (rm := { frames := 0, cells := 0, slots := 0, locals := 0 }) (mc := 0) (ms := 0) 1 E.1.2.2.2.2 gX4_setWeight_X4_isArgument rfl rfl rfl (by decide +kernel) ⟨Nat.le_of_ble_eq_true rfl, Nat.le_of_ble_eq_true rfl⟩
  have c_5 := cwS (R := { frames := 1, cells := 0, slots := 0, locals := 21 }) (rm := { frames := 0, cells := 0, slots := 0, locals := 0 }) (mc := 0) (ms := 0) 1 E.1.2.2.2.2 gX4_setWeight_X4_isWeight rfl rfl rfl (by decide +kernel) ⟨Nat.le_of_ble_eq_true rfl, Nat.le_of_ble_eq_true rfl⟩
  have c_7 := cwV (R := { frames := 1, cells := 0, slots := 0, locals := 21 }) (rm := { frames := 0, cells := 0, slots := 0, locals := 0 }) (mc := 0) (ms := 0) 1 E.1.2.2.2.2 gX4_setWeight_X4_fail rfl rfl rfl (by decide +kernel) ⟨Nat.le_of_ble_eq_true rfl, Nat.le_of_ble_eq_true rfl⟩
  refine lv_aload_n E.1.1 E.1.2.1 dX4_setWeight_0 rfl (lv_at hl 0 rfl) ?_
  refine q_ic E 0 dX4_setWeight_1 (by decide) ?_
  refine q_put E h (C := RX4) (T := TX4) (N := 14) 4 rfl tyX4 tyX4_ok nmX4 c_2 0 rfl 0 (by decide) c_1 rfl (v := .int (nI 0)) (ty := .int) (by decide +kernel) rfl rfl (Nat.le_of_ble_eq_true rfl) dX4_setWeight_2 (w2 := [(m0, .inr (4, [.int (nI 0), .int (nI cnt), .ref mw, .int (nI pr), .ref ma, .int (nI tol), .int (nI kn.toNat), .ref mc, .ref mf, .ref mr, .ref mt, .ref mar, .ref mbe, .ref mou]))]) rfl (fun H locs h => ?_)
  refine lv_aload_n E.1.1 E.1.2.1 dX4_setWeight_5 rfl (lv_at hl 0 rfl) ?_
  refine lv_iload_n E.1.1 E.1.2.1 dX4_setWeight_6 rfl (lv_at hl 1 rfl) ?_
  refine q_ki (w2 := fun _ => [(m0, .inr (4, [.int (nI 0), .int (nI cnt), .ref mw, .int (nI pr), .ref ma, .int (nI tol), .int (nI kn.toNat), .ref mc, .ref mf, .ref mr, .ref mt, .ref mar, .ref mbe, .ref mou]))]) (wr := []) E h [0] [] [0] (va_runV (As := [.int (nI a)]) (rest := []) E.1 (k_X4_isArgument l g m0 mw ma mc mf mr mt mar mbe mou 0 cnt pr tol kn a (by omega) (by omega) _) c_3 (q_preV E h [0] rfl rfl (C := RX4) (T := TX4) (N := 14) 4 rfl 0 rfl) rfl rfl hl.1 rfl (lv_room (Nat.le_of_ble_eq_true rfl)) dX4_setWeight_7 ⟨Nat.zero_le _, Nat.zero_le _⟩) rfl rfl rfl (by decide) rfl (fun _ => rfl) (fun r4 _ H locs hr4 h => ?_)
  subst hr4
  refine q_bne E (tgt := 19) dX4_setWeight_10 (by decide) (fun hb10 => ?_) (fun hb10 => ?_)
  · skip
    refine lv_iload_n E.1.1 E.1.2.1 dX4_setWeight_19 rfl (lv_at hl 2 rfl) ?_
    refine q_ki (w2 := fun _ => [(m0, .inr (4, [.int (nI 0), .int (nI cnt), .ref mw, .int (nI pr), .ref ma, .int (nI tol), .int (nI kn.toNat), .ref mc, .ref mf, .ref mr, .ref mt, .ref mar, .ref mbe, .ref mou]))]) (wr := [(m0, .inr (4, [.int (nI 0), .int (nI cnt), .ref mw, .int (nI pr), .ref ma, .int (nI tol), .int (nI kn.toNat), .ref mc, .ref mf, .ref mr, .ref mt, .ref mar, .ref mbe, .ref mou]))]) E h [] [0] [0] (va_runS (As := [.int y]) (rest := []) E.1 (k_X4_isWeight_bad l g y (by exact hy) _) c_5 (q_preS E h [] rfl rfl) rfl rfl hl.1 rfl (lv_room (Nat.le_of_ble_eq_true rfl)) dX4_setWeight_20 ⟨Nat.zero_le _, Nat.zero_le _⟩) rfl rfl rfl (by decide) rfl (fun _ => rfl) (fun r6 _ H locs hr6 h => ?_)
    subst hr6
    refine q_bne E (tgt := 32) dX4_setWeight_23 (by decide) (fun hb23 => ?_) (fun hb23 => ?_)
    · exact absurd hb23 (by decide)
    · skip
      refine lv_aload_n E.1.1 E.1.2.1 dX4_setWeight_26 rfl (lv_at hl 0 rfl) ?_
      refine q_ic E 2 dX4_setWeight_27 (by decide) ?_
      refine q_ki (w2 := fun _ => [(m0, .inr (4, [.int (nI 2), .int (nI cnt), .ref mw, .int (nI pr), .ref ma, .int (nI tol), .int (nI kn.toNat), .ref mc, .ref mf, .ref mr, .ref mt, .ref mar, .ref mbe, .ref mou]))]) (wr := []) E h [0] [] [0] (va_runV (As := [.int (nI 2)]) (rest := []) E.1 (k_X4_fail l g m0 mw ma mc mf mr mt mar mbe mou 0 cnt pr tol kn 2  _) c_7 (q_preV E h [0] rfl rfl (C := RX4) (T := TX4) (N := 14) 4 rfl 0 rfl) rfl rfl hl.1 rfl (lv_room (Nat.le_of_ble_eq_true rfl)) dX4_setWeight_28 ⟨Nat.zero_le _, Nat.zero_le _⟩) rfl rfl rfl (by decide) rfl (fun _ => rfl) (fun r8 _ H locs hr8 h => ?_)
      subst hr8
      -- world at the end: [(m0, .inr (4, [.int (nI 2), .int (nI cnt), .ref mw, .int (nI pr), .ref ma, .int (nI tol), .int (nI kn.toNat), .ref mc, .ref mf, .ref mr, .ref mt, .ref mar, .ref mbe, .ref mou]))]
      exact hend _ _ _ _ _ () h dX4_setWeight_31 rfl
  · exact absurd hb10 (by decide)

set_option maxHeartbeats 4000000 in
set_option maxRecDepth 100000 in
theorem k_X4_put (l : Launch) (g : GK) (m0 mw ma mc mf mr mt mar mbe mou : Nat) (th cnt pr tol : Nat) (kn : Bool) (a : Nat) (t : Bool) (hcnt : cnt ≤ 12) (hpr : pr < 4096) (ha : a < cnt) : CI (S := Unit) l g yX4_put wsX4_put { frames := 1, cells := 0, slots := 0, locals := 21 } [.ref m0, .int (nI a), .int (nI t.toNat)] [(m0, .inr (4, [.int (nI th), .int (nI cnt), .ref mw, .int (nI pr), .ref ma, .int (nI tol), .int (nI kn.toNat), .ref mc, .ref mf, .ref mr, .ref mt, .ref mar, .ref mbe, .ref mou]))] (fun r _ => r = nI (pr.testBit a).toNat) (fun _ => [(m0, .inr (4, [.int (nI 0), .int (nI cnt), .ref mw, .int (nI (sw pr a t)), .ref ma, .int (nI tol), .int (nI false.toNat), .ref mc, .ref mf, .ref mr, .ref mt, .ref mar, .ref mbe, .ref mou]))]) := by
  refine q_ofI (own := RX4) (by decide) rfl rfl (Nat.le_of_ble_eq_true rfl) (fun v u hp => by obtain rfl := hp; exact n_bool _) ?_
  intro p e s m below meth c A Q args E hmn h hend ls hl
  have hl : lv_has ls 4 [(0, .ref m0), (1, .int (nI a)), (2, .int (nI t.toNat))] := hl
  have c_1 := cwV (R := { frames := 1, cells := 0, slots := 0, locals := 21 }) (rm := { frames := 0, cells := 0, slots := 0, locals := 0 }) (mc := 0) (ms := 0) 1 E.1.2.2.2.2 gX4_put_X4_isArgument rfl rfl rfl (by decide +kernel) ⟨Nat.le_of_ble_eq_true rfl, Nat.le_of_ble_eq_true rfl⟩
  have c_3 := E.1.2.2.2.2 (.fieldLink RX4 44 "DebateSolverModel" "thrown" "I") (by decide +kernel)
  have c_4 := (by decide +kernel : ∀ w ∈ wsX40, w ∈ wsX4_put)
  have c_5 := E.1.2.2.2.2 (.fieldLink RX4 62 "DebateSolverModel" "in" "I") (by decide +kernel)
  have c_6 := cwS (R := { frames := 1, cells := 0, slots := 0, locals := 21 }) (rm := { frames := 0, cells := 0, slots := 0, locals := 0 }) (mc := 0) (ms := 0) 2 E.1.2.2.2.2 gX4_put_X4_has rfl rfl rfl (by decide +kernel) ⟨Nat.le_of_ble_eq_true rfl, Nat.le_of_ble_eq_true rfl⟩
  have c_8 := cwV (R := { frames := 1, cells := 0, slots := 0, locals := 21 }) (rm := { frames := 0, cells := 0, slots := 0, locals := 0 }) (mc := 0) (ms := 0) 0 E.1.2.2.2.2 gX4_put_X4_change rfl rfl rfl (by decide +kernel) ⟨Nat.le_of_ble_eq_true rfl, Nat.le_of_ble_eq_true rfl⟩
  refine lv_aload_n E.1.1 E.1.2.1 dX4_put_0 rfl (lv_at hl 0 rfl) ?_
  refine lv_aload_n E.1.1 E.1.2.1 dX4_put_1 rfl (lv_at hl 0 rfl) ?_
  refine lv_iload_n E.1.1 E.1.2.1 dX4_put_2 rfl (lv_at hl 1 rfl) ?_
  refine q_ki (w2 := fun _ => [(m0, .inr (4, [.int (nI th), .int (nI cnt), .ref mw, .int (nI pr), .ref ma, .int (nI tol), .int (nI kn.toNat), .ref mc, .ref mf, .ref mr, .ref mt, .ref mar, .ref mbe, .ref mou]))]) (wr := []) E h [0] [] [0] (va_runV (As := [.int (nI a)]) (rest := [.ref m0]) E.1 (k_X4_isArgument l g m0 mw ma mc mf mr mt mar mbe mou th cnt pr tol kn a (by omega) (by omega) _) c_1 (q_preV E h [0] rfl rfl (C := RX4) (T := TX4) (N := 14) 4 rfl 0 rfl) rfl rfl hl.1 rfl (lv_room (Nat.le_of_ble_eq_true rfl)) dX4_put_3 ⟨Nat.zero_le _, Nat.zero_le _⟩) rfl rfl rfl (by decide) rfl (fun _ => rfl) (fun r2 _ H locs hr2 h => ?_)
  subst hr2
  refine q_beq E (tgt := 13) dX4_put_6 (by decide) (fun hb6 => ?_) (fun hb6 => ?_)
  · exact absurd hb6 (by decide)
  · skip
    refine q_ic E 0 dX4_put_9 (by decide) ?_
    refine q_go E (tgt := 14) dX4_put_10 (by decide) ?_
    refine q_put E h (C := RX4) (T := TX4) (N := 14) 4 rfl tyX4 tyX4_ok nmX4 c_4 0 rfl 0 (by decide) c_3 rfl (v := .int (nI 0)) (ty := .int) (by decide +kernel) rfl rfl (Nat.le_of_ble_eq_true rfl) dX4_put_14 (w2 := [(m0, .inr (4, [.int (nI 0), .int (nI cnt), .ref mw, .int (nI pr), .ref ma, .int (nI tol), .int (nI kn.toNat), .ref mc, .ref mf, .ref mr, .ref mt, .ref mar, .ref mbe, .ref mou]))]) rfl (fun H locs h => ?_)
    refine lv_aload_n E.1.1 E.1.2.1 dX4_put_17 rfl (lv_at hl 0 rfl) ?_
    refine q_get E h (C := RX4) (T := TX4) (N := 14) 4 rfl c_4 0 rfl 0 (by decide) c_3 (v := .int (nI 0)) rfl dX4_put_18 ?_
    refine q_eq0 E (tgt := 26) (by decide) dX4_put_21 (by decide) (fun hb21 => ?_) (fun hb21 => ?_)
    · skip
      refine lv_aload_n E.1.1 E.1.2.1 dX4_put_26 rfl (lv_at hl 0 rfl) ?_
      refine q_get E h (C := RX4) (T := TX4) (N := 14) 4 rfl c_4 0 rfl 3 (by decide) c_5 (v := .int (nI pr)) rfl dX4_put_27 ?_
      refine lv_iload_n E.1.1 E.1.2.1 dX4_put_30 rfl (lv_at hl 1 rfl) ?_
      refine q_ki (w2 := fun _ => [(m0, .inr (4, [.int (nI 0), .int (nI cnt), .ref mw, .int (nI pr), .ref ma, .int (nI tol), .int (nI kn.toNat), .ref mc, .ref mf, .ref mr, .ref mt, .ref mar, .ref mbe, .ref mou]))]) (wr := [(m0, .inr (4, [.int (nI 0), .int (nI cnt), .ref mw, .int (nI pr), .ref ma, .int (nI tol), .int (nI kn.toNat), .ref mc, .ref mf, .ref mr, .ref mt, .ref mar, .ref mbe, .ref mou]))]) E h [] [0] [0] (va_runS (As := [.int (nI pr), .int (nI a)]) (rest := []) E.1 (k_X4_has l g pr a (by omega) (by omega) _) c_6 (q_preS E h [] rfl rfl) rfl rfl hl.1 rfl (lv_room (Nat.le_of_ble_eq_true rfl)) dX4_put_31 ⟨Nat.zero_le _, Nat.zero_le _⟩) rfl rfl rfl (by decide) rfl (fun _ => rfl) (fun r7 _ H locs hr7 h => ?_)
      subst hr7
      refine lv_istore_n (lv' := [(3, .int (nI (pr.testBit a).toNat)), (0, .ref m0), (1, .int (nI a)), (2, .int (nI t.toNat))]) E.1.1 E.1.2.1 dX4_put_34 rfl hl (by decide) rfl (fun ls hl => ?_)
      refine lv_aload_n E.1.1 E.1.2.1 dX4_put_35 rfl (lv_at hl 1 rfl) ?_
      refine lv_iload_n E.1.1 E.1.2.1 dX4_put_36 rfl (lv_at hl 3 rfl) ?_
      refine q_beq E (tgt := 51) dX4_put_37 (by decide) (fun hb37 => ?_) (fun hb37 => ?_)
      · skip
        refine lv_aload_n E.1.1 E.1.2.1 dX4_put_51 rfl (lv_at hl 1 rfl) ?_
        refine q_get E h (C := RX4) (T := TX4) (N := 14) 4 rfl c_4 0 rfl 3 (by decide) c_5 (v := .int (nI pr)) rfl dX4_put_52 ?_
        refine q_ic E 1 dX4_put_55 (by decide) ?_
        refine lv_iload_n E.1.1 E.1.2.1 dX4_put_56 rfl (lv_at hl 2 rfl) ?_
        refine q_shl1 E (by omega) dX4_put_57 ?_
        refine q_im1 E dX4_put_58 ?_
        refine q_xor E dX4_put_59 ?_
        refine q_andn E dX4_put_60 ?_
        refine q_put E h (C := RX4) (T := TX4) (N := 14) 4 rfl tyX4 tyX4_ok nmX4 c_4 0 rfl 3 (by decide) c_5 rfl (v := .int (nI (ldf pr (2 ^ a)))) (ty := .int) (by decide +kernel) rfl rfl (Nat.le_of_ble_eq_true rfl) dX4_put_61 (w2 := [(m0, .inr (4, [.int (nI 0), .int (nI cnt), .ref mw, .int (nI (ldf pr (2 ^ a))), .ref ma, .int (nI tol), .int (nI kn.toNat), .ref mc, .ref mf, .ref mr, .ref mt, .ref mar, .ref mbe, .ref mou]))]) rfl (fun H locs h => ?_)
        refine lv_aload_n E.1.1 E.1.2.1 dX4_put_64 rfl (lv_at hl 1 rfl) ?_
        refine q_kv (w2 := fun _ => [(m0, .inr (4, [.int (nI 0), .int (nI cnt), .ref mw, .int (nI (ldf pr (2 ^ a))), .ref ma, .int (nI tol), .int (nI false.toNat), .ref mc, .ref mf, .ref mr, .ref mt, .ref mar, .ref mbe, .ref mou]))]) (wr := []) E h [0] [] [0] (va_runV (As := []) (rest := []) E.1 (k_X4_change l g m0 mw ma mc mf mr mt mar mbe mou 0 cnt (ldf pr (2 ^ a)) tol kn  _) c_8 (q_preV E h [0] rfl rfl (C := RX4) (T := TX4) (N := 14) 4 rfl 0 rfl) rfl rfl hl.1 rfl (lv_room (Nat.le_of_ble_eq_true rfl)) dX4_put_65 ⟨Nat.zero_le _, Nat.zero_le _⟩) rfl rfl rfl (by decide) rfl (fun _ => rfl) (fun _ H locs _ h => ?_)
        refine lv_iload_n E.1.1 E.1.2.1 dX4_put_68 rfl (lv_at hl 0 rfl) ?_
        -- world at the end: [(m0, .inr (4, [.int (nI 0), .int (nI cnt), .ref mw, .int (nI (ldf pr (2 ^ a))), .ref ma, .int (nI tol), .int (nI false.toNat), .ref mc, .ref mf, .ref mr, .ref mt, .ref mar, .ref mbe, .ref mou]))]
        exact hend _ _ _ _ _ () (by unfold sw; first | (rw [if_neg (show ¬ t = true by rw [hb37]; decide)]; exact h) | (rw [if_pos hb37]; exact h)) dX4_put_69 rfl
      · skip
        refine lv_aload_n E.1.1 E.1.2.1 dX4_put_40 rfl (lv_at hl 1 rfl) ?_
        refine q_get E h (C := RX4) (T := TX4) (N := 14) 4 rfl c_4 0 rfl 3 (by decide) c_5 (v := .int (nI pr)) rfl dX4_put_41 ?_
        refine q_ic E 1 dX4_put_44 (by decide) ?_
        refine lv_iload_n E.1.1 E.1.2.1 dX4_put_45 rfl (lv_at hl 2 rfl) ?_
        refine q_shl1 E (by omega) dX4_put_46 ?_
        refine q_or E dX4_put_47 ?_
        refine q_go E (tgt := 61) dX4_put_48 (by decide) ?_
        refine q_put E h (C := RX4) (T := TX4) (N := 14) 4 rfl tyX4 tyX4_ok nmX4 c_4 0 rfl 3 (by decide) c_5 rfl (v := .int (nI (pr ||| (2 ^ a)))) (ty := .int) (by decide +kernel) rfl rfl (Nat.le_of_ble_eq_true rfl) dX4_put_61 (w2 := [(m0, .inr (4, [.int (nI 0), .int (nI cnt), .ref mw, .int (nI (pr ||| (2 ^ a))), .ref ma, .int (nI tol), .int (nI kn.toNat), .ref mc, .ref mf, .ref mr, .ref mt, .ref mar, .ref mbe, .ref mou]))]) rfl (fun H locs h => ?_)
        refine lv_aload_n E.1.1 E.1.2.1 dX4_put_64 rfl (lv_at hl 1 rfl) ?_
        refine q_kv (w2 := fun _ => [(m0, .inr (4, [.int (nI 0), .int (nI cnt), .ref mw, .int (nI (pr ||| (2 ^ a))), .ref ma, .int (nI tol), .int (nI false.toNat), .ref mc, .ref mf, .ref mr, .ref mt, .ref mar, .ref mbe, .ref mou]))]) (wr := []) E h [0] [] [0] (va_runV (As := []) (rest := []) E.1 (k_X4_change l g m0 mw ma mc mf mr mt mar mbe mou 0 cnt (pr ||| (2 ^ a)) tol kn  _) c_8 (q_preV E h [0] rfl rfl (C := RX4) (T := TX4) (N := 14) 4 rfl 0 rfl) rfl rfl hl.1 rfl (lv_room (Nat.le_of_ble_eq_true rfl)) dX4_put_65 ⟨Nat.zero_le _, Nat.zero_le _⟩) rfl rfl rfl (by decide) rfl (fun _ => rfl) (fun _ H locs _ h => ?_)
        refine lv_iload_n E.1.1 E.1.2.1 dX4_put_68 rfl (lv_at hl 0 rfl) ?_
        -- world at the end: [(m0, .inr (4, [.int (nI 0), .int (nI cnt), .ref mw, .int (nI (pr ||| (2 ^ a))), .ref ma, .int (nI tol), .int (nI false.toNat), .ref mc, .ref mf, .ref mr, .ref mt, .ref mar, .ref mbe, .ref mou]))]
        exact hend _ _ _ _ _ () (by unfold sw; first | (rw [if_neg (show ¬ t = true by rw [hb37]; decide)]; exact h) | (rw [if_pos hb37]; exact h)) dX4_put_69 rfl
    · exact absurd hb21 (by decide)

set_option maxHeartbeats 4000000 in
set_option maxRecDepth 100000 in
theorem k_X4_put_bad (l : Launch) (g : GK) (m0 mw ma mc mf mr mt mar mbe mou : Nat) (th cnt pr tol : Nat) (kn : Bool) (z : Int32) (t : Bool) (hz : z < 0 ∨ nI cnt ≤ z) : CI (S := Unit) l g yX4_put wsX4_put { frames := 1, cells := 0, slots := 0, locals := 21 } [.ref m0, .int z, .int (nI t.toNat)] [(m0, .inr (4, [.int (nI th), .int (nI cnt), .ref mw, .int (nI pr), .ref ma, .int (nI tol), .int (nI kn.toNat), .ref mc, .ref mf, .ref mr, .ref mt, .ref mar, .ref mbe, .ref mou]))] (fun r _ => r = nI false.toNat) (fun _ => [(m0, .inr (4, [.int (nI 1), .int (nI cnt), .ref mw, .int (nI pr), .ref ma, .int (nI tol), .int (nI kn.toNat), .ref mc, .ref mf, .ref mr, .ref mt, .ref mar, .ref mbe, .ref mou]))]) := by
  refine q_ofI (own := RX4) (by decide) rfl rfl (Nat.le_of_ble_eq_true rfl) (fun v u hp => by obtain rfl := hp; exact n_bool _) ?_
  intro p e s m below meth c A Q args E hmn h hend ls hl
  have hl : lv_has ls 4 [(0, .ref m0), (1, .int z), (2, .int (nI t.toNat))] := hl
  have c_1 := cwV (R := { frames := 1, cells := 0, slots := 0, locals := 21 }) (rm := { frames := 0, cells := 0, slots := 0, locals := 0 }) (mc := 0) (ms := 0) 1 E.1.2.2.2.2 gX4_put_X4_isArgument rfl rfl rfl (by decide +kernel) ⟨Nat.le_of_ble_eq_true rfl, Nat.le_of_ble_eq_true rfl⟩
  have c_3 := E.1.2.2.2.2 (.fieldLink RX4 44 "DebateSolverModel" "thrown" "I") (by decide +kernel)
  have c_4 := (by decide +kernel : ∀ w ∈ wsX40, w ∈ wsX4_put)
  refine lv_aload_n E.1.1 E.1.2.1 dX4_put_0 rfl (lv_at hl 0 rfl) ?_
  refine lv_aload_n E.1.1 E.1.2.1 dX4_put_1 rfl (lv_at hl 0 rfl) ?_
  refine lv_iload_n E.1.1 E.1.2.1 dX4_put_2 rfl (lv_at hl 1 rfl) ?_
  refine q_ki (w2 := fun _ => [(m0, .inr (4, [.int (nI th), .int (nI cnt), .ref mw, .int (nI pr), .ref ma, .int (nI tol), .int (nI kn.toNat), .ref mc, .ref mf, .ref mr, .ref mt, .ref mar, .ref mbe, .ref mou]))]) (wr := []) E h [0] [] [0] (va_runV (As := [.int z]) (rest := [.ref m0]) E.1 (k_X4_isArgument_bad l g m0 mw ma mc mf mr mt mar mbe mou th cnt pr tol kn z (by exact hz) _) c_1 (q_preV E h [0] rfl rfl (C := RX4) (T := TX4) (N := 14) 4 rfl 0 rfl) rfl rfl hl.1 rfl (lv_room (Nat.le_of_ble_eq_true rfl)) dX4_put_3 ⟨Nat.zero_le _, Nat.zero_le _⟩) rfl rfl rfl (by decide) rfl (fun _ => rfl) (fun r2 _ H locs hr2 h => ?_)
  subst hr2
  refine q_beq E (tgt := 13) dX4_put_6 (by decide) (fun hb6 => ?_) (fun hb6 => ?_)
  · skip
    refine q_ic E 1 dX4_put_13 (by decide) ?_
    refine q_put E h (C := RX4) (T := TX4) (N := 14) 4 rfl tyX4 tyX4_ok nmX4 c_4 0 rfl 0 (by decide) c_3 rfl (v := .int (nI 1)) (ty := .int) (by decide +kernel) rfl rfl (Nat.le_of_ble_eq_true rfl) dX4_put_14 (w2 := [(m0, .inr (4, [.int (nI 1), .int (nI cnt), .ref mw, .int (nI pr), .ref ma, .int (nI tol), .int (nI kn.toNat), .ref mc, .ref mf, .ref mr, .ref mt, .ref mar, .ref mbe, .ref mou]))]) rfl (fun H locs h => ?_)
    refine lv_aload_n E.1.1 E.1.2.1 dX4_put_17 rfl (lv_at hl 0 rfl) ?_
    refine q_get E h (C := RX4) (T := TX4) (N := 14) 4 rfl c_4 0 rfl 0 (by decide) c_3 (v := .int (nI 1)) rfl dX4_put_18 ?_
    refine q_eq0 E (tgt := 26) (by decide) dX4_put_21 (by decide) (fun hb21 => ?_) (fun hb21 => ?_)
    · exact absurd hb21 (by decide)
    · skip
      refine q_ic E 0 dX4_put_24 (by decide) ?_
      -- world at the end: [(m0, .inr (4, [.int (nI 1), .int (nI cnt), .ref mw, .int (nI pr), .ref ma, .int (nI tol), .int (nI kn.toNat), .ref mc, .ref mf, .ref mr, .ref mt, .ref mar, .ref mbe, .ref mou]))]
      exact hend _ _ _ _ _ () h dX4_put_25 rfl
  · exact absurd hb6 (by decide)

set_option maxHeartbeats 4000000 in
set_option maxRecDepth 100000 in
theorem k_X4_attack (l : Launch) (g : GK) (m0 mw ma mc mf mr mt mar mbe mou : Nat) (th cnt pr tol : Nat) (kn : Bool) (mk : Nat → Nat) (f v : Nat) (t : Bool) (hcnt : cnt ≤ 12) (hmk : ∀ k, mk k < 4096) (hf : f < cnt) (hv : v < cnt) : CI (S := Unit) l g yX4_attack wsX4_attack { frames := 1, cells := 0, slots := 0, locals := 21 } [.ref m0, .int (nI f), .int (nI v), .int (nI t.toNat)] [(m0, .inr (4, [.int (nI th), .int (nI cnt), .ref mw, .int (nI pr), .ref ma, .int (nI tol), .int (nI kn.toNat), .ref mc, .ref mf, .ref mr, .ref mt, .ref mar, .ref mbe, .ref mou])), (ma, .inl (gI g, 12, .inl (aN mk)))] (fun r _ => r = nI ((mk f).testBit v).toNat) (fun _ => [(m0, .inr (4, [.int (nI 0), .int (nI cnt), .ref mw, .int (nI pr), .ref ma, .int (nI tol), .int (nI false.toNat), .ref mc, .ref mf, .ref mr, .ref mt, .ref mar, .ref mbe, .ref mou])), (ma, .inl (gI g, 12, .inl (aN (updN mk f (sw (mk f) v t)))))]) := by
  refine q_ofI (own := RX4) (by decide) rfl rfl (Nat.le_of_ble_eq_true rfl) (fun v u hp => by obtain rfl := hp; exact n_bool _) ?_
  intro p e s m below meth c A Q args E hmn h hend ls hl
  have hl : lv_has ls 5 [(0, .ref m0), (1, .int (nI f)), (2, .int (nI v)), (3, .int (nI t.toNat))] := hl
  have c_1 := cwV (R := { frames := 1, cells := 0, slots := 0, locals := 21 }) (rm := { frames := 0, cells := 0, slots := 0, locals := 0 }) (mc := 0) (ms := 0) 1 E.1.2.2.2.2 gX4_attack_X4_isArgument rfl rfl rfl (by decide +kernel) ⟨Nat.le_of_ble_eq_true rfl, Nat.le_of_ble_eq_true rfl⟩
  have c_4 := E.1.2.2.2.2 (.fieldLink RX4 44 "DebateSolverModel" "thrown" "I") (by decide +kernel)
  have c_5 := (by decide +kernel : ∀ w ∈ wsX40, w ∈ wsX4_attack)
  have c_6 := E.1.2.2.2.2 (.fieldLink RX4 13 "DebateSolverModel" "attacks" "[I") (by decide +kernel)
  have c_7 := cwS (R := { frames := 1, cells := 0, slots := 0, locals := 21 }) (rm := { frames := 0, cells := 0, slots := 0, locals := 0 }) (mc := 0) (ms := 0) 2 E.1.2.2.2.2 gX4_attack_X4_has rfl rfl rfl (by decide +kernel) ⟨Nat.le_of_ble_eq_true rfl, Nat.le_of_ble_eq_true rfl⟩
  have c_9 := cwV (R := { frames := 1, cells := 0, slots := 0, locals := 21 }) (rm := { frames := 0, cells := 0, slots := 0, locals := 0 }) (mc := 0) (ms := 0) 0 E.1.2.2.2.2 gX4_attack_X4_change rfl rfl rfl (by decide +kernel) ⟨Nat.le_of_ble_eq_true rfl, Nat.le_of_ble_eq_true rfl⟩
  refine lv_aload_n E.1.1 E.1.2.1 dX4_attack_0 rfl (lv_at hl 0 rfl) ?_
  refine lv_aload_n E.1.1 E.1.2.1 dX4_attack_1 rfl (lv_at hl 0 rfl) ?_
  refine lv_iload_n E.1.1 E.1.2.1 dX4_attack_2 rfl (lv_at hl 1 rfl) ?_
  refine q_ki (w2 := fun _ => [(m0, .inr (4, [.int (nI th), .int (nI cnt), .ref mw, .int (nI pr), .ref ma, .int (nI tol), .int (nI kn.toNat), .ref mc, .ref mf, .ref mr, .ref mt, .ref mar, .ref mbe, .ref mou])), (ma, .inl (gI g, 12, .inl (aN mk)))]) (wr := [(ma, .inl (gI g, 12, .inl (aN mk)))]) E h [0] [1] [1, 0] (va_runV (As := [.int (nI f)]) (rest := [.ref m0]) E.1 (k_X4_isArgument l g m0 mw ma mc mf mr mt mar mbe mou th cnt pr tol kn f (by omega) (by omega) _) c_1 (q_preV E h [0] rfl rfl (C := RX4) (T := TX4) (N := 14) 4 rfl 0 rfl) rfl rfl hl.1 rfl (lv_room (Nat.le_of_ble_eq_true rfl)) dX4_attack_3 ⟨Nat.zero_le _, Nat.zero_le _⟩) rfl rfl rfl (by decide) rfl (fun _ => rfl) (fun r2 _ H locs hr2 h => ?_)
  subst hr2
  refine q_beq E (tgt := 21) dX4_attack_6 (by decide) (fun hb6 => ?_) (fun hb6 => ?_)
  · exact absurd hb6 (by decide)
  · skip
    refine lv_aload_n E.1.1 E.1.2.1 dX4_attack_9 rfl (lv_at hl 0 rfl) ?_
    refine lv_iload_n E.1.1 E.1.2.1 dX4_attack_10 rfl (lv_at hl 2 rfl) ?_
    refine q_ki (w2 := fun _ => [(m0, .inr (4, [.int (nI th), .int (nI cnt), .ref mw, .int (nI pr), .ref ma, .int (nI tol), .int (nI kn.toNat), .ref mc, .ref mf, .ref mr, .ref mt, .ref mar, .ref mbe, .ref mou])), (ma, .inl (gI g, 12, .inl (aN mk)))]) (wr := [(ma, .inl (gI g, 12, .inl (aN mk)))]) E h [0] [1] [1, 0] (va_runV (As := [.int (nI v)]) (rest := [.ref m0]) E.1 (k_X4_isArgument l g m0 mw ma mc mf mr mt mar mbe mou th cnt pr tol kn v (by omega) (by omega) _) c_1 (q_preV E h [0] rfl rfl (C := RX4) (T := TX4) (N := 14) 4 rfl 0 rfl) rfl rfl hl.1 rfl (lv_room (Nat.le_of_ble_eq_true rfl)) dX4_attack_11 ⟨Nat.zero_le _, Nat.zero_le _⟩) rfl rfl rfl (by decide) rfl (fun _ => rfl) (fun r3 _ H locs hr3 h => ?_)
    subst hr3
    refine q_beq E (tgt := 21) dX4_attack_14 (by decide) (fun hb14 => ?_) (fun hb14 => ?_)
    · exact absurd hb14 (by decide)
    · skip
      refine q_ic E 0 dX4_attack_17 (by decide) ?_
      refine q_go E (tgt := 22) dX4_attack_18 (by decide) ?_
      refine q_put E h (C := RX4) (T := TX4) (N := 14) 4 rfl tyX4 tyX4_ok nmX4 c_5 0 rfl 0 (by decide) c_4 rfl (v := .int (nI 0)) (ty := .int) (by decide +kernel) rfl rfl (Nat.le_of_ble_eq_true rfl) dX4_attack_22 (w2 := [(m0, .inr (4, [.int (nI 0), .int (nI cnt), .ref mw, .int (nI pr), .ref ma, .int (nI tol), .int (nI kn.toNat), .ref mc, .ref mf, .ref mr, .ref mt, .ref mar, .ref mbe, .ref mou])), (ma, .inl (gI g, 12, .inl (aN mk)))]) rfl (fun H locs h => ?_)
      refine lv_aload_n E.1.1 E.1.2.1 dX4_attack_25 rfl (lv_at hl 0 rfl) ?_
      refine q_get E h (C := RX4) (T := TX4) (N := 14) 4 rfl c_5 0 rfl 0 (by decide) c_4 (v := .int (nI 0)) rfl dX4_attack_26 ?_
      refine q_eq0 E (tgt := 34) (by decide) dX4_attack_29 (by decide) (fun hb29 => ?_) (fun hb29 => ?_)
      · skip
        refine lv_aload_n E.1.1 E.1.2.1 dX4_attack_34 rfl (lv_at hl 0 rfl) ?_
        refine q_get E h (C := RX4) (T := TX4) (N := 14) 4 rfl c_5 0 rfl 4 (by decide) c_6 (v := .ref ma) rfl dX4_attack_35 ?_
        refine lv_iload_n E.1.1 E.1.2.1 dX4_attack_38 rfl (lv_at hl 1 rfl) ?_
        refine q_iald E h 1 (f := mk) rfl (by omega) (by decide) dX4_attack_39 ?_
        refine lv_iload_n E.1.1 E.1.2.1 dX4_attack_40 rfl (lv_at hl 2 rfl) ?_
        refine q_ki (w2 := fun _ => [(m0, .inr (4, [.int (nI 0), .int (nI cnt), .ref mw, .int (nI pr), .ref ma, .int (nI tol), .int (nI kn.toNat), .ref mc, .ref mf, .ref mr, .ref mt, .ref mar, .ref mbe, .ref mou])), (ma, .inl (gI g, 12, .inl (aN mk)))]) (wr := [(m0, .inr (4, [.int (nI 0), .int (nI cnt), .ref mw, .int (nI pr), .ref ma, .int (nI tol), .int (nI kn.toNat), .ref mc, .ref mf, .ref mr, .ref mt, .ref mar, .ref mbe, .ref mou])), (ma, .inl (gI g, 12, .inl (aN mk)))]) E h [] [0, 1] [0, 1] (va_runS (As := [.int (nI (mk f)), .int (nI v)]) (rest := []) E.1 (k_X4_has l g (mk f) v (by exact Nat.lt_trans (hmk f) (by decide)) (by omega) _) c_7 (q_preS E h [] rfl rfl) rfl rfl hl.1 rfl (lv_room (Nat.le_of_ble_eq_true rfl)) dX4_attack_41 ⟨Nat.zero_le _, Nat.zero_le _⟩) rfl rfl rfl (by decide) rfl (fun _ => rfl) (fun r8 _ H locs hr8 h => ?_)
        subst hr8
        refine lv_istore (lv' := [(4, .int (nI ((mk f).testBit v).toNat)), (0, .ref m0), (1, .int (nI f)), (2, .int (nI v)), (3, .int (nI t.toNat))]) E.1.1 E.1.2.1 dX4_attack_44 hl (by decide) rfl (fun ls hl => ?_)
        refine lv_aload_n E.1.1 E.1.2.1 dX4_attack_46 rfl (lv_at hl 1 rfl) ?_
        refine q_get E h (C := RX4) (T := TX4) (N := 14) 4 rfl c_5 0 rfl 4 (by decide) c_6 (v := .ref ma) rfl dX4_attack_47 ?_
        refine lv_iload_n E.1.1 E.1.2.1 dX4_attack_50 rfl (lv_at hl 2 rfl) ?_
        refine lv_iload_n E.1.1 E.1.2.1 dX4_attack_51 rfl (lv_at hl 4 rfl) ?_
        refine q_beq E (tgt := 68) dX4_attack_52 (by decide) (fun hb52 => ?_) (fun hb52 => ?_)
        · skip
          refine lv_aload_n E.1.1 E.1.2.1 dX4_attack_68 rfl (lv_at hl 1 rfl) ?_
          refine q_get E h (C := RX4) (T := TX4) (N := 14) 4 rfl c_5 0 rfl 4 (by decide) c_6 (v := .ref ma) rfl dX4_attack_69 ?_
          refine lv_iload_n E.1.1 E.1.2.1 dX4_attack_72 rfl (lv_at hl 2 rfl) ?_
          refine q_iald E h 1 (f := mk) rfl (by omega) (by decide) dX4_attack_73 ?_
          refine q_ic E 1 dX4_attack_74 (by decide) ?_
          refine lv_iload_n E.1.1 E.1.2.1 dX4_attack_75 rfl (lv_at hl 3 rfl) ?_
          refine q_shl1 E (by omega) dX4_attack_76 ?_
          refine q_im1 E dX4_attack_77 ?_
          refine q_xor E dX4_attack_78 ?_
          refine q_andn E dX4_attack_79 ?_
          refine q_iast E h 1 (f := mk) rfl (by omega) (by decide) dX4_attack_80 (w2 := [(m0, .inr (4, [.int (nI 0), .int (nI cnt), .ref mw, .int (nI pr), .ref ma, .int (nI tol), .int (nI kn.toNat), .ref mc, .ref mf, .ref mr, .ref mt, .ref mar, .ref mbe, .ref mou])), (ma, .inl (gI g, 12, .inl (aN (updN mk f (ldf (mk f) (2 ^ v))))))]) rfl (fun H locs h => ?_)
          refine lv_aload_n E.1.1 E.1.2.1 dX4_attack_81 rfl (lv_at hl 1 rfl) ?_
          refine q_kv (w2 := fun _ => [(m0, .inr (4, [.int (nI 0), .int (nI cnt), .ref mw, .int (nI pr), .ref ma, .int (nI tol), .int (nI false.toNat), .ref mc, .ref mf, .ref mr, .ref mt, .ref mar, .ref mbe, .ref mou])), (ma, .inl (gI g, 12, .inl (aN (updN mk f (ldf (mk f) (2 ^ v))))))]) (wr := [(ma, .inl (gI g, 12, .inl (aN (updN mk f (ldf (mk f) (2 ^ v))))))]) E h [0] [1] [1, 0] (va_runV (As := []) (rest := []) E.1 (k_X4_change l g m0 mw ma mc mf mr mt mar mbe mou 0 cnt pr tol kn  _) c_9 (q_preV E h [0] rfl rfl (C := RX4) (T := TX4) (N := 14) 4 rfl 0 rfl) rfl rfl hl.1 rfl (lv_room (Nat.le_of_ble_eq_true rfl)) dX4_attack_82 ⟨Nat.zero_le _, Nat.zero_le _⟩) rfl rfl rfl (by decide) rfl (fun _ => rfl) (fun _ H locs _ h => ?_)
          refine lv_iload E.1.1 E.1.2.1 dX4_attack_85 (lv_at hl 0 rfl) ?_
          -- world at the end: [(m0, .inr (4, [.int (nI 0), .int (nI cnt), .ref mw, .int (nI pr), .ref ma, .int (nI tol), .int (nI false.toNat), .ref mc, .ref mf, .ref mr, .ref mt, .ref mar, .ref mbe, .ref mou])), (ma, .inl (gI g, 12, .inl (aN (updN mk f (ldf (mk f) (2 ^ v))))))]
          exact hend _ _ _ _ _ () (by unfold sw; first | (rw [if_neg (show ¬ t = true by rw [hb52]; decide)]; exact h) | (rw [if_pos hb52]; exact h)) dX4_attack_87 rfl
        · skip
          refine lv_aload_n E.1.1 E.1.2.1 dX4_attack_55 rfl (lv_at hl 1 rfl) ?_
          refine q_get E h (C := RX4) (T := TX4) (N := 14) 4 rfl c_5 0 rfl 4 (by decide) c_6 (v := .ref ma) rfl dX4_attack_56 ?_
          refine lv_iload_n E.1.1 E.1.2.1 dX4_attack_59 rfl (lv_at hl 2 rfl) ?_
          refine q_iald E h 1 (f := mk) rfl (by omega) (by decide) dX4_attack_60 ?_
          refine q_ic E 1 dX4_attack_61 (by decide) ?_
          refine lv_iload_n E.1.1 E.1.2.1 dX4_attack_62 rfl (lv_at hl 3 rfl) ?_
          refine q_shl1 E (by omega) dX4_attack_63 ?_
          refine q_or E dX4_attack_64 ?_
          refine q_go E (tgt := 80) dX4_attack_65 (by decide) ?_
          refine q_iast E h 1 (f := mk) rfl (by omega) (by decide) dX4_attack_80 (w2 := [(m0, .inr (4, [.int (nI 0), .int (nI cnt), .ref mw, .int (nI pr), .ref ma, .int (nI tol), .int (nI kn.toNat), .ref mc, .ref mf, .ref mr, .ref mt, .ref mar, .ref mbe, .ref mou])), (ma, .inl (gI g, 12, .inl (aN (updN mk f ((mk f) ||| (2 ^ v))))))]) rfl (fun H locs h => ?_)
          refine lv_aload_n E.1.1 E.1.2.1 dX4_attack_81 rfl (lv_at hl 1 rfl) ?_
          refine q_kv (w2 := fun _ => [(m0, .inr (4, [.int (nI 0), .int (nI cnt), .ref mw, .int (nI pr), .ref ma, .int (nI tol), .int (nI false.toNat), .ref mc, .ref mf, .ref mr, .ref mt, .ref mar, .ref mbe, .ref mou])), (ma, .inl (gI g, 12, .inl (aN (updN mk f ((mk f) ||| (2 ^ v))))))]) (wr := [(ma, .inl (gI g, 12, .inl (aN (updN mk f ((mk f) ||| (2 ^ v))))))]) E h [0] [1] [1, 0] (va_runV (As := []) (rest := []) E.1 (k_X4_change l g m0 mw ma mc mf mr mt mar mbe mou 0 cnt pr tol kn  _) c_9 (q_preV E h [0] rfl rfl (C := RX4) (T := TX4) (N := 14) 4 rfl 0 rfl) rfl rfl hl.1 rfl (lv_room (Nat.le_of_ble_eq_true rfl)) dX4_attack_82 ⟨Nat.zero_le _, Nat.zero_le _⟩) rfl rfl rfl (by decide) rfl (fun _ => rfl) (fun _ H locs _ h => ?_)
          refine lv_iload E.1.1 E.1.2.1 dX4_attack_85 (lv_at hl 0 rfl) ?_
          -- world at the end: [(m0, .inr (4, [.int (nI 0), .int (nI cnt), .ref mw, .int (nI pr), .ref ma, .int (nI tol), .int (nI false.toNat), .ref mc, .ref mf, .ref mr, .ref mt, .ref mar, .ref mbe, .ref mou])), (ma, .inl (gI g, 12, .inl (aN (updN mk f ((mk f) ||| (2 ^ v))))))]
          exact hend _ _ _ _ _ () (by unfold sw; first | (rw [if_neg (show ¬ t = true by rw [hb52]; decide)]; exact h) | (rw [if_pos hb52]; exact h)) dX4_attack_87 rfl
      · exact absurd hb29 (by decide)

set_option maxHeartbeats 4000000 in
set_option maxRecDepth 100000 in
theorem k_X4_attack_bad1 (l : Launch) (g : GK) (m0 mw ma mc mf mr mt mar mbe mou : Nat) (th cnt pr tol : Nat) (kn : Bool) (z y : Int32) (t : Bool) (hz : z < 0 ∨ nI cnt ≤ z) : CI (S := Unit) l g yX4_attack wsX4_attack { frames := 1, cells := 0, slots := 0, locals := 21 } [.ref m0, .int z, .int y, .int (nI t.toNat)] [(m0, .inr (4, [.int (nI th), .int (nI cnt), .ref mw, .int (nI pr), .ref ma, .int (nI tol), .int (nI kn.toNat), .ref mc, .ref mf, .ref mr, .ref mt, .ref mar, .ref mbe, .ref mou]))] (fun r _ => r = nI false.toNat) (fun _ => [(m0, .inr (4, [.int (nI 1), .int (nI cnt), .ref mw, .int (nI pr), .ref ma, .int (nI tol), .int (nI kn.toNat), .ref mc, .ref mf, .ref mr, .ref mt, .ref mar, .ref mbe, .ref mou]))]) := by
  refine q_ofI (own := RX4) (by decide) rfl rfl (Nat.le_of_ble_eq_true rfl) (fun v u hp => by obtain rfl := hp; exact n_bool _) ?_
  intro p e s m below meth c A Q args E hmn h hend ls hl
  have hl : lv_has ls 5 [(0, .ref m0), (1, .int z), (2, .int y), (3, .int (nI t.toNat))] := hl
  have c_1 := cwV (R := { frames := 1, cells := 0, slots := 0, locals := 21 }) (rm := { frames := 0, cells := 0, slots := 0, locals := 0 }) (mc := 0) (ms := 0) 1 E.1.2.2.2.2 gX4_attack_X4_isArgument rfl rfl rfl (by decide +kernel) ⟨Nat.le_of_ble_eq_true rfl, Nat.le_of_ble_eq_true rfl⟩
  have c_3 := E.1.2.2.2.2 (.fieldLink RX4 44 "DebateSolverModel" "thrown" "I") (by decide +kernel)
  have c_4 := (by decide +kernel : ∀ w ∈ wsX40, w ∈ wsX4_attack)
  refine lv_aload_n E.1.1 E.1.2.1 dX4_attack_0 rfl (lv_at hl 0 rfl) ?_
  refine lv_aload_n E.1.1 E.1.2.1 dX4_attack_1 rfl (lv_at hl 0 rfl) ?_
  refine lv_iload_n E.1.1 E.1.2.1 dX4_attack_2 rfl (lv_at hl 1 rfl) ?_
  refine q_ki (w2 := fun _ => [(m0, .inr (4, [.int (nI th), .int (nI cnt), .ref mw, .int (nI pr), .ref ma, .int (nI tol), .int (nI kn.toNat), .ref mc, .ref mf, .ref mr, .ref mt, .ref mar, .ref mbe, .ref mou]))]) (wr := []) E h [0] [] [0] (va_runV (As := [.int z]) (rest := [.ref m0]) E.1 (k_X4_isArgument_bad l g m0 mw ma mc mf mr mt mar mbe mou th cnt pr tol kn z (by exact hz) _) c_1 (q_preV E h [0] rfl rfl (C := RX4) (T := TX4) (N := 14) 4 rfl 0 rfl) rfl rfl hl.1 rfl (lv_room (Nat.le_of_ble_eq_true rfl)) dX4_attack_3 ⟨Nat.zero_le _, Nat.zero_le _⟩) rfl rfl rfl (by decide) rfl (fun _ => rfl) (fun r2 _ H locs hr2 h => ?_)
  subst hr2
  refine q_beq E (tgt := 21) dX4_attack_6 (by decide) (fun hb6 => ?_) (fun hb6 => ?_)
  · skip
    refine q_ic E 1 dX4_attack_21 (by decide) ?_
    refine q_put E h (C := RX4) (T := TX4) (N := 14) 4 rfl tyX4 tyX4_ok nmX4 c_4 0 rfl 0 (by decide) c_3 rfl (v := .int (nI 1)) (ty := .int) (by decide +kernel) rfl rfl (Nat.le_of_ble_eq_true rfl) dX4_attack_22 (w2 := [(m0, .inr (4, [.int (nI 1), .int (nI cnt), .ref mw, .int (nI pr), .ref ma, .int (nI tol), .int (nI kn.toNat), .ref mc, .ref mf, .ref mr, .ref mt, .ref mar, .ref mbe, .ref mou]))]) rfl (fun H locs h => ?_)
    refine lv_aload_n E.1.1 E.1.2.1 dX4_attack_25 rfl (lv_at hl 0 rfl) ?_
    refine q_get E h (C := RX4) (T := TX4) (N := 14) 4 rfl c_4 0 rfl 0 (by decide) c_3 (v := .int (nI 1)) rfl dX4_attack_26 ?_
    refine q_eq0 E (tgt := 34) (by decide) dX4_attack_29 (by decide) (fun hb29 => ?_) (fun hb29 => ?_)
    · exact absurd hb29 (by decide)
    · skip
      refine q_ic E 0 dX4_attack_32 (by decide) ?_
      -- world at the end: [(m0, .inr (4, [.int (nI 1), .int (nI cnt), .ref mw, .int (nI pr), .ref ma, .int (nI tol), .int (nI kn.toNat), .ref mc, .ref mf, .ref mr, .ref mt, .ref mar, .ref mbe, .ref mou]))]
      exact hend _ _ _ _ _ () h dX4_attack_33 rfl
  · exact absurd hb6 (by decide)

set_option maxHeartbeats 4000000 in
set_option maxRecDepth 100000 in
theorem k_X4_attack_bad2 (l : Launch) (g : GK) (m0 mw ma mc mf mr mt mar mbe mou : Nat) (th cnt pr tol : Nat) (kn : Bool) (f : Nat) (y : Int32) (t : Bool) (hcnt : cnt ≤ 12) (hf : f < cnt) (hy : y < 0 ∨ nI cnt ≤ y) : CI (S := Unit) l g yX4_attack wsX4_attack { frames := 1, cells := 0, slots := 0, locals := 21 } [.ref m0, .int (nI f), .int y, .int (nI t.toNat)] [(m0, .inr (4, [.int (nI th), .int (nI cnt), .ref mw, .int (nI pr), .ref ma, .int (nI tol), .int (nI kn.toNat), .ref mc, .ref mf, .ref mr, .ref mt, .ref mar, .ref mbe, .ref mou]))] (fun r _ => r = nI false.toNat) (fun _ => [(m0, .inr (4, [.int (nI 1), .int (nI cnt), .ref mw, .int (nI pr), .ref ma, .int (nI tol), .int (nI kn.toNat), .ref mc, .ref mf, .ref mr, .ref mt, .ref mar, .ref mbe, .ref mou]))]) := by
  refine q_ofI (own := RX4) (by decide) rfl rfl (Nat.le_of_ble_eq_true rfl) (fun v u hp => by obtain rfl := hp; exact n_bool _) ?_
  intro p e s m below meth c A Q args E hmn h hend ls hl
  have hl : lv_has ls 5 [(0, .ref m0), (1, .int (nI f)), (2, .int y), (3, .int (nI t.toNat))] := hl
  have c_1 := cwV (R := { frames := 1, cells := 0, slots := 0, locals := 21 }) (rm := { frames := 0, cells := 0, slots := 0, locals := 0 }) (mc := 0) (ms := 0) 1 E.1.2.2.2.2 gX4_attack_X4_isArgument rfl rfl rfl (by decide +kernel) ⟨Nat.le_of_ble_eq_true rfl, Nat.le_of_ble_eq_true rfl⟩
  have c_3 := cwV (R := { frames := 1, cells := 0, slots := 0, locals := 21 }) (rm := { frames := 0, cells := 0, slots := 0, locals := 0 }) (mc := 0) (ms := 0) 1 E.1.2.2.2.2 gX4_attack_X4_isArgument rfl rfl rfl (by decide +kernel) ⟨Nat.le_of_ble_eq_true rfl, Nat.le_of_ble_eq_true rfl⟩
  have c_5 := E.1.2.2.2.2 (.fieldLink RX4 44 "DebateSolverModel" "thrown" "I") (by decide +kernel)
  have c_6 := (by decide +kernel : ∀ w ∈ wsX40, w ∈ wsX4_attack)
  refine lv_aload_n E.1.1 E.1.2.1 dX4_attack_0 rfl (lv_at hl 0 rfl) ?_
  refine lv_aload_n E.1.1 E.1.2.1 dX4_attack_1 rfl (lv_at hl 0 rfl) ?_
  refine lv_iload_n E.1.1 E.1.2.1 dX4_attack_2 rfl (lv_at hl 1 rfl) ?_
  refine q_ki (w2 := fun _ => [(m0, .inr (4, [.int (nI th), .int (nI cnt), .ref mw, .int (nI pr), .ref ma, .int (nI tol), .int (nI kn.toNat), .ref mc, .ref mf, .ref mr, .ref mt, .ref mar, .ref mbe, .ref mou]))]) (wr := []) E h [0] [] [0] (va_runV (As := [.int (nI f)]) (rest := [.ref m0]) E.1 (k_X4_isArgument l g m0 mw ma mc mf mr mt mar mbe mou th cnt pr tol kn f (by omega) (by omega) _) c_1 (q_preV E h [0] rfl rfl (C := RX4) (T := TX4) (N := 14) 4 rfl 0 rfl) rfl rfl hl.1 rfl (lv_room (Nat.le_of_ble_eq_true rfl)) dX4_attack_3 ⟨Nat.zero_le _, Nat.zero_le _⟩) rfl rfl rfl (by decide) rfl (fun _ => rfl) (fun r2 _ H locs hr2 h => ?_)
  subst hr2
  refine q_beq E (tgt := 21) dX4_attack_6 (by decide) (fun hb6 => ?_) (fun hb6 => ?_)
  · exact absurd hb6 (by decide)
  · skip
    refine lv_aload_n E.1.1 E.1.2.1 dX4_attack_9 rfl (lv_at hl 0 rfl) ?_
    refine lv_iload_n E.1.1 E.1.2.1 dX4_attack_10 rfl (lv_at hl 2 rfl) ?_
    refine q_ki (w2 := fun _ => [(m0, .inr (4, [.int (nI th), .int (nI cnt), .ref mw, .int (nI pr), .ref ma, .int (nI tol), .int (nI kn.toNat), .ref mc, .ref mf, .ref mr, .ref mt, .ref mar, .ref mbe, .ref mou]))]) (wr := []) E h [0] [] [0] (va_runV (As := [.int y]) (rest := [.ref m0]) E.1 (k_X4_isArgument_bad l g m0 mw ma mc mf mr mt mar mbe mou th cnt pr tol kn y (by exact hy) _) c_3 (q_preV E h [0] rfl rfl (C := RX4) (T := TX4) (N := 14) 4 rfl 0 rfl) rfl rfl hl.1 rfl (lv_room (Nat.le_of_ble_eq_true rfl)) dX4_attack_11 ⟨Nat.zero_le _, Nat.zero_le _⟩) rfl rfl rfl (by decide) rfl (fun _ => rfl) (fun r4 _ H locs hr4 h => ?_)
    subst hr4
    refine q_beq E (tgt := 21) dX4_attack_14 (by decide) (fun hb14 => ?_) (fun hb14 => ?_)
    · skip
      refine q_ic E 1 dX4_attack_21 (by decide) ?_
      refine q_put E h (C := RX4) (T := TX4) (N := 14) 4 rfl tyX4 tyX4_ok nmX4 c_6 0 rfl 0 (by decide) c_5 rfl (v := .int (nI 1)) (ty := .int) (by decide +kernel) rfl rfl (Nat.le_of_ble_eq_true rfl) dX4_attack_22 (w2 := [(m0, .inr (4, [.int (nI 1), .int (nI cnt), .ref mw, .int (nI pr), .ref ma, .int (nI tol), .int (nI kn.toNat), .ref mc, .ref mf, .ref mr, .ref mt, .ref mar, .ref mbe, .ref mou]))]) rfl (fun H locs h => ?_)
      refine lv_aload_n E.1.1 E.1.2.1 dX4_attack_25 rfl (lv_at hl 0 rfl) ?_
      refine q_get E h (C := RX4) (T := TX4) (N := 14) 4 rfl c_6 0 rfl 0 (by decide) c_5 (v := .int (nI 1)) rfl dX4_attack_26 ?_
      refine q_eq0 E (tgt := 34) (by decide) dX4_attack_29 (by decide) (fun hb29 => ?_) (fun hb29 => ?_)
      · exact absurd hb29 (by decide)
      · skip
        refine q_ic E 0 dX4_attack_32 (by decide) ?_
        -- world at the end: [(m0, .inr (4, [.int (nI 1), .int (nI cnt), .ref mw, .int (nI pr), .ref ma, .int (nI tol), .int (nI kn.toNat), .ref mc, .ref mf, .ref mr, .ref mt, .ref mar, .ref mbe, .ref mou]))]
        exact hend _ _ _ _ _ () h dX4_attack_33 rfl
    · exact absurd hb14 (by decide)

set_option maxHeartbeats 4000000 in
set_option maxRecDepth 100000 in
theorem k_X4_setTolerance (l : Launch) (g : GK) (m0 mw ma mc mf mr mt mar mbe mou : Nat) (th cnt pr tol : Nat) (kn : Bool) (n : Nat) (hn : n ≤ 9) : CI (S := Unit) l g yX4_setTolerance wsX4_setTolerance { frames := 1, cells := 0, slots := 0, locals := 20 } [.ref m0, .int (nI n)] [(m0, .inr (4, [.int (nI th), .int (nI cnt), .ref mw, .int (nI pr), .ref ma, .int (nI tol), .int (nI kn.toNat), .ref mc, .ref mf, .ref mr, .ref mt, .ref mar, .ref mbe, .ref mou]))] (fun r _ => r = nI tol) (fun _ => [(m0, .inr (4, [.int (nI 0), .int (nI cnt), .ref mw, .int (nI pr), .ref ma, .int (nI n), .int (nI false.toNat), .ref mc, .ref mf, .ref mr, .ref mt, .ref mar, .ref mbe, .ref mou]))]) := by
  refine q_ofI (own := RX4) (by decide) rfl rfl (Nat.le_of_ble_eq_true rfl) n_int ?_
  intro p e s m below meth c A Q args E hmn h hend ls hl
  have hl : lv_has ls 3 [(0, .ref m0), (1, .int (nI n))] := hl
  have c_1 := E.1.2.2.2.2 (.fieldLink RX4 44 "DebateSolverModel" "thrown" "I") (by decide +kernel)
  have c_2 := (by decide +kernel : ∀ w ∈ wsX40, w ∈ wsX4_setTolerance)
  have c_3 := E.1.2.2.2.2 (.fieldLink RX4 16 "DebateSolverModel" "tolerance" "I") (by decide +kernel)
  have c_4 := cwV (R := { frames := 1, cells := 0, slots := 0, locals := 20 }) (rm := { frames := 0, cells := 0, slots := 0, locals := 0 }) (mc := 0) (ms := 0) 0 E.1.2.2.2.2 gX4_setTolerance_X4_change rfl rfl rfl (by decide +kernel) ⟨Nat.le_of_ble_eq_true rfl, Nat.le_of_ble_eq_true rfl⟩
  refine lv_aload_n E.1.1 E.1.2.1 dX4_setTolerance_0 rfl (lv_at hl 0 rfl) ?_
  refine q_ic E 0 dX4_setTolerance_1 (by decide) ?_
  refine q_put E h (C := RX4) (T := TX4) (N := 14) 4 rfl tyX4 tyX4_ok nmX4 c_2 0 rfl 0 (by decide) c_1 rfl (v := .int (nI 0)) (ty := .int) (by decide +kernel) rfl rfl (Nat.le_of_ble_eq_true rfl) dX4_setTolerance_2 (w2 := [(m0, .inr (4, [.int (nI 0), .int (nI cnt), .ref mw, .int (nI pr), .ref ma, .int (nI tol), .int (nI kn.toNat), .ref mc, .ref mf, .ref mr, .ref mt, .ref mar, .ref mbe, .ref mou]))]) rfl (fun H locs h => ?_)
  refine lv_iload_n E.1.1 E.1.2.1 dX4_setTolerance_5 rfl (lv_at hl 1 rfl) ?_
  refine q_lt0 E (tgt := 15) (by omega) dX4_setTolerance_6 (by decide) ?_
  refine lv_iload_n E.1.1 E.1.2.1 dX4_setTolerance_9 rfl (lv_at hl 1 rfl) ?_
  refine q_bi E 9 dX4_setTolerance_10 (by decide) ?_
  refine q_le E (tgt := 21) (by omega) (by omega) dX4_setTolerance_12 (by decide) (fun hb12 => ?_) (fun hb12 => ?_)
  · skip
    refine lv_aload_n E.1.1 E.1.2.1 dX4_setTolerance_21 rfl (lv_at hl 0 rfl) ?_
    refine q_get E h (C := RX4) (T := TX4) (N := 14) 4 rfl c_2 0 rfl 5 (by decide) c_3 (v := .int (nI tol)) rfl dX4_setTolerance_22 ?_
    refine lv_istore_n (lv' := [(2, .int (nI tol)), (0, .ref m0), (1, .int (nI n))]) E.1.1 E.1.2.1 dX4_setTolerance_25 rfl hl (by decide) rfl (fun ls hl => ?_)
    refine lv_aload_n E.1.1 E.1.2.1 dX4_setTolerance_26 rfl (lv_at hl 1 rfl) ?_
    refine lv_iload_n E.1.1 E.1.2.1 dX4_setTolerance_27 rfl (lv_at hl 2 rfl) ?_
    refine q_put E h (C := RX4) (T := TX4) (N := 14) 4 rfl tyX4 tyX4_ok nmX4 c_2 0 rfl 5 (by decide) c_3 rfl (v := .int (nI n)) (ty := .int) (by decide +kernel) rfl rfl (Nat.le_of_ble_eq_true rfl) dX4_setTolerance_28 (w2 := [(m0, .inr (4, [.int (nI 0), .int (nI cnt), .ref mw, .int (nI pr), .ref ma, .int (nI n), .int (nI kn.toNat), .ref mc, .ref mf, .ref mr, .ref mt, .ref mar, .ref mbe, .ref mou]))]) rfl (fun H locs h => ?_)
    refine lv_aload_n E.1.1 E.1.2.1 dX4_setTolerance_31 rfl (lv_at hl 1 rfl) ?_
    refine q_kv (w2 := fun _ => [(m0, .inr (4, [.int (nI 0), .int (nI cnt), .ref mw, .int (nI pr), .ref ma, .int (nI n), .int (nI false.toNat), .ref mc, .ref mf, .ref mr, .ref mt, .ref mar, .ref mbe, .ref mou]))]) (wr := []) E h [0] [] [0] (va_runV (As := []) (rest := []) E.1 (k_X4_change l g m0 mw ma mc mf mr mt mar mbe mou 0 cnt pr n kn  _) c_4 (q_preV E h [0] rfl rfl (C := RX4) (T := TX4) (N := 14) 4 rfl 0 rfl) rfl rfl hl.1 rfl (lv_room (Nat.le_of_ble_eq_true rfl)) dX4_setTolerance_32 ⟨Nat.zero_le _, Nat.zero_le _⟩) rfl rfl rfl (by decide) rfl (fun _ => rfl) (fun _ H locs _ h => ?_)
    refine lv_iload_n E.1.1 E.1.2.1 dX4_setTolerance_35 rfl (lv_at hl 0 rfl) ?_
    -- world at the end: [(m0, .inr (4, [.int (nI 0), .int (nI cnt), .ref mw, .int (nI pr), .ref ma, .int (nI n), .int (nI false.toNat), .ref mc, .ref mf, .ref mr, .ref mt, .ref mar, .ref mbe, .ref mou]))]
    exact hend _ _ _ _ _ () h dX4_setTolerance_36 rfl
  · skip
    exact absurd hb12 (by omega)

set_option maxHeartbeats 4000000 in
set_option maxRecDepth 100000 in
theorem k_X4_setTolerance_bad (l : Launch) (g : GK) (m0 mw ma mc mf mr mt mar mbe mou : Nat) (th cnt pr tol : Nat) (kn : Bool) (z : Int32) (hz : z < 0 ∨ nI 9 < z) : CI (S := Unit) l g yX4_setTolerance wsX4_setTolerance { frames := 1, cells := 0, slots := 0, locals := 21 } [.ref m0, .int z] [(m0, .inr (4, [.int (nI th), .int (nI cnt), .ref mw, .int (nI pr), .ref ma, .int (nI tol), .int (nI kn.toNat), .ref mc, .ref mf, .ref mr, .ref mt, .ref mar, .ref mbe, .ref mou]))] (fun r _ => r = nI 0) (fun _ => [(m0, .inr (4, [.int (nI 1), .int (nI cnt), .ref mw, .int (nI pr), .ref ma, .int (nI tol), .int (nI kn.toNat), .ref mc, .ref mf, .ref mr, .ref mt, .ref mar, .ref mbe, .ref mou]))]) := by
  refine q_ofI (own := RX4) (by decide) rfl rfl (Nat.le_of_ble_eq_true rfl) n_int ?_
  intro p e s m below meth c A Q args E hmn h hend ls hl
  have hl : lv_has ls 3 [(0, .ref m0), (1, .int z)] := hl
  have c_1 := E.1.2.2.2.2 (.fieldLink RX4 44 "DebateSolverModel" "thrown" "I") (by decide +kernel)
  have c_2 := (by decide +kernel : ∀ w ∈ wsX40, w ∈ wsX4_setTolerance)
  have c_3 := cwV (R := { frames := 1, cells := 0, slots := 0, locals := 21 }) (rm := { frames := 0, cells := 0, slots := 0, locals := 0 }) (mc := 0) (ms := 0) 1 E.1.2.2.2.2 gX4_setTolerance_X4_fail rfl rfl rfl (by decide +kernel) ⟨Nat.le_of_ble_eq_true rfl, Nat.le_of_ble_eq_true rfl⟩
  refine lv_aload_n E.1.1 E.1.2.1 dX4_setTolerance_0 rfl (lv_at hl 0 rfl) ?_
  refine q_ic E 0 dX4_setTolerance_1 (by decide) ?_
  refine q_put E h (C := RX4) (T := TX4) (N := 14) 4 rfl tyX4 tyX4_ok nmX4 c_2 0 rfl 0 (by decide) c_1 rfl (v := .int (nI 0)) (ty := .int) (by decide +kernel) rfl rfl (Nat.le_of_ble_eq_true rfl) dX4_setTolerance_2 (w2 := [(m0, .inr (4, [.int (nI 0), .int (nI cnt), .ref mw, .int (nI pr), .ref ma, .int (nI tol), .int (nI kn.toNat), .ref mc, .ref mf, .ref mr, .ref mt, .ref mar, .ref mbe, .ref mou]))]) rfl (fun H locs h => ?_)
  refine lv_iload_n E.1.1 E.1.2.1 dX4_setTolerance_5 rfl (lv_at hl 1 rfl) ?_
  refine lv_if_lt (tgt := 15) E.1.1 E.1.2.1 dX4_setTolerance_6 (by decide) (fun hb6 => ?_) (fun hb6 => ?_)
  · skip
    refine lv_aload_n E.1.1 E.1.2.1 dX4_setTolerance_15 rfl (lv_at hl 0 rfl) ?_
    refine q_ic E 1 dX4_setTolerance_16 (by decide) ?_
    refine q_ki (w2 := fun _ => [(m0, .inr (4, [.int (nI 1), .int (nI cnt), .ref mw, .int (nI pr), .ref ma, .int (nI tol), .int (nI kn.toNat), .ref mc, .ref mf, .ref mr, .ref mt, .ref mar, .ref mbe, .ref mou]))]) (wr := []) E h [0] [] [0] (va_runV (As := [.int (nI 1)]) (rest := []) E.1 (k_X4_fail l g m0 mw ma mc mf mr mt mar mbe mou 0 cnt pr tol kn 1  _) c_3 (q_preV E h [0] rfl rfl (C := RX4) (T := TX4) (N := 14) 4 rfl 0 rfl) rfl rfl hl.1 rfl (lv_room (Nat.le_of_ble_eq_true rfl)) dX4_setTolerance_17 ⟨Nat.zero_le _, Nat.zero_le _⟩) rfl rfl rfl (by decide) rfl (fun _ => rfl) (fun r4 _ H locs hr4 h => ?_)
    subst hr4
    -- world at the end: [(m0, .inr (4, [.int (nI 1), .int (nI cnt), .ref mw, .int (nI pr), .ref ma, .int (nI tol), .int (nI kn.toNat), .ref mc, .ref mf, .ref mr, .ref mt, .ref mar, .ref mbe, .ref mou]))]
    exact hend _ _ _ _ _ () h dX4_setTolerance_20 rfl
  · skip
    refine lv_iload_n E.1.1 E.1.2.1 dX4_setTolerance_9 rfl (lv_at hl 1 rfl) ?_
    refine q_bi E 9 dX4_setTolerance_10 (by decide) ?_
    refine lv_icmp_le (tgt := 21) E.1.1 E.1.2.1 dX4_setTolerance_12 (by decide) (fun hb12 => ?_) (fun hb12 => ?_)
    · skip
      exact absurd hz (fun q => q.elim hb6 (fun y => absurd hb12 (Int32.not_le.mpr y)))
    · skip
      refine lv_aload_n E.1.1 E.1.2.1 dX4_setTolerance_15 rfl (lv_at hl 0 rfl) ?_
      refine q_ic E 1 dX4_setTolerance_16 (by decide) ?_
      refine q_ki (w2 := fun _ => [(m0, .inr (4, [.int (nI 1), .int (nI cnt), .ref mw, .int (nI pr), .ref ma, .int (nI tol), .int (nI kn.toNat), .ref mc, .ref mf, .ref mr, .ref mt, .ref mar, .ref mbe, .ref mou]))]) (wr := []) E h [0] [] [0] (va_runV (As := [.int (nI 1)]) (rest := []) E.1 (k_X4_fail l g m0 mw ma mc mf mr mt mar mbe mou 0 cnt pr tol kn 1  _) c_3 (q_preV E h [0] rfl rfl (C := RX4) (T := TX4) (N := 14) 4 rfl 0 rfl) rfl rfl hl.1 rfl (lv_room (Nat.le_of_ble_eq_true rfl)) dX4_setTolerance_17 ⟨Nat.zero_le _, Nat.zero_le _⟩) rfl rfl rfl (by decide) rfl (fun _ => rfl) (fun r5 _ H locs hr5 h => ?_)
      subst hr5
      -- world at the end: [(m0, .inr (4, [.int (nI 1), .int (nI cnt), .ref mw, .int (nI pr), .ref ma, .int (nI tol), .int (nI kn.toNat), .ref mc, .ref mf, .ref mr, .ref mt, .ref mar, .ref mbe, .ref mou]))]
      exact hend _ _ _ _ _ () h dX4_setTolerance_20 rfl

set_option maxHeartbeats 4000000 in
set_option maxRecDepth 100000 in
theorem k_X4_argumentCount (l : Launch) (g : GK) (m0 mw ma mc mf mr mt mar mbe mou : Nat) (th cnt pr tol : Nat) (kn : Bool)  : CI (S := Unit) l g yX4_argumentCount wsX4_argumentCount { frames := 0, cells := 0, slots := 0, locals := 0 } [.ref m0] [(m0, .inr (4, [.int (nI th), .int (nI cnt), .ref mw, .int (nI pr), .ref ma, .int (nI tol), .int (nI kn.toNat), .ref mc, .ref mf, .ref mr, .ref mt, .ref mar, .ref mbe, .ref mou]))] (fun r _ => r = nI cnt) (fun _ => [(m0, .inr (4, [.int (nI 0), .int (nI cnt), .ref mw, .int (nI pr), .ref ma, .int (nI tol), .int (nI kn.toNat), .ref mc, .ref mf, .ref mr, .ref mt, .ref mar, .ref mbe, .ref mou]))]) := by
  refine q_ofI (own := RX4) (by decide) rfl rfl (Nat.le_of_ble_eq_true rfl) n_int ?_
  intro p e s m below meth c A Q args E hmn h hend ls hl
  have hl : lv_has ls 1 [(0, .ref m0)] := hl
  have c_1 := E.1.2.2.2.2 (.fieldLink RX4 44 "DebateSolverModel" "thrown" "I") (by decide +kernel)
  have c_2 := (by decide +kernel : ∀ w ∈ wsX40, w ∈ wsX4_argumentCount)
  have c_3 := E.1.2.2.2.2 (.fieldLink RX4 47 "DebateSolverModel" "many" "I") (by decide +kernel)
  refine lv_aload_n E.1.1 E.1.2.1 dX4_argumentCount_0 rfl (lv_at hl 0 rfl) ?_
  refine q_ic E 0 dX4_argumentCount_1 (by decide) ?_
  refine q_put E h (C := RX4) (T := TX4) (N := 14) 4 rfl tyX4 tyX4_ok nmX4 c_2 0 rfl 0 (by decide) c_1 rfl (v := .int (nI 0)) (ty := .int) (by decide +kernel) rfl rfl (Nat.le_of_ble_eq_true rfl) dX4_argumentCount_2 (w2 := [(m0, .inr (4, [.int (nI 0), .int (nI cnt), .ref mw, .int (nI pr), .ref ma, .int (nI tol), .int (nI kn.toNat), .ref mc, .ref mf, .ref mr, .ref mt, .ref mar, .ref mbe, .ref mou]))]) rfl (fun H locs h => ?_)
  refine lv_aload_n E.1.1 E.1.2.1 dX4_argumentCount_5 rfl (lv_at hl 0 rfl) ?_
  refine q_get E h (C := RX4) (T := TX4) (N := 14) 4 rfl c_2 0 rfl 1 (by decide) c_3 (v := .int (nI cnt)) rfl dX4_argumentCount_6 ?_
  -- world at the end: [(m0, .inr (4, [.int (nI 0), .int (nI cnt), .ref mw, .int (nI pr), .ref ma, .int (nI tol), .int (nI kn.toNat), .ref mc, .ref mf, .ref mr, .ref mt, .ref mar, .ref mbe, .ref mou]))]
  exact hend _ _ _ _ _ () h dX4_argumentCount_9 rfl

set_option maxHeartbeats 4000000 in
set_option maxRecDepth 100000 in
theorem k_X4_debate (l : Launch) (g : GK) (m0 mw ma mc mf mr mt mar mbe mou : Nat) (th cnt pr tol : Nat) (kn : Bool)  : CI (S := Unit) l g yX4_debate wsX4_debate { frames := 0, cells := 0, slots := 0, locals := 0 } [.ref m0] [(m0, .inr (4, [.int (nI th), .int (nI cnt), .ref mw, .int (nI pr), .ref ma, .int (nI tol), .int (nI kn.toNat), .ref mc, .ref mf, .ref mr, .ref mt, .ref mar, .ref mbe, .ref mou]))] (fun r _ => r = nI pr) (fun _ => [(m0, .inr (4, [.int (nI 0), .int (nI cnt), .ref mw, .int (nI pr), .ref ma, .int (nI tol), .int (nI kn.toNat), .ref mc, .ref mf, .ref mr, .ref mt, .ref mar, .ref mbe, .ref mou]))]) := by
  refine q_ofI (own := RX4) (by decide) rfl rfl (Nat.le_of_ble_eq_true rfl) n_int ?_
  intro p e s m below meth c A Q args E hmn h hend ls hl
  have hl : lv_has ls 1 [(0, .ref m0)] := hl
  have c_1 := E.1.2.2.2.2 (.fieldLink RX4 44 "DebateSolverModel" "thrown" "I") (by decide +kernel)
  have c_2 := (by decide +kernel : ∀ w ∈ wsX40, w ∈ wsX4_debate)
  have c_3 := E.1.2.2.2.2 (.fieldLink RX4 62 "DebateSolverModel" "in" "I") (by decide +kernel)
  refine lv_aload_n E.1.1 E.1.2.1 dX4_debate_0 rfl (lv_at hl 0 rfl) ?_
  refine q_ic E 0 dX4_debate_1 (by decide) ?_
  refine q_put E h (C := RX4) (T := TX4) (N := 14) 4 rfl tyX4 tyX4_ok nmX4 c_2 0 rfl 0 (by decide) c_1 rfl (v := .int (nI 0)) (ty := .int) (by decide +kernel) rfl rfl (Nat.le_of_ble_eq_true rfl) dX4_debate_2 (w2 := [(m0, .inr (4, [.int (nI 0), .int (nI cnt), .ref mw, .int (nI pr), .ref ma, .int (nI tol), .int (nI kn.toNat), .ref mc, .ref mf, .ref mr, .ref mt, .ref mar, .ref mbe, .ref mou]))]) rfl (fun H locs h => ?_)
  refine lv_aload_n E.1.1 E.1.2.1 dX4_debate_5 rfl (lv_at hl 0 rfl) ?_
  refine q_get E h (C := RX4) (T := TX4) (N := 14) 4 rfl c_2 0 rfl 3 (by decide) c_3 (v := .int (nI pr)) rfl dX4_debate_6 ?_
  -- world at the end: [(m0, .inr (4, [.int (nI 0), .int (nI cnt), .ref mw, .int (nI pr), .ref ma, .int (nI tol), .int (nI kn.toNat), .ref mc, .ref mf, .ref mr, .ref mt, .ref mar, .ref mbe, .ref mou]))]
  exact hend _ _ _ _ _ () h dX4_debate_9 rfl

set_option maxHeartbeats 4000000 in
set_option maxRecDepth 100000 in
theorem k_X4_works (l : Launch) (g : GK) (m0 mw ma mc mf mr mt mar mbe mou : Nat) (th cnt pr tol : Nat) (kn : Bool) (wt mk : Nat → Nat) (f v : Nat) (hpr : pr < 4096) (hmk : ∀ k, mk k < 4096) (hwt : ∀ k, wt k < 65536) (htol : tol < 65536) (hf : f < 12) (hv : v < 12) : CI (S := Unit) l g yX4_works wsX4_works { frames := 1, cells := 0, slots := 0, locals := 21 } [.ref m0, .int (nI f), .int (nI v)] [(m0, .inr (4, [.int (nI th), .int (nI cnt), .ref mw, .int (nI pr), .ref ma, .int (nI tol), .int (nI kn.toNat), .ref mc, .ref mf, .ref mr, .ref mt, .ref mar, .ref mbe, .ref mou])), (mw, .inl (gI g, 12, .inl (aN wt))), (ma, .inl (gI g, 12, .inl (aN mk)))] (fun r _ => r = nI (wkb wt mk pr tol f v).toNat) (fun _ => [(m0, .inr (4, [.int (nI th), .int (nI cnt), .ref mw, .int (nI pr), .ref ma, .int (nI tol), .int (nI kn.toNat), .ref mc, .ref mf, .ref mr, .ref mt, .ref mar, .ref mbe, .ref mou])), (mw, .inl (gI g, 12, .inl (aN wt))), (ma, .inl (gI g, 12, .inl (aN mk)))]) := by
  refine q_ofI (own := RX4) (by decide) rfl rfl (Nat.le_of_ble_eq_true rfl) (fun v u hp => by obtain rfl := hp; exact n_bool _) ?_
  intro p e s m below meth c A Q args E hmn h hend ls hl
  have hl : lv_has ls 3 [(0, .ref m0), (1, .int (nI f)), (2, .int (nI v))] := hl
  have c_1 := E.1.2.2.2.2 (.fieldLink RX4 62 "DebateSolverModel" "in" "I") (by decide +kernel)
  have c_2 := (by decide +kernel : ∀ w ∈ wsX40, w ∈ wsX4_works)
  have c_3 := cwS (R := { frames := 1, cells := 0, slots := 0, locals := 21 }) (rm := { frames := 0, cells := 0, slots := 0, locals := 0 }) (mc := 0) (ms := 0) 2 E.1.2.2.2.2 gX4_works_X4_has rfl rfl rfl (by decide +kernel) ⟨Nat.le_of_ble_eq_true rfl, Nat.le_of_ble_eq_true rfl⟩
  have c_6 := E.1.2.2.2.2 (.fieldLink RX4 13 "DebateSolverModel" "attacks" "[I") (by decide +kernel)
  have c_8 := E.1.2.2.2.2 (.fieldLink RX4 9 "DebateSolverModel" "weights" "[I") (by decide +kernel)
  have c_9 := E.1.2.2.2.2 (.fieldLink RX4 16 "DebateSolverModel" "tolerance" "I") (by decide +kernel)
  refine lv_aload_n E.1.1 E.1.2.1 dX4_works_0 rfl (lv_at hl 0 rfl) ?_
  refine q_get E h (C := RX4) (T := TX4) (N := 14) 4 rfl c_2 0 rfl 3 (by decide) c_1 (v := .int (nI pr)) rfl dX4_works_1 ?_
  refine lv_iload_n E.1.1 E.1.2.1 dX4_works_4 rfl (lv_at hl 1 rfl) ?_
  refine q_ki (w2 := fun _ => [(m0, .inr (4, [.int (nI th), .int (nI cnt), .ref mw, .int (nI pr), .ref ma, .int (nI tol), .int (nI kn.toNat), .ref mc, .ref mf, .ref mr, .ref mt, .ref mar, .ref mbe, .ref mou])), (mw, .inl (gI g, 12, .inl (aN wt))), (ma, .inl (gI g, 12, .inl (aN mk)))]) (wr := [(m0, .inr (4, [.int (nI th), .int (nI cnt), .ref mw, .int (nI pr), .ref ma, .int (nI tol), .int (nI kn.toNat), .ref mc, .ref mf, .ref mr, .ref mt, .ref mar, .ref mbe, .ref mou])), (mw, .inl (gI g, 12, .inl (aN wt))), (ma, .inl (gI g, 12, .inl (aN mk)))]) E h [] [0, 1, 2] [0, 1, 2] (va_runS (As := [.int (nI pr), .int (nI f)]) (rest := []) E.1 (k_X4_has l g pr f (by omega) (by omega) _) c_3 (q_preS E h [] rfl rfl) rfl rfl hl.1 rfl (lv_room (Nat.le_of_ble_eq_true rfl)) dX4_works_5 ⟨Nat.zero_le _, Nat.zero_le _⟩) rfl rfl rfl (by decide) rfl (fun _ => rfl) (fun r4 _ H locs hr4 h => ?_)
  subst hr4
  refine q_beq E (tgt := 59) dX4_works_8 (by decide) (fun hb8 => ?_) (fun hb8 => ?_)
  · skip
    refine q_ic E 0 dX4_works_59 (by decide) ?_
    -- world at the end: [(m0, .inr (4, [.int (nI th), .int (nI cnt), .ref mw, .int (nI pr), .ref ma, .int (nI tol), .int (nI kn.toNat), .ref mc, .ref mf, .ref mr, .ref mt, .ref mar, .ref mbe, .ref mou])), (mw, .inl (gI g, 12, .inl (aN wt))), (ma, .inl (gI g, 12, .inl (aN mk)))]
    exact hend _ _ _ _ _ () h dX4_works_60 (by rw [wkb_eq, hb8]; rfl)
  · skip
    refine lv_aload_n E.1.1 E.1.2.1 dX4_works_11 rfl (lv_at hl 0 rfl) ?_
    refine q_get E h (C := RX4) (T := TX4) (N := 14) 4 rfl c_2 0 rfl 3 (by decide) c_1 (v := .int (nI pr)) rfl dX4_works_12 ?_
    refine lv_iload_n E.1.1 E.1.2.1 dX4_works_15 rfl (lv_at hl 2 rfl) ?_
    refine q_ki (w2 := fun _ => [(m0, .inr (4, [.int (nI th), .int (nI cnt), .ref mw, .int (nI pr), .ref ma, .int (nI tol), .int (nI kn.toNat), .ref mc, .ref mf, .ref mr, .ref mt, .ref mar, .ref mbe, .ref mou])), (mw, .inl (gI g, 12, .inl (aN wt))), (ma, .inl (gI g, 12, .inl (aN mk)))]) (wr := [(m0, .inr (4, [.int (nI th), .int (nI cnt), .ref mw, .int (nI pr), .ref ma, .int (nI tol), .int (nI kn.toNat), .ref mc, .ref mf, .ref mr, .ref mt, .ref mar, .ref mbe, .ref mou])), (mw, .inl (gI g, 12, .inl (aN wt))), (ma, .inl (gI g, 12, .inl (aN mk)))]) E h [] [0, 1, 2] [0, 1, 2] (va_runS (As := [.int (nI pr), .int (nI v)]) (rest := []) E.1 (k_X4_has l g pr v (by omega) (by omega) _) c_3 (q_preS E h [] rfl rfl) rfl rfl hl.1 rfl (lv_room (Nat.le_of_ble_eq_true rfl)) dX4_works_16 ⟨Nat.zero_le _, Nat.zero_le _⟩) rfl rfl rfl (by decide) rfl (fun _ => rfl) (fun r5 _ H locs hr5 h => ?_)
    subst hr5
    refine q_beq E (tgt := 59) dX4_works_19 (by decide) (fun hb19 => ?_) (fun hb19 => ?_)
    · skip
      refine q_ic E 0 dX4_works_59 (by decide) ?_
      -- world at the end: [(m0, .inr (4, [.int (nI th), .int (nI cnt), .ref mw, .int (nI pr), .ref ma, .int (nI tol), .int (nI kn.toNat), .ref mc, .ref mf, .ref mr, .ref mt, .ref mar, .ref mbe, .ref mou])), (mw, .inl (gI g, 12, .inl (aN wt))), (ma, .inl (gI g, 12, .inl (aN mk)))]
      exact hend _ _ _ _ _ () h dX4_works_60 (by rw [wkb_eq, hb8, hb19]; rfl)
    · skip
      refine lv_aload_n E.1.1 E.1.2.1 dX4_works_22 rfl (lv_at hl 0 rfl) ?_
      refine q_get E h (C := RX4) (T := TX4) (N := 14) 4 rfl c_2 0 rfl 4 (by decide) c_6 (v := .ref ma) rfl dX4_works_23 ?_
      refine lv_iload_n E.1.1 E.1.2.1 dX4_works_26 rfl (lv_at hl 1 rfl) ?_
      refine q_iald E h 2 (f := mk) rfl (by omega) (by decide) dX4_works_27 ?_
      refine lv_iload_n E.1.1 E.1.2.1 dX4_works_28 rfl (lv_at hl 2 rfl) ?_
      refine q_ki (w2 := fun _ => [(m0, .inr (4, [.int (nI th), .int (nI cnt), .ref mw, .int (nI pr), .ref ma, .int (nI tol), .int (nI kn.toNat), .ref mc, .ref mf, .ref mr, .ref mt, .ref mar, .ref mbe, .ref mou])), (mw, .inl (gI g, 12, .inl (aN wt))), (ma, .inl (gI g, 12, .inl (aN mk)))]) (wr := [(m0, .inr (4, [.int (nI th), .int (nI cnt), .ref mw, .int (nI pr), .ref ma, .int (nI tol), .int (nI kn.toNat), .ref mc, .ref mf, .ref mr, .ref mt, .ref mar, .ref mbe, .ref mou])), (mw, .inl (gI g, 12, .inl (aN wt))), (ma, .inl (gI g, 12, .inl (aN mk)))]) E h [] [0, 1, 2] [0, 1, 2] (va_runS (As := [.int (nI (mk f)), .int (nI v)]) (rest := []) E.1 (k_X4_has l g (mk f) v (by exact Nat.lt_trans (hmk f) (by decide)) (by omega) _) c_3 (q_preS E h [] rfl rfl) rfl rfl hl.1 rfl (lv_room (Nat.le_of_ble_eq_true rfl)) dX4_works_29 ⟨Nat.zero_le _, Nat.zero_le _⟩) rfl rfl rfl (by decide) rfl (fun _ => rfl) (fun r7 _ H locs hr7 h => ?_)
      subst hr7
      refine q_beq E (tgt := 59) dX4_works_32 (by decide) (fun hb32 => ?_) (fun hb32 => ?_)
      · skip
        refine q_ic E 0 dX4_works_59 (by decide) ?_
        -- world at the end: [(m0, .inr (4, [.int (nI th), .int (nI cnt), .ref mw, .int (nI pr), .ref ma, .int (nI tol), .int (nI kn.toNat), .ref mc, .ref mf, .ref mr, .ref mt, .ref mar, .ref mbe, .ref mou])), (mw, .inl (gI g, 12, .inl (aN wt))), (ma, .inl (gI g, 12, .inl (aN mk)))]
        exact hend _ _ _ _ _ () h dX4_works_60 (by rw [wkb_eq, hb8, hb19, hb32]; rfl)
      · skip
        refine lv_aload_n E.1.1 E.1.2.1 dX4_works_35 rfl (lv_at hl 0 rfl) ?_
        refine q_get E h (C := RX4) (T := TX4) (N := 14) 4 rfl c_2 0 rfl 2 (by decide) c_8 (v := .ref mw) rfl dX4_works_36 ?_
        refine lv_iload_n E.1.1 E.1.2.1 dX4_works_39 rfl (lv_at hl 2 rfl) ?_
        refine q_iald E h 1 (f := wt) rfl (by omega) (by decide) dX4_works_40 ?_
        refine lv_aload_n E.1.1 E.1.2.1 dX4_works_41 rfl (lv_at hl 0 rfl) ?_
        refine q_get E h (C := RX4) (T := TX4) (N := 14) 4 rfl c_2 0 rfl 2 (by decide) c_8 (v := .ref mw) rfl dX4_works_42 ?_
        refine lv_iload_n E.1.1 E.1.2.1 dX4_works_45 rfl (lv_at hl 1 rfl) ?_
        refine q_iald E h 1 (f := wt) rfl (by omega) (by decide) dX4_works_46 ?_
        refine lv_isub E.1.1 E.1.2.1 dX4_works_47 ?_
        refine lv_aload_n E.1.1 E.1.2.1 dX4_works_48 rfl (lv_at hl 0 rfl) ?_
        refine q_get E h (C := RX4) (T := TX4) (N := 14) 4 rfl c_2 0 rfl 5 (by decide) c_9 (v := .int (nI tol)) rfl dX4_works_49 ?_
        refine lv_icmp_gt (tgt := 59) E.1.1 E.1.2.1 dX4_works_52 (by decide) (fun hb52 => ?_) (fun hb52 => ?_)
        · skip
          have hd : decide (wt v ≤ wt f + tol) = false := decide_eq_false ((wk_lt (hwt _) (hwt _) htol).mp hb52)
          refine q_ic E 0 dX4_works_59 (by decide) ?_
          -- world at the end: [(m0, .inr (4, [.int (nI th), .int (nI cnt), .ref mw, .int (nI pr), .ref ma, .int (nI tol), .int (nI kn.toNat), .ref mc, .ref mf, .ref mr, .ref mt, .ref mar, .ref mbe, .ref mou])), (mw, .inl (gI g, 12, .inl (aN wt))), (ma, .inl (gI g, 12, .inl (aN mk)))]
          exact hend _ _ _ _ _ () h dX4_works_60 (by rw [wkb_eq, hb8, hb19, hb32, hd]; rfl)
        · skip
          have hd : decide (wt v ≤ wt f + tol) = true := decide_eq_true (Decidable.not_not.mp (fun q => hb52 ((wk_lt (hwt _) (hwt _) htol).mpr q)))
          refine q_ic E 1 dX4_works_55 (by decide) ?_
          refine q_go E (tgt := 60) dX4_works_56 (by decide) ?_
          -- world at the end: [(m0, .inr (4, [.int (nI th), .int (nI cnt), .ref mw, .int (nI pr), .ref ma, .int (nI tol), .int (nI kn.toNat), .ref mc, .ref mf, .ref mr, .ref mt, .ref mar, .ref mbe, .ref mou])), (mw, .inl (gI g, 12, .inl (aN wt))), (ma, .inl (gI g, 12, .inl (aN mk)))]
          exact hend _ _ _ _ _ () h dX4_works_60 (by rw [wkb_eq, hb8, hb19, hb32, hd]; rfl)

set_option maxHeartbeats 4000000 in
set_option maxRecDepth 100000 in
theorem k_X4_attackersOf (l : Launch) (g : GK) (m0 mw ma mc mf mr mt mar mbe mou : Nat) (th cnt pr tol : Nat) (kn : Bool) (wt mk : Nat → Nat) (v : Nat) (hcnt : cnt ≤ 12) (hpc : pr < 2 ^ cnt) (hmk : ∀ k, mk k < 4096) (hwt : ∀ k, wt k < 65536) (htol : tol < 65536) (hv : v < 12) : CI (S := Unit) l g yX4_attackersOf wsX4_attackersOf { frames := 2, cells := 0, slots := 0, locals := 43 } [.ref m0, .int (nI v)] [(m0, .inr (4, [.int (nI th), .int (nI cnt), .ref mw, .int (nI pr), .ref ma, .int (nI tol), .int (nI kn.toNat), .ref mc, .ref mf, .ref mr, .ref mt, .ref mar, .ref mbe, .ref mou])), (mw, .inl (gI g, 12, .inl (aN wt))), (ma, .inl (gI g, 12, .inl (aN mk)))] (fun r _ => r = nI (srO (wkb wt mk pr tol) v)) (fun _ => [(m0, .inr (4, [.int (nI th), .int (nI cnt), .ref mw, .int (nI pr), .ref ma, .int (nI tol), .int (nI kn.toNat), .ref mc, .ref mf, .ref mr, .ref mt, .ref mar, .ref mbe, .ref mou])), (mw, .inl (gI g, 12, .inl (aN wt))), (ma, .inl (gI g, 12, .inl (aN mk)))]) := by
  refine q_ofI (own := RX4) (by decide) rfl rfl (Nat.le_of_ble_eq_true rfl) n_int ?_
  intro p e s m below meth c A Q args E hmn h hend ls hl
  have hl : lv_has ls 4 [(0, .ref m0), (1, .int (nI v))] := hl
  have c_1 := E.1.2.2.2.2 (.fieldLink RX4 47 "DebateSolverModel" "many" "I") (by decide +kernel)
  have c_2 := (by decide +kernel : ∀ w ∈ wsX40, w ∈ wsX4_attackersOf)
  have c_3 := cwV (R := { frames := 2, cells := 0, slots := 0, locals := 43 }) (rm := { frames := 1, cells := 0, slots := 0, locals := 21 }) (mc := 0) (ms := 0) 2 E.1.2.2.2.2 gX4_attackersOf_X4_works rfl rfl rfl (by decide +kernel) ⟨Nat.le_of_ble_eq_true rfl, Nat.le_of_ble_eq_true rfl⟩
  have hpr := pr12 hcnt hpc
  have hp12 := cnt_p12 hcnt
  refine q_ic E 0 dX4_attackersOf_0 (by decide) ?_
  refine lv_istore_n (lv' := [(2, .int (nI 0)), (0, .ref m0), (1, .int (nI v))]) E.1.1 E.1.2.1 dX4_attackersOf_1 rfl hl (by decide) rfl (fun ls hl => ?_)
  refine q_ic E 0 dX4_attackersOf_2 (by decide) ?_
  refine lv_istore_n (lv' := [(3, .int (nI 0)), (2, .int (nI 0)), (0, .ref m0), (1, .int (nI v))]) E.1.1 E.1.2.1 dX4_attackersOf_3 rfl hl (by decide) rfl (fun ls hl => ?_)
  have lp4 : ∀ (fu : Nat) (k : Nat), cnt - k < fu → (k ≤ cnt) → ∀ (y4_2 : Nat), y4_2 = mks (fun f => wkb wt mk pr tol f v) k → ∀ (H : Heap) (locs : List Loc), qH g A s [(m0, .inr (4, [.int (nI th), .int (nI cnt), .ref mw, .int (nI pr), .ref ma, .int (nI tol), .int (nI kn.toNat), .ref mc, .ref mf, .ref mr, .ref mt, .ref mar, .ref mbe, .ref mou])), (mw, .inl (gI g, 12, .inl (aN wt))), (ma, .inl (gI g, 12, .inl (aN mk)))] H locs → ∀ ls : Array Slot, lv_has ls 4 [(0, .ref m0), (1, .int (nI v)), (2, .int (nI y4_2)), (3, .int (nI k))] → W p l e { frames := 2, cells := 0, slots := 0, locals := 43 } s m args below meth c H locs 0 0 Q (F0 m 4 ls []) := by
    intro fu
    induction fu with
    | zero => intro k hfu; exact absurd hfu (Nat.not_lt_zero _)
    | succ fu ih4 =>
      intro k hfu hk y4_2 ey4_2 H locs h ls hl
      subst ey4_2
      refine lv_iload_n E.1.1 E.1.2.1 dX4_attackersOf_4 rfl (lv_at hl 3 rfl) ?_
      refine lv_aload_n E.1.1 E.1.2.1 dX4_attackersOf_5 rfl (lv_at hl 0 rfl) ?_
      refine q_get E h (C := RX4) (T := TX4) (N := 14) 4 rfl c_2 0 rfl 1 (by decide) c_1 (v := .int (nI cnt)) rfl dX4_attackersOf_6 ?_
      refine q_ge E (tgt := 33) (by first | omega | assumption | exact srO_in | exact tgO_out hpc | exact srO_lt _ _ | exact tgO_lt _ _ | exact srO_lt _ | exact tgO_lt _ | exact pr12 hcnt hpc) (by first | omega | assumption | exact srO_in | exact tgO_out hpc | exact srO_lt _ _ | exact tgO_lt _ _ | exact srO_lt _ | exact tgO_lt _ | exact pr12 hcnt hpc) dX4_attackersOf_9 (by decide) (fun hb9 => ?_) (fun hb9 => ?_)
      · skip
        refine lv_iload_n E.1.1 E.1.2.1 dX4_attackersOf_33 rfl (lv_at hl 2 rfl) ?_
        -- world at the end: [(m0, .inr (4, [.int (nI th), .int (nI cnt), .ref mw, .int (nI pr), .ref ma, .int (nI tol), .int (nI kn.toNat), .ref mc, .ref mf, .ref mr, .ref mt, .ref mar, .ref mbe, .ref mou])), (mw, .inl (gI g, 12, .inl (aN wt))), (ma, .inl (gI g, 12, .inl (aN mk)))]
        exact hend _ _ _ _ _ () h dX4_attackersOf_34 (by rw [show k = cnt by omega]; exact congrArg nI (srO_cnt hcnt hpc v))
      · skip
        refine lv_aload_n E.1.1 E.1.2.1 dX4_attackersOf_12 rfl (lv_at hl 0 rfl) ?_
        refine lv_iload_n E.1.1 E.1.2.1 dX4_attackersOf_13 rfl (lv_at hl 3 rfl) ?_
        refine lv_iload_n E.1.1 E.1.2.1 dX4_attackersOf_14 rfl (lv_at hl 1 rfl) ?_
        refine q_ki (w2 := fun _ => [(m0, .inr (4, [.int (nI th), .int (nI cnt), .ref mw, .int (nI pr), .ref ma, .int (nI tol), .int (nI kn.toNat), .ref mc, .ref mf, .ref mr, .ref mt, .ref mar, .ref mbe, .ref mou])), (mw, .inl (gI g, 12, .inl (aN wt))), (ma, .inl (gI g, 12, .inl (aN mk)))]) (wr := []) E h [0, 1, 2] [] [0, 1, 2] (va_runV (As := [.int (nI k), .int (nI v)]) (rest := []) E.1 (k_X4_works l g m0 mw ma mc mf mr mt mar mbe mou th cnt pr tol kn wt mk k v (by first | omega | assumption | exact srO_in | exact tgO_out hpc | exact srO_lt _ _ | exact tgO_lt _ _ | exact srO_lt _ | exact tgO_lt _ | exact pr12 hcnt hpc) (by first | omega | assumption | exact srO_in | exact tgO_out hpc | exact srO_lt _ _ | exact tgO_lt _ _ | exact srO_lt _ | exact tgO_lt _ | exact pr12 hcnt hpc) (by first | omega | assumption | exact srO_in | exact tgO_out hpc | exact srO_lt _ _ | exact tgO_lt _ _ | exact srO_lt _ | exact tgO_lt _ | exact pr12 hcnt hpc) (by first | omega | assumption | exact srO_in | exact tgO_out hpc | exact srO_lt _ _ | exact tgO_lt _ _ | exact srO_lt _ | exact tgO_lt _ | exact pr12 hcnt hpc) (by first | omega | assumption | exact srO_in | exact tgO_out hpc | exact srO_lt _ _ | exact tgO_lt _ _ | exact srO_lt _ | exact tgO_lt _ | exact pr12 hcnt hpc) (by first | omega | assumption | exact srO_in | exact tgO_out hpc | exact srO_lt _ _ | exact tgO_lt _ _ | exact srO_lt _ | exact tgO_lt _ | exact pr12 hcnt hpc) _) c_3 (q_preV E h [0, 1, 2] rfl rfl (C := RX4) (T := TX4) (N := 14) 4 rfl 0 rfl) rfl rfl hl.1 rfl (lv_room (Nat.le_of_ble_eq_true rfl)) dX4_attackersOf_15 ⟨Nat.zero_le _, Nat.zero_le _⟩) rfl rfl rfl (by decide) rfl (fun _ => rfl) (fun r4 _ H locs hr4 h => ?_)
        subst hr4
        refine q_beq E (tgt := 27) dX4_attackersOf_18 (by decide) (fun hb18 => ?_) (fun hb18 => ?_)
        · skip
          refine q_inc E (lv' := [(3, .int (nI (k + 1))), (0, .ref m0), (1, .int (nI v)), (2, .int (nI (mks (fun f => wkb wt mk pr tol f v) k)))]) hl dX4_attackersOf_27 (k := 3) rfl (by decide) rfl (fun ls hl => ?_)
          refine q_go E (tgt := 4) dX4_attackersOf_30 (by decide) ?_
          exact ih4  (k + 1) (by omega) (by omega) _ (by first | exact (mks_f (p := (fun f => wkb wt mk pr tol f v)) hb18).symm | exact (mks_t (p := (fun f => wkb wt mk pr tol f v)) hb18).symm) _ _ h _ (lv_sub hl [1, 2, 3, 0] rfl)
        · skip
          refine lv_iload_n E.1.1 E.1.2.1 dX4_attackersOf_21 rfl (lv_at hl 2 rfl) ?_
          refine q_ic E 1 dX4_attackersOf_22 (by decide) ?_
          refine lv_iload_n E.1.1 E.1.2.1 dX4_attackersOf_23 rfl (lv_at hl 3 rfl) ?_
          refine q_shl1 E (by first | omega | assumption | exact srO_in | exact tgO_out hpc | exact srO_lt _ _ | exact tgO_lt _ _ | exact srO_lt _ | exact tgO_lt _ | exact pr12 hcnt hpc) dX4_attackersOf_24 ?_
          refine q_or E dX4_attackersOf_25 ?_
          refine lv_istore_n (lv' := [(2, .int (nI ((mks (fun f => wkb wt mk pr tol f v) k) ||| (2 ^ k)))), (0, .ref m0), (1, .int (nI v)), (3, .int (nI k))]) E.1.1 E.1.2.1 dX4_attackersOf_26 rfl hl (by decide) rfl (fun ls hl => ?_)
          refine q_inc E (lv' := [(3, .int (nI (k + 1))), (2, .int (nI ((mks (fun f => wkb wt mk pr tol f v) k) ||| (2 ^ k)))), (0, .ref m0), (1, .int (nI v))]) hl dX4_attackersOf_27 (k := 3) rfl (by decide) rfl (fun ls hl => ?_)
          refine q_go E (tgt := 4) dX4_attackersOf_30 (by decide) ?_
          exact ih4  (k + 1) (by omega) (by omega) _ (by first | exact (mks_f (p := (fun f => wkb wt mk pr tol f v)) hb18).symm | exact (mks_t (p := (fun f => wkb wt mk pr tol f v)) hb18).symm) _ _ h _ (lv_sub hl [2, 3, 1, 0] rfl)
  exact lp4 ((cnt - 0) + 1) 0 (Nat.lt_succ_self _) (by omega) _ rfl _ _ h _ (lv_sub hl [2, 3, 1, 0] rfl)

set_option maxHeartbeats 4000000 in
set_option maxRecDepth 100000 in
theorem k_X4_attackedBy (l : Launch) (g : GK) (m0 mw ma mc mf mr mt mar mbe mou : Nat) (th cnt pr tol : Nat) (kn : Bool) (wt mk : Nat → Nat) (v : Nat) (hcnt : cnt ≤ 12) (hpc : pr < 2 ^ cnt) (hmk : ∀ k, mk k < 4096) (hwt : ∀ k, wt k < 65536) (htol : tol < 65536) (hv : v < 12) : CI (S := Unit) l g yX4_attackedBy wsX4_attackedBy { frames := 2, cells := 0, slots := 0, locals := 43 } [.ref m0, .int (nI v)] [(m0, .inr (4, [.int (nI th), .int (nI cnt), .ref mw, .int (nI pr), .ref ma, .int (nI tol), .int (nI kn.toNat), .ref mc, .ref mf, .ref mr, .ref mt, .ref mar, .ref mbe, .ref mou])), (mw, .inl (gI g, 12, .inl (aN wt))), (ma, .inl (gI g, 12, .inl (aN mk)))] (fun r _ => r = nI (tgO (wkb wt mk pr tol) v)) (fun _ => [(m0, .inr (4, [.int (nI th), .int (nI cnt), .ref mw, .int (nI pr), .ref ma, .int (nI tol), .int (nI kn.toNat), .ref mc, .ref mf, .ref mr, .ref mt, .ref mar, .ref mbe, .ref mou])), (mw, .inl (gI g, 12, .inl (aN wt))), (ma, .inl (gI g, 12, .inl (aN mk)))]) := by
  refine q_ofI (own := RX4) (by decide) rfl rfl (Nat.le_of_ble_eq_true rfl) n_int ?_
  intro p e s m below meth c A Q args E hmn h hend ls hl
  have hl : lv_has ls 4 [(0, .ref m0), (1, .int (nI v))] := hl
  have c_1 := E.1.2.2.2.2 (.fieldLink RX4 47 "DebateSolverModel" "many" "I") (by decide +kernel)
  have c_2 := (by decide +kernel : ∀ w ∈ wsX40, w ∈ wsX4_attackedBy)
  have c_3 := cwV (R := { frames := 2, cells := 0, slots := 0, locals := 43 }) (rm := { frames := 1, cells := 0, slots := 0, locals := 21 }) (mc := 0) (ms := 0) 2 E.1.2.2.2.2 gX4_attackedBy_X4_works rfl rfl rfl (by decide +kernel) ⟨Nat.le_of_ble_eq_true rfl, Nat.le_of_ble_eq_true rfl⟩
  have hpr := pr12 hcnt hpc
  have hp12 := cnt_p12 hcnt
  refine q_ic E 0 dX4_attackedBy_0 (by decide) ?_
  refine lv_istore_n (lv' := [(2, .int (nI 0)), (0, .ref m0), (1, .int (nI v))]) E.1.1 E.1.2.1 dX4_attackedBy_1 rfl hl (by decide) rfl (fun ls hl => ?_)
  refine q_ic E 0 dX4_attackedBy_2 (by decide) ?_
  refine lv_istore_n (lv' := [(3, .int (nI 0)), (2, .int (nI 0)), (0, .ref m0), (1, .int (nI v))]) E.1.1 E.1.2.1 dX4_attackedBy_3 rfl hl (by decide) rfl (fun ls hl => ?_)
  have lp4 : ∀ (fu : Nat) (k : Nat), cnt - k < fu → (k ≤ cnt) → ∀ (y4_2 : Nat), y4_2 = mks (fun t => wkb wt mk pr tol v t) k → ∀ (H : Heap) (locs : List Loc), qH g A s [(m0, .inr (4, [.int (nI th), .int (nI cnt), .ref mw, .int (nI pr), .ref ma, .int (nI tol), .int (nI kn.toNat), .ref mc, .ref mf, .ref mr, .ref mt, .ref mar, .ref mbe, .ref mou])), (mw, .inl (gI g, 12, .inl (aN wt))), (ma, .inl (gI g, 12, .inl (aN mk)))] H locs → ∀ ls : Array Slot, lv_has ls 4 [(0, .ref m0), (1, .int (nI v)), (2, .int (nI y4_2)), (3, .int (nI k))] → W p l e { frames := 2, cells := 0, slots := 0, locals := 43 } s m args below meth c H locs 0 0 Q (F0 m 4 ls []) := by
    intro fu
    induction fu with
    | zero => intro k hfu; exact absurd hfu (Nat.not_lt_zero _)
    | succ fu ih4 =>
      intro k hfu hk y4_2 ey4_2 H locs h ls hl
      subst ey4_2
      refine lv_iload_n E.1.1 E.1.2.1 dX4_attackedBy_4 rfl (lv_at hl 3 rfl) ?_
      refine lv_aload_n E.1.1 E.1.2.1 dX4_attackedBy_5 rfl (lv_at hl 0 rfl) ?_
      refine q_get E h (C := RX4) (T := TX4) (N := 14) 4 rfl c_2 0 rfl 1 (by decide) c_1 (v := .int (nI cnt)) rfl dX4_attackedBy_6 ?_
      refine q_ge E (tgt := 33) (by first | omega | assumption | exact srO_in | exact tgO_out hpc | exact srO_lt _ _ | exact tgO_lt _ _ | exact srO_lt _ | exact tgO_lt _ | exact pr12 hcnt hpc) (by first | omega | assumption | exact srO_in | exact tgO_out hpc | exact srO_lt _ _ | exact tgO_lt _ _ | exact srO_lt _ | exact tgO_lt _ | exact pr12 hcnt hpc) dX4_attackedBy_9 (by decide) (fun hb9 => ?_) (fun hb9 => ?_)
      · skip
        refine lv_iload_n E.1.1 E.1.2.1 dX4_attackedBy_33 rfl (lv_at hl 2 rfl) ?_
        -- world at the end: [(m0, .inr (4, [.int (nI th), .int (nI cnt), .ref mw, .int (nI pr), .ref ma, .int (nI tol), .int (nI kn.toNat), .ref mc, .ref mf, .ref mr, .ref mt, .ref mar, .ref mbe, .ref mou])), (mw, .inl (gI g, 12, .inl (aN wt))), (ma, .inl (gI g, 12, .inl (aN mk)))]
        exact hend _ _ _ _ _ () h dX4_attackedBy_34 (by rw [show k = cnt by omega]; exact congrArg nI (tgO_cnt hcnt hpc v))
      · skip
        refine lv_aload_n E.1.1 E.1.2.1 dX4_attackedBy_12 rfl (lv_at hl 0 rfl) ?_
        refine lv_iload_n E.1.1 E.1.2.1 dX4_attackedBy_13 rfl (lv_at hl 1 rfl) ?_
        refine lv_iload_n E.1.1 E.1.2.1 dX4_attackedBy_14 rfl (lv_at hl 3 rfl) ?_
        refine q_ki (w2 := fun _ => [(m0, .inr (4, [.int (nI th), .int (nI cnt), .ref mw, .int (nI pr), .ref ma, .int (nI tol), .int (nI kn.toNat), .ref mc, .ref mf, .ref mr, .ref mt, .ref mar, .ref mbe, .ref mou])), (mw, .inl (gI g, 12, .inl (aN wt))), (ma, .inl (gI g, 12, .inl (aN mk)))]) (wr := []) E h [0, 1, 2] [] [0, 1, 2] (va_runV (As := [.int (nI v), .int (nI k)]) (rest := []) E.1 (k_X4_works l g m0 mw ma mc mf mr mt mar mbe mou th cnt pr tol kn wt mk v k (by first | omega | assumption | exact srO_in | exact tgO_out hpc | exact srO_lt _ _ | exact tgO_lt _ _ | exact srO_lt _ | exact tgO_lt _ | exact pr12 hcnt hpc) (by first | omega | assumption | exact srO_in | exact tgO_out hpc | exact srO_lt _ _ | exact tgO_lt _ _ | exact srO_lt _ | exact tgO_lt _ | exact pr12 hcnt hpc) (by first | omega | assumption | exact srO_in | exact tgO_out hpc | exact srO_lt _ _ | exact tgO_lt _ _ | exact srO_lt _ | exact tgO_lt _ | exact pr12 hcnt hpc) (by first | omega | assumption | exact srO_in | exact tgO_out hpc | exact srO_lt _ _ | exact tgO_lt _ _ | exact srO_lt _ | exact tgO_lt _ | exact pr12 hcnt hpc) (by first | omega | assumption | exact srO_in | exact tgO_out hpc | exact srO_lt _ _ | exact tgO_lt _ _ | exact srO_lt _ | exact tgO_lt _ | exact pr12 hcnt hpc) (by first | omega | assumption | exact srO_in | exact tgO_out hpc | exact srO_lt _ _ | exact tgO_lt _ _ | exact srO_lt _ | exact tgO_lt _ | exact pr12 hcnt hpc) _) c_3 (q_preV E h [0, 1, 2] rfl rfl (C := RX4) (T := TX4) (N := 14) 4 rfl 0 rfl) rfl rfl hl.1 rfl (lv_room (Nat.le_of_ble_eq_true rfl)) dX4_attackedBy_15 ⟨Nat.zero_le _, Nat.zero_le _⟩) rfl rfl rfl (by decide) rfl (fun _ => rfl) (fun r4 _ H locs hr4 h => ?_)
        subst hr4
        refine q_beq E (tgt := 27) dX4_attackedBy_18 (by decide) (fun hb18 => ?_) (fun hb18 => ?_)
        · skip
          refine q_inc E (lv' := [(3, .int (nI (k + 1))), (0, .ref m0), (1, .int (nI v)), (2, .int (nI (mks (fun t => wkb wt mk pr tol v t) k)))]) hl dX4_attackedBy_27 (k := 3) rfl (by decide) rfl (fun ls hl => ?_)
          refine q_go E (tgt := 4) dX4_attackedBy_30 (by decide) ?_
          exact ih4  (k + 1) (by omega) (by omega) _ (by first | exact (mks_f (p := (fun t => wkb wt mk pr tol v t)) hb18).symm | exact (mks_t (p := (fun t => wkb wt mk pr tol v t)) hb18).symm) _ _ h _ (lv_sub hl [1, 2, 3, 0] rfl)
        · skip
          refine lv_iload_n E.1.1 E.1.2.1 dX4_attackedBy_21 rfl (lv_at hl 2 rfl) ?_
          refine q_ic E 1 dX4_attackedBy_22 (by decide) ?_
          refine lv_iload_n E.1.1 E.1.2.1 dX4_attackedBy_23 rfl (lv_at hl 3 rfl) ?_
          refine q_shl1 E (by first | omega | assumption | exact srO_in | exact tgO_out hpc | exact srO_lt _ _ | exact tgO_lt _ _ | exact srO_lt _ | exact tgO_lt _ | exact pr12 hcnt hpc) dX4_attackedBy_24 ?_
          refine q_or E dX4_attackedBy_25 ?_
          refine lv_istore_n (lv' := [(2, .int (nI ((mks (fun t => wkb wt mk pr tol v t) k) ||| (2 ^ k)))), (0, .ref m0), (1, .int (nI v)), (3, .int (nI k))]) E.1.1 E.1.2.1 dX4_attackedBy_26 rfl hl (by decide) rfl (fun ls hl => ?_)
          refine q_inc E (lv' := [(3, .int (nI (k + 1))), (2, .int (nI ((mks (fun t => wkb wt mk pr tol v t) k) ||| (2 ^ k)))), (0, .ref m0), (1, .int (nI v))]) hl dX4_attackedBy_27 (k := 3) rfl (by decide) rfl (fun ls hl => ?_)
          refine q_go E (tgt := 4) dX4_attackedBy_30 (by decide) ?_
          exact ih4  (k + 1) (by omega) (by omega) _ (by first | exact (mks_f (p := (fun t => wkb wt mk pr tol v t)) hb18).symm | exact (mks_t (p := (fun t => wkb wt mk pr tol v t)) hb18).symm) _ _ h _ (lv_sub hl [2, 3, 1, 0] rfl)
  exact lp4 ((cnt - 0) + 1) 0 (Nat.lt_succ_self _) (by omega) _ rfl _ _ h _ (lv_sub hl [2, 3, 1, 0] rfl)

set_option maxHeartbeats 4000000 in
set_option maxRecDepth 100000 in
theorem k_X4_attackers (l : Launch) (g : GK) (m0 mw ma mc mf mr mt mar mbe mou : Nat) (th cnt pr tol : Nat) (kn : Bool) (wt mk : Nat → Nat) (v : Nat) (hcnt : cnt ≤ 12) (hpc : pr < 2 ^ cnt) (hmk : ∀ k, mk k < 4096) (hwt : ∀ k, wt k < 65536) (htol : tol < 65536) (hv : v < cnt) : CI (S := Unit) l g yX4_attackers wsX4_attackers { frames := 3, cells := 0, slots := 0, locals := 66 } [.ref m0, .int (nI v)] [(m0, .inr (4, [.int (nI th), .int (nI cnt), .ref mw, .int (nI pr), .ref ma, .int (nI tol), .int (nI kn.toNat), .ref mc, .ref mf, .ref mr, .ref mt, .ref mar, .ref mbe, .ref mou])), (mw, .inl (gI g, 12, .inl (aN wt))), (ma, .inl (gI g, 12, .inl (aN mk)))] (fun r _ => r = nI (srO (wkb wt mk pr tol) v)) (fun _ => [(m0, .inr (4, [.int (nI 0), .int (nI cnt), .ref mw, .int (nI pr), .ref ma, .int (nI tol), .int (nI kn.toNat), .ref mc, .ref mf, .ref mr, .ref mt, .ref mar, .ref mbe, .ref mou])), (mw, .inl (gI g, 12, .inl (aN wt))), (ma, .inl (gI g, 12, .inl (aN mk)))]) := by
  refine q_ofI (own := RX4) (by decide) rfl rfl (Nat.le_of_ble_eq_true rfl) n_int ?_
  intro p e s m below meth c A Q args E hmn h hend ls hl
  have hl : lv_has ls 2 [(0, .ref m0), (1, .int (nI v))] := hl
  have c_1 := E.1.2.2.2.2 (.fieldLink RX4 44 "DebateSolverModel" "thrown" "I") (by decide +kernel)
  have c_2 := (by decide +kernel : ∀ w ∈ wsX40, w ∈ wsX4_attackers)
  have c_3 := cwV (R := { frames := 3, cells := 0, slots := 0, locals := 66 }) (rm := { frames := 0, cells := 0, slots := 0, locals := 0 }) (mc := 0) (ms := 0) 1 E.1.2.2.2.2 gX4_attackers_X4_isArgument rfl rfl rfl (by decide +kernel) ⟨Nat.le_of_ble_eq_true rfl, Nat.le_of_ble_eq_true rfl⟩
  have c_5 := cwV (R := { frames := 3, cells := 0, slots := 0, locals := 66 }) (rm := { frames := 2, cells := 0, slots := 0, locals := 43 }) (mc := 0) (ms := 0) 1 E.1.2.2.2.2 gX4_attackers_X4_attackersOf rfl rfl rfl (by decide +kernel) ⟨Nat.le_of_ble_eq_true rfl, Nat.le_of_ble_eq_true rfl⟩
  refine lv_aload_n E.1.1 E.1.2.1 dX4_attackers_0 rfl (lv_at hl 0 rfl) ?_
  refine q_ic E 0 dX4_attackers_1 (by decide) ?_
  refine q_put E h (C := RX4) (T := TX4) (N := 14) 4 rfl tyX4 tyX4_ok nmX4 c_2 0 rfl 0 (by decide) c_1 rfl (v := .int (nI 0)) (ty := .int) (by decide +kernel) rfl rfl (Nat.le_of_ble_eq_true rfl) dX4_attackers_2 (w2 := [(m0, .inr (4, [.int (nI 0), .int (nI cnt), .ref mw, .int (nI pr), .ref ma, .int (nI tol), .int (nI kn.toNat), .ref mc, .ref mf, .ref mr, .ref mt, .ref mar, .ref mbe, .ref mou])), (mw, .inl (gI g, 12, .inl (aN wt))), (ma, .inl (gI g, 12, .inl (aN mk)))]) rfl (fun H locs h => ?_)
  refine lv_aload_n E.1.1 E.1.2.1 dX4_attackers_5 rfl (lv_at hl 0 rfl) ?_
  refine lv_iload_n E.1.1 E.1.2.1 dX4_attackers_6 rfl (lv_at hl 1 rfl) ?_
  refine q_ki (w2 := fun _ => [(m0, .inr (4, [.int (nI 0), .int (nI cnt), .ref mw, .int (nI pr), .ref ma, .int (nI tol), .int (nI kn.toNat), .ref mc, .ref mf, .ref mr, .ref mt, .ref mar, .ref mbe, .ref mou])), (mw, .inl (gI g, 12, .inl (aN wt))), (ma, .inl (gI g, 12, .inl (aN mk)))]) (wr := [(mw, .inl (gI g, 12, .inl (aN wt))), (ma, .inl (gI g, 12, .inl (aN mk)))]) E h [0] [1, 2] [2, 0, 1] (va_runV (As := [.int (nI v)]) (rest := []) E.1 (k_X4_isArgument l g m0 mw ma mc mf mr mt mar mbe mou 0 cnt pr tol kn v (by first | omega | assumption | exact srO_in | exact tgO_out hpc | exact srO_lt _ _ | exact tgO_lt _ _ | exact srO_lt _ | exact tgO_lt _ | exact pr12 hcnt hpc) (by first | omega | assumption | exact srO_in | exact tgO_out hpc | exact srO_lt _ _ | exact tgO_lt _ _ | exact srO_lt _ | exact tgO_lt _ | exact pr12 hcnt hpc) _) c_3 (q_preV E h [0] rfl rfl (C := RX4) (T := TX4) (N := 14) 4 rfl 0 rfl) rfl rfl hl.1 rfl (lv_room (Nat.le_of_ble_eq_true rfl)) dX4_attackers_7 ⟨Nat.zero_le _, Nat.zero_le _⟩) rfl rfl rfl (by decide) rfl (fun _ => rfl) (fun r4 _ H locs hr4 h => ?_)
  subst hr4
  refine q_beq E (tgt := 21) dX4_attackers_10 (by decide) (fun hb10 => ?_) (fun hb10 => ?_)
  · exact absurd hb10 (by decide)
  · skip
    refine lv_aload_n E.1.1 E.1.2.1 dX4_attackers_13 rfl (lv_at hl 0 rfl) ?_
    refine lv_iload_n E.1.1 E.1.2.1 dX4_attackers_14 rfl (lv_at hl 1 rfl) ?_
    refine q_ki (w2 := fun _ => [(m0, .inr (4, [.int (nI 0), .int (nI cnt), .ref mw, .int (nI pr), .ref ma, .int (nI tol), .int (nI kn.toNat), .ref mc, .ref mf, .ref mr, .ref mt, .ref mar, .ref mbe, .ref mou])), (mw, .inl (gI g, 12, .inl (aN wt))), (ma, .inl (gI g, 12, .inl (aN mk)))]) (wr := []) E h [0, 1, 2] [] [0, 1, 2] (va_runV (As := [.int (nI v)]) (rest := []) E.1 (k_X4_attackersOf l g m0 mw ma mc mf mr mt mar mbe mou 0 cnt pr tol kn wt mk v (by first | omega | assumption | exact srO_in | exact tgO_out hpc | exact srO_lt _ _ | exact tgO_lt _ _ | exact srO_lt _ | exact tgO_lt _ | exact pr12 hcnt hpc) (by first | omega | assumption | exact srO_in | exact tgO_out hpc | exact srO_lt _ _ | exact tgO_lt _ _ | exact srO_lt _ | exact tgO_lt _ | exact pr12 hcnt hpc) (by first | omega | assumption | exact srO_in | exact tgO_out hpc | exact srO_lt _ _ | exact tgO_lt _ _ | exact srO_lt _ | exact tgO_lt _ | exact pr12 hcnt hpc) (by first | omega | assumption | exact srO_in | exact tgO_out hpc | exact srO_lt _ _ | exact tgO_lt _ _ | exact srO_lt _ | exact tgO_lt _ | exact pr12 hcnt hpc) (by first | omega | assumption | exact srO_in | exact tgO_out hpc | exact srO_lt _ _ | exact tgO_lt _ _ | exact srO_lt _ | exact tgO_lt _ | exact pr12 hcnt hpc) (by first | omega | assumption | exact srO_in | exact tgO_out hpc | exact srO_lt _ _ | exact tgO_lt _ _ | exact srO_lt _ | exact tgO_lt _ | exact pr12 hcnt hpc) _) c_5 (q_preV E h [0, 1, 2] rfl rfl (C := RX4) (T := TX4) (N := 14) 4 rfl 0 rfl) rfl rfl hl.1 rfl (lv_room (Nat.le_of_ble_eq_true rfl)) dX4_attackers_15 ⟨Nat.zero_le _, Nat.zero_le _⟩) rfl rfl rfl (by decide) rfl (fun _ => rfl) (fun r6 _ H locs hr6 h => ?_)
    subst hr6
    refine q_go E (tgt := 26) dX4_attackers_18 (by decide) ?_
    -- world at the end: [(m0, .inr (4, [.int (nI 0), .int (nI cnt), .ref mw, .int (nI pr), .ref ma, .int (nI tol), .int (nI kn.toNat), .ref mc, .ref mf, .ref mr, .ref mt, .ref mar, .ref mbe, .ref mou])), (mw, .inl (gI g, 12, .inl (aN wt))), (ma, .inl (gI g, 12, .inl (aN mk)))]
    exact hend _ _ _ _ _ () h dX4_attackers_26 rfl

set_option maxHeartbeats 4000000 in
set_option maxRecDepth 100000 in
theorem k_X4_attackers_bad (l : Launch) (g : GK) (m0 mw ma mc mf mr mt mar mbe mou : Nat) (th cnt pr tol : Nat) (kn : Bool) (z : Int32) (hz : z < 0 ∨ nI cnt ≤ z) : CI (S := Unit) l g yX4_attackers wsX4_attackers { frames := 1, cells := 0, slots := 0, locals := 21 } [.ref m0, .int z] [(m0, .inr (4, [.int (nI th), .int (nI cnt), .ref mw, .int (nI pr), .ref ma, .int (nI tol), .int (nI kn.toNat), .ref mc, .ref mf, .ref mr, .ref mt, .ref mar, .ref mbe, .ref mou]))] (fun r _ => r = nI 0) (fun _ => [(m0, .inr (4, [.int (nI 1), .int (nI cnt), .ref mw, .int (nI pr), .ref ma, .int (nI tol), .int (nI kn.toNat), .ref mc, .ref mf, .ref mr, .ref mt, .ref mar, .ref mbe, .ref mou]))]) := by
  refine q_ofI (own := RX4) (by decide) rfl rfl (Nat.le_of_ble_eq_true rfl) n_int ?_
  intro p e s m below meth c A Q args E hmn h hend ls hl
  have hl : lv_has ls 2 [(0, .ref m0), (1, .int z)] := hl
  have c_1 := E.1.2.2.2.2 (.fieldLink RX4 44 "DebateSolverModel" "thrown" "I") (by decide +kernel)
  have c_2 := (by decide +kernel : ∀ w ∈ wsX40, w ∈ wsX4_attackers)
  have c_3 := cwV (R := { frames := 1, cells := 0, slots := 0, locals := 21 }) (rm := { frames := 0, cells := 0, slots := 0, locals := 0 }) (mc := 0) (ms := 0) 1 E.1.2.2.2.2 gX4_attackers_X4_isArgument rfl rfl rfl (by decide +kernel) ⟨Nat.le_of_ble_eq_true rfl, Nat.le_of_ble_eq_true rfl⟩
  have c_5 := cwV (R := { frames := 1, cells := 0, slots := 0, locals := 21 }) (rm := { frames := 0, cells := 0, slots := 0, locals := 0 }) (mc := 0) (ms := 0) 1 E.1.2.2.2.2 gX4_attackers_X4_fail rfl rfl rfl (by decide +kernel) ⟨Nat.le_of_ble_eq_true rfl, Nat.le_of_ble_eq_true rfl⟩
  refine lv_aload_n E.1.1 E.1.2.1 dX4_attackers_0 rfl (lv_at hl 0 rfl) ?_
  refine q_ic E 0 dX4_attackers_1 (by decide) ?_
  refine q_put E h (C := RX4) (T := TX4) (N := 14) 4 rfl tyX4 tyX4_ok nmX4 c_2 0 rfl 0 (by decide) c_1 rfl (v := .int (nI 0)) (ty := .int) (by decide +kernel) rfl rfl (Nat.le_of_ble_eq_true rfl) dX4_attackers_2 (w2 := [(m0, .inr (4, [.int (nI 0), .int (nI cnt), .ref mw, .int (nI pr), .ref ma, .int (nI tol), .int (nI kn.toNat), .ref mc, .ref mf, .ref mr, .ref mt, .ref mar, .ref mbe, .ref mou]))]) rfl (fun H locs h => ?_)
  refine lv_aload_n E.1.1 E.1.2.1 dX4_attackers_5 rfl (lv_at hl 0 rfl) ?_
  refine lv_iload_n E.1.1 E.1.2.1 dX4_attackers_6 rfl (lv_at hl 1 rfl) ?_
  refine q_ki (w2 := fun _ => [(m0, .inr (4, [.int (nI 0), .int (nI cnt), .ref mw, .int (nI pr), .ref ma, .int (nI tol), .int (nI kn.toNat), .ref mc, .ref mf, .ref mr, .ref mt, .ref mar, .ref mbe, .ref mou]))]) (wr := []) E h [0] [] [0] (va_runV (As := [.int z]) (rest := []) E.1 (k_X4_isArgument_bad l g m0 mw ma mc mf mr mt mar mbe mou 0 cnt pr tol kn z (by exact hz) _) c_3 (q_preV E h [0] rfl rfl (C := RX4) (T := TX4) (N := 14) 4 rfl 0 rfl) rfl rfl hl.1 rfl (lv_room (Nat.le_of_ble_eq_true rfl)) dX4_attackers_7 ⟨Nat.zero_le _, Nat.zero_le _⟩) rfl rfl rfl (by decide) rfl (fun _ => rfl) (fun r4 _ H locs hr4 h => ?_)
  subst hr4
  refine q_beq E (tgt := 21) dX4_attackers_10 (by decide) (fun hb10 => ?_) (fun hb10 => ?_)
  · skip
    refine lv_aload_n E.1.1 E.1.2.1 dX4_attackers_21 rfl (lv_at hl 0 rfl) ?_
    refine q_ic E 1 dX4_attackers_22 (by decide) ?_
    refine q_ki (w2 := fun _ => [(m0, .inr (4, [.int (nI 1), .int (nI cnt), .ref mw, .int (nI pr), .ref ma, .int (nI tol), .int (nI kn.toNat), .ref mc, .ref mf, .ref mr, .ref mt, .ref mar, .ref mbe, .ref mou]))]) (wr := []) E h [0] [] [0] (va_runV (As := [.int (nI 1)]) (rest := []) E.1 (k_X4_fail l g m0 mw ma mc mf mr mt mar mbe mou 0 cnt pr tol kn 1  _) c_5 (q_preV E h [0] rfl rfl (C := RX4) (T := TX4) (N := 14) 4 rfl 0 rfl) rfl rfl hl.1 rfl (lv_room (Nat.le_of_ble_eq_true rfl)) dX4_attackers_23 ⟨Nat.zero_le _, Nat.zero_le _⟩) rfl rfl rfl (by decide) rfl (fun _ => rfl) (fun r6 _ H locs hr6 h => ?_)
    subst hr6
    -- world at the end: [(m0, .inr (4, [.int (nI 1), .int (nI cnt), .ref mw, .int (nI pr), .ref ma, .int (nI tol), .int (nI kn.toNat), .ref mc, .ref mf, .ref mr, .ref mt, .ref mar, .ref mbe, .ref mou]))]
    exact hend _ _ _ _ _ () h dX4_attackers_26 rfl
  · exact absurd hb10 (by decide)

set_option maxHeartbeats 4000000 in
set_option maxRecDepth 100000 in
theorem k_X4_attacked (l : Launch) (g : GK) (m0 mw ma mc mf mr mt mar mbe mou : Nat) (th cnt pr tol : Nat) (kn : Bool) (wt mk : Nat → Nat) (v : Nat) (hcnt : cnt ≤ 12) (hpc : pr < 2 ^ cnt) (hmk : ∀ k, mk k < 4096) (hwt : ∀ k, wt k < 65536) (htol : tol < 65536) (hv : v < cnt) : CI (S := Unit) l g yX4_attacked wsX4_attacked { frames := 3, cells := 0, slots := 0, locals := 66 } [.ref m0, .int (nI v)] [(m0, .inr (4, [.int (nI th), .int (nI cnt), .ref mw, .int (nI pr), .ref ma, .int (nI tol), .int (nI kn.toNat), .ref mc, .ref mf, .ref mr, .ref mt, .ref mar, .ref mbe, .ref mou])), (mw, .inl (gI g, 12, .inl (aN wt))), (ma, .inl (gI g, 12, .inl (aN mk)))] (fun r _ => r = nI (tgO (wkb wt mk pr tol) v)) (fun _ => [(m0, .inr (4, [.int (nI 0), .int (nI cnt), .ref mw, .int (nI pr), .ref ma, .int (nI tol), .int (nI kn.toNat), .ref mc, .ref mf, .ref mr, .ref mt, .ref mar, .ref mbe, .ref mou])), (mw, .inl (gI g, 12, .inl (aN wt))), (ma, .inl (gI g, 12, .inl (aN mk)))]) := by
  refine q_ofI (own := RX4) (by decide) rfl rfl (Nat.le_of_ble_eq_true rfl) n_int ?_
  intro p e s m below meth c A Q args E hmn h hend ls hl
  have hl : lv_has ls 2 [(0, .ref m0), (1, .int (nI v))] := hl
  have c_1 := E.1.2.2.2.2 (.fieldLink RX4 44 "DebateSolverModel" "thrown" "I") (by decide +kernel)
  have c_2 := (by decide +kernel : ∀ w ∈ wsX40, w ∈ wsX4_attacked)
  have c_3 := cwV (R := { frames := 3, cells := 0, slots := 0, locals := 66 }) (rm := { frames := 0, cells := 0, slots := 0, locals := 0 }) (mc := 0) (ms := 0) 1 E.1.2.2.2.2 gX4_attacked_X4_isArgument rfl rfl rfl (by decide +kernel) ⟨Nat.le_of_ble_eq_true rfl, Nat.le_of_ble_eq_true rfl⟩
  have c_5 := cwV (R := { frames := 3, cells := 0, slots := 0, locals := 66 }) (rm := { frames := 2, cells := 0, slots := 0, locals := 43 }) (mc := 0) (ms := 0) 1 E.1.2.2.2.2 gX4_attacked_X4_attackedBy rfl rfl rfl (by decide +kernel) ⟨Nat.le_of_ble_eq_true rfl, Nat.le_of_ble_eq_true rfl⟩
  refine lv_aload_n E.1.1 E.1.2.1 dX4_attacked_0 rfl (lv_at hl 0 rfl) ?_
  refine q_ic E 0 dX4_attacked_1 (by decide) ?_
  refine q_put E h (C := RX4) (T := TX4) (N := 14) 4 rfl tyX4 tyX4_ok nmX4 c_2 0 rfl 0 (by decide) c_1 rfl (v := .int (nI 0)) (ty := .int) (by decide +kernel) rfl rfl (Nat.le_of_ble_eq_true rfl) dX4_attacked_2 (w2 := [(m0, .inr (4, [.int (nI 0), .int (nI cnt), .ref mw, .int (nI pr), .ref ma, .int (nI tol), .int (nI kn.toNat), .ref mc, .ref mf, .ref mr, .ref mt, .ref mar, .ref mbe, .ref mou])), (mw, .inl (gI g, 12, .inl (aN wt))), (ma, .inl (gI g, 12, .inl (aN mk)))]) rfl (fun H locs h => ?_)
  refine lv_aload_n E.1.1 E.1.2.1 dX4_attacked_5 rfl (lv_at hl 0 rfl) ?_
  refine lv_iload_n E.1.1 E.1.2.1 dX4_attacked_6 rfl (lv_at hl 1 rfl) ?_
  refine q_ki (w2 := fun _ => [(m0, .inr (4, [.int (nI 0), .int (nI cnt), .ref mw, .int (nI pr), .ref ma, .int (nI tol), .int (nI kn.toNat), .ref mc, .ref mf, .ref mr, .ref mt, .ref mar, .ref mbe, .ref mou])), (mw, .inl (gI g, 12, .inl (aN wt))), (ma, .inl (gI g, 12, .inl (aN mk)))]) (wr := [(mw, .inl (gI g, 12, .inl (aN wt))), (ma, .inl (gI g, 12, .inl (aN mk)))]) E h [0] [1, 2] [2, 0, 1] (va_runV (As := [.int (nI v)]) (rest := []) E.1 (k_X4_isArgument l g m0 mw ma mc mf mr mt mar mbe mou 0 cnt pr tol kn v (by first | omega | assumption | exact srO_in | exact tgO_out hpc | exact srO_lt _ _ | exact tgO_lt _ _ | exact srO_lt _ | exact tgO_lt _ | exact pr12 hcnt hpc) (by first | omega | assumption | exact srO_in | exact tgO_out hpc | exact srO_lt _ _ | exact tgO_lt _ _ | exact srO_lt _ | exact tgO_lt _ | exact pr12 hcnt hpc) _) c_3 (q_preV E h [0] rfl rfl (C := RX4) (T := TX4) (N := 14) 4 rfl 0 rfl) rfl rfl hl.1 rfl (lv_room (Nat.le_of_ble_eq_true rfl)) dX4_attacked_7 ⟨Nat.zero_le _, Nat.zero_le _⟩) rfl rfl rfl (by decide) rfl (fun _ => rfl) (fun r4 _ H locs hr4 h => ?_)
  subst hr4
  refine q_beq E (tgt := 21) dX4_attacked_10 (by decide) (fun hb10 => ?_) (fun hb10 => ?_)
  · exact absurd hb10 (by decide)
  · skip
    refine lv_aload_n E.1.1 E.1.2.1 dX4_attacked_13 rfl (lv_at hl 0 rfl) ?_
    refine lv_iload_n E.1.1 E.1.2.1 dX4_attacked_14 rfl (lv_at hl 1 rfl) ?_
    refine q_ki (w2 := fun _ => [(m0, .inr (4, [.int (nI 0), .int (nI cnt), .ref mw, .int (nI pr), .ref ma, .int (nI tol), .int (nI kn.toNat), .ref mc, .ref mf, .ref mr, .ref mt, .ref mar, .ref mbe, .ref mou])), (mw, .inl (gI g, 12, .inl (aN wt))), (ma, .inl (gI g, 12, .inl (aN mk)))]) (wr := []) E h [0, 1, 2] [] [0, 1, 2] (va_runV (As := [.int (nI v)]) (rest := []) E.1 (k_X4_attackedBy l g m0 mw ma mc mf mr mt mar mbe mou 0 cnt pr tol kn wt mk v (by first | omega | assumption | exact srO_in | exact tgO_out hpc | exact srO_lt _ _ | exact tgO_lt _ _ | exact srO_lt _ | exact tgO_lt _ | exact pr12 hcnt hpc) (by first | omega | assumption | exact srO_in | exact tgO_out hpc | exact srO_lt _ _ | exact tgO_lt _ _ | exact srO_lt _ | exact tgO_lt _ | exact pr12 hcnt hpc) (by first | omega | assumption | exact srO_in | exact tgO_out hpc | exact srO_lt _ _ | exact tgO_lt _ _ | exact srO_lt _ | exact tgO_lt _ | exact pr12 hcnt hpc) (by first | omega | assumption | exact srO_in | exact tgO_out hpc | exact srO_lt _ _ | exact tgO_lt _ _ | exact srO_lt _ | exact tgO_lt _ | exact pr12 hcnt hpc) (by first | omega | assumption | exact srO_in | exact tgO_out hpc | exact srO_lt _ _ | exact tgO_lt _ _ | exact srO_lt _ | exact tgO_lt _ | exact pr12 hcnt hpc) (by first | omega | assumption | exact srO_in | exact tgO_out hpc | exact srO_lt _ _ | exact tgO_lt _ _ | exact srO_lt _ | exact tgO_lt _ | exact pr12 hcnt hpc) _) c_5 (q_preV E h [0, 1, 2] rfl rfl (C := RX4) (T := TX4) (N := 14) 4 rfl 0 rfl) rfl rfl hl.1 rfl (lv_room (Nat.le_of_ble_eq_true rfl)) dX4_attacked_15 ⟨Nat.zero_le _, Nat.zero_le _⟩) rfl rfl rfl (by decide) rfl (fun _ => rfl) (fun r6 _ H locs hr6 h => ?_)
    subst hr6
    refine q_go E (tgt := 26) dX4_attacked_18 (by decide) ?_
    -- world at the end: [(m0, .inr (4, [.int (nI 0), .int (nI cnt), .ref mw, .int (nI pr), .ref ma, .int (nI tol), .int (nI kn.toNat), .ref mc, .ref mf, .ref mr, .ref mt, .ref mar, .ref mbe, .ref mou])), (mw, .inl (gI g, 12, .inl (aN wt))), (ma, .inl (gI g, 12, .inl (aN mk)))]
    exact hend _ _ _ _ _ () h dX4_attacked_26 rfl

set_option maxHeartbeats 4000000 in
set_option maxRecDepth 100000 in
theorem k_X4_attacked_bad (l : Launch) (g : GK) (m0 mw ma mc mf mr mt mar mbe mou : Nat) (th cnt pr tol : Nat) (kn : Bool) (z : Int32) (hz : z < 0 ∨ nI cnt ≤ z) : CI (S := Unit) l g yX4_attacked wsX4_attacked { frames := 1, cells := 0, slots := 0, locals := 21 } [.ref m0, .int z] [(m0, .inr (4, [.int (nI th), .int (nI cnt), .ref mw, .int (nI pr), .ref ma, .int (nI tol), .int (nI kn.toNat), .ref mc, .ref mf, .ref mr, .ref mt, .ref mar, .ref mbe, .ref mou]))] (fun r _ => r = nI 0) (fun _ => [(m0, .inr (4, [.int (nI 1), .int (nI cnt), .ref mw, .int (nI pr), .ref ma, .int (nI tol), .int (nI kn.toNat), .ref mc, .ref mf, .ref mr, .ref mt, .ref mar, .ref mbe, .ref mou]))]) := by
  refine q_ofI (own := RX4) (by decide) rfl rfl (Nat.le_of_ble_eq_true rfl) n_int ?_
  intro p e s m below meth c A Q args E hmn h hend ls hl
  have hl : lv_has ls 2 [(0, .ref m0), (1, .int z)] := hl
  have c_1 := E.1.2.2.2.2 (.fieldLink RX4 44 "DebateSolverModel" "thrown" "I") (by decide +kernel)
  have c_2 := (by decide +kernel : ∀ w ∈ wsX40, w ∈ wsX4_attacked)
  have c_3 := cwV (R := { frames := 1, cells := 0, slots := 0, locals := 21 }) (rm := { frames := 0, cells := 0, slots := 0, locals := 0 }) (mc := 0) (ms := 0) 1 E.1.2.2.2.2 gX4_attacked_X4_isArgument rfl rfl rfl (by decide +kernel) ⟨Nat.le_of_ble_eq_true rfl, Nat.le_of_ble_eq_true rfl⟩
  have c_5 := cwV (R := { frames := 1, cells := 0, slots := 0, locals := 21 }) (rm := { frames := 0, cells := 0, slots := 0, locals := 0 }) (mc := 0) (ms := 0) 1 E.1.2.2.2.2 gX4_attacked_X4_fail rfl rfl rfl (by decide +kernel) ⟨Nat.le_of_ble_eq_true rfl, Nat.le_of_ble_eq_true rfl⟩
  refine lv_aload_n E.1.1 E.1.2.1 dX4_attacked_0 rfl (lv_at hl 0 rfl) ?_
  refine q_ic E 0 dX4_attacked_1 (by decide) ?_
  refine q_put E h (C := RX4) (T := TX4) (N := 14) 4 rfl tyX4 tyX4_ok nmX4 c_2 0 rfl 0 (by decide) c_1 rfl (v := .int (nI 0)) (ty := .int) (by decide +kernel) rfl rfl (Nat.le_of_ble_eq_true rfl) dX4_attacked_2 (w2 := [(m0, .inr (4, [.int (nI 0), .int (nI cnt), .ref mw, .int (nI pr), .ref ma, .int (nI tol), .int (nI kn.toNat), .ref mc, .ref mf, .ref mr, .ref mt, .ref mar, .ref mbe, .ref mou]))]) rfl (fun H locs h => ?_)
  refine lv_aload_n E.1.1 E.1.2.1 dX4_attacked_5 rfl (lv_at hl 0 rfl) ?_
  refine lv_iload_n E.1.1 E.1.2.1 dX4_attacked_6 rfl (lv_at hl 1 rfl) ?_
  refine q_ki (w2 := fun _ => [(m0, .inr (4, [.int (nI 0), .int (nI cnt), .ref mw, .int (nI pr), .ref ma, .int (nI tol), .int (nI kn.toNat), .ref mc, .ref mf, .ref mr, .ref mt, .ref mar, .ref mbe, .ref mou]))]) (wr := []) E h [0] [] [0] (va_runV (As := [.int z]) (rest := []) E.1 (k_X4_isArgument_bad l g m0 mw ma mc mf mr mt mar mbe mou 0 cnt pr tol kn z (by exact hz) _) c_3 (q_preV E h [0] rfl rfl (C := RX4) (T := TX4) (N := 14) 4 rfl 0 rfl) rfl rfl hl.1 rfl (lv_room (Nat.le_of_ble_eq_true rfl)) dX4_attacked_7 ⟨Nat.zero_le _, Nat.zero_le _⟩) rfl rfl rfl (by decide) rfl (fun _ => rfl) (fun r4 _ H locs hr4 h => ?_)
  subst hr4
  refine q_beq E (tgt := 21) dX4_attacked_10 (by decide) (fun hb10 => ?_) (fun hb10 => ?_)
  · skip
    refine lv_aload_n E.1.1 E.1.2.1 dX4_attacked_21 rfl (lv_at hl 0 rfl) ?_
    refine q_ic E 1 dX4_attacked_22 (by decide) ?_
    refine q_ki (w2 := fun _ => [(m0, .inr (4, [.int (nI 1), .int (nI cnt), .ref mw, .int (nI pr), .ref ma, .int (nI tol), .int (nI kn.toNat), .ref mc, .ref mf, .ref mr, .ref mt, .ref mar, .ref mbe, .ref mou]))]) (wr := []) E h [0] [] [0] (va_runV (As := [.int (nI 1)]) (rest := []) E.1 (k_X4_fail l g m0 mw ma mc mf mr mt mar mbe mou 0 cnt pr tol kn 1  _) c_5 (q_preV E h [0] rfl rfl (C := RX4) (T := TX4) (N := 14) 4 rfl 0 rfl) rfl rfl hl.1 rfl (lv_room (Nat.le_of_ble_eq_true rfl)) dX4_attacked_23 ⟨Nat.zero_le _, Nat.zero_le _⟩) rfl rfl rfl (by decide) rfl (fun _ => rfl) (fun r6 _ H locs hr6 h => ?_)
    subst hr6
    -- world at the end: [(m0, .inr (4, [.int (nI 1), .int (nI cnt), .ref mw, .int (nI pr), .ref ma, .int (nI tol), .int (nI kn.toNat), .ref mc, .ref mf, .ref mr, .ref mt, .ref mar, .ref mbe, .ref mou]))]
    exact hend _ _ _ _ _ () h dX4_attacked_26 rfl
  · exact absurd hb10 (by decide)

set_option maxHeartbeats 4000000 in
set_option maxRecDepth 100000 in
theorem k_X4_attackCount (l : Launch) (g : GK) (m0 mw ma mc mf mr mt mar mbe mou : Nat) (th cnt pr tol : Nat) (kn : Bool) (wt mk : Nat → Nat) (hcnt : cnt ≤ 12) (hpc : pr < 2 ^ cnt) (hmk : ∀ k, mk k < 4096) (hwt : ∀ k, wt k < 65536) (htol : tol < 65536) : CI (S := Unit) l g yX4_attackCount wsX4_attackCount { frames := 3, cells := 0, slots := 0, locals := 66 } [.ref m0] [(m0, .inr (4, [.int (nI th), .int (nI cnt), .ref mw, .int (nI pr), .ref ma, .int (nI tol), .int (nI kn.toNat), .ref mc, .ref mf, .ref mr, .ref mt, .ref mar, .ref mbe, .ref mou])), (mw, .inl (gI g, 12, .inl (aN wt))), (ma, .inl (gI g, 12, .inl (aN mk)))] (fun r _ => r = nI (sumU (fun q => pc ((tgO (wkb wt mk pr tol)) q)) cnt)) (fun _ => [(m0, .inr (4, [.int (nI 0), .int (nI cnt), .ref mw, .int (nI pr), .ref ma, .int (nI tol), .int (nI kn.toNat), .ref mc, .ref mf, .ref mr, .ref mt, .ref mar, .ref mbe, .ref mou])), (mw, .inl (gI g, 12, .inl (aN wt))), (ma, .inl (gI g, 12, .inl (aN mk)))]) := by
  refine q_ofI (own := RX4) (by decide) rfl rfl (Nat.le_of_ble_eq_true rfl) n_int ?_
  intro p e s m below meth c A Q args E hmn h hend ls hl
  have hl : lv_has ls 3 [(0, .ref m0)] := hl
  have c_1 := E.1.2.2.2.2 (.fieldLink RX4 44 "DebateSolverModel" "thrown" "I") (by decide +kernel)
  have c_2 := (by decide +kernel : ∀ w ∈ wsX40, w ∈ wsX4_attackCount)
  have c_3 := E.1.2.2.2.2 (.fieldLink RX4 47 "DebateSolverModel" "many" "I") (by decide +kernel)
  have c_4 := cwV (R := { frames := 3, cells := 0, slots := 0, locals := 66 }) (rm := { frames := 2, cells := 0, slots := 0, locals := 43 }) (mc := 0) (ms := 0) 1 E.1.2.2.2.2 gX4_attackCount_X4_attackedBy rfl rfl rfl (by decide +kernel) ⟨Nat.le_of_ble_eq_true rfl, Nat.le_of_ble_eq_true rfl⟩
  have c_6 := va_cwS (R := { frames := 3, cells := 0, slots := 0, locals := 66 }) (rm := { frames := 0, cells := 0, slots := 0, locals := 0 }) (mc := 0) (ms := 0) 1 E.1.2.2.2.2 gX4_attackCount_J6_bitCount_0f7a4 rfl rfl rfl (by decide +kernel) ⟨Nat.le_of_ble_eq_true rfl, Nat.le_of_ble_eq_true rfl⟩
  refine lv_aload_n E.1.1 E.1.2.1 dX4_attackCount_0 rfl (lv_at hl 0 rfl) ?_
  refine q_ic E 0 dX4_attackCount_1 (by decide) ?_
  refine q_put E h (C := RX4) (T := TX4) (N := 14) 4 rfl tyX4 tyX4_ok nmX4 c_2 0 rfl 0 (by decide) c_1 rfl (v := .int (nI 0)) (ty := .int) (by decide +kernel) rfl rfl (Nat.le_of_ble_eq_true rfl) dX4_attackCount_2 (w2 := [(m0, .inr (4, [.int (nI 0), .int (nI cnt), .ref mw, .int (nI pr), .ref ma, .int (nI tol), .int (nI kn.toNat), .ref mc, .ref mf, .ref mr, .ref mt, .ref mar, .ref mbe, .ref mou])), (mw, .inl (gI g, 12, .inl (aN wt))), (ma, .inl (gI g, 12, .inl (aN mk)))]) rfl (fun H locs h => ?_)
  refine q_ic E 0 dX4_attackCount_5 (by decide) ?_
  refine lv_istore_n (lv' := [(1, .int (nI 0)), (0, .ref m0)]) E.1.1 E.1.2.1 dX4_attackCount_6 rfl hl (by decide) rfl (fun ls hl => ?_)
  refine q_ic E 0 dX4_attackCount_7 (by decide) ?_
  refine lv_istore_n (lv' := [(2, .int (nI 0)), (1, .int (nI 0)), (0, .ref m0)]) E.1.1 E.1.2.1 dX4_attackCount_8 rfl hl (by decide) rfl (fun ls hl => ?_)
  have lp9 : ∀ (fu : Nat) (k : Nat), cnt - k < fu → (k ≤ cnt) → ∀ (y9_1 : Nat), y9_1 = sumU (fun q => pc ((tgO (wkb wt mk pr tol)) q)) k → ∀ (H : Heap) (locs : List Loc), qH g A s [(m0, .inr (4, [.int (nI 0), .int (nI cnt), .ref mw, .int (nI pr), .ref ma, .int (nI tol), .int (nI kn.toNat), .ref mc, .ref mf, .ref mr, .ref mt, .ref mar, .ref mbe, .ref mou])), (mw, .inl (gI g, 12, .inl (aN wt))), (ma, .inl (gI g, 12, .inl (aN mk)))] H locs → ∀ ls : Array Slot, lv_has ls 3 [(0, .ref m0), (1, .int (nI y9_1)), (2, .int (nI k))] → W p l e { frames := 3, cells := 0, slots := 0, locals := 66 } s m args below meth c H locs 0 0 Q (F0 m 9 ls []) := by
    intro fu
    induction fu with
    | zero => intro k hfu; exact absurd hfu (Nat.not_lt_zero _)
    | succ fu ih9 =>
      intro k hfu hk y9_1 ey9_1 H locs h ls hl
      subst ey9_1
      refine lv_iload_n E.1.1 E.1.2.1 dX4_attackCount_9 rfl (lv_at hl 2 rfl) ?_
      refine lv_aload_n E.1.1 E.1.2.1 dX4_attackCount_10 rfl (lv_at hl 0 rfl) ?_
      refine q_get E h (C := RX4) (T := TX4) (N := 14) 4 rfl c_2 0 rfl 1 (by decide) c_3 (v := .int (nI cnt)) rfl dX4_attackCount_11 ?_
      refine q_ge E (tgt := 34) (by first | omega | assumption | exact srO_in | exact tgO_out hpc | exact srO_lt _ _ | exact tgO_lt _ _ | exact srO_lt _ | exact tgO_lt _ | exact pr12 hcnt hpc) (by first | omega | assumption | exact srO_in | exact tgO_out hpc | exact srO_lt _ _ | exact tgO_lt _ _ | exact srO_lt _ | exact tgO_lt _ | exact pr12 hcnt hpc) dX4_attackCount_14 (by decide) (fun hb14 => ?_) (fun hb14 => ?_)
      · skip
        refine lv_iload_n E.1.1 E.1.2.1 dX4_attackCount_34 rfl (lv_at hl 1 rfl) ?_
        -- world at the end: [(m0, .inr (4, [.int (nI 0), .int (nI cnt), .ref mw, .int (nI pr), .ref ma, .int (nI tol), .int (nI kn.toNat), .ref mc, .ref mf, .ref mr, .ref mt, .ref mar, .ref mbe, .ref mou])), (mw, .inl (gI g, 12, .inl (aN wt))), (ma, .inl (gI g, 12, .inl (aN mk)))]
        exact hend _ _ _ _ _ () h dX4_attackCount_35 (by rw [show k = cnt by omega])
      · skip
        refine lv_iload_n E.1.1 E.1.2.1 dX4_attackCount_17 rfl (lv_at hl 1 rfl) ?_
        refine lv_aload_n E.1.1 E.1.2.1 dX4_attackCount_18 rfl (lv_at hl 0 rfl) ?_
        refine lv_iload_n E.1.1 E.1.2.1 dX4_attackCount_19 rfl (lv_at hl 2 rfl) ?_
        refine q_ki (w2 := fun _ => [(m0, .inr (4, [.int (nI 0), .int (nI cnt), .ref mw, .int (nI pr), .ref ma, .int (nI tol), .int (nI kn.toNat), .ref mc, .ref mf, .ref mr, .ref mt, .ref mar, .ref mbe, .ref mou])), (mw, .inl (gI g, 12, .inl (aN wt))), (ma, .inl (gI g, 12, .inl (aN mk)))]) (wr := []) E h [0, 1, 2] [] [0, 1, 2] (va_runV (As := [.int (nI k)]) (rest := [.int (nI (sumU (fun q => pc ((tgO (wkb wt mk pr tol)) q)) k))]) E.1 (k_X4_attackedBy l g m0 mw ma mc mf mr mt mar mbe mou 0 cnt pr tol kn wt mk k (by first | omega | assumption | exact srO_in | exact tgO_out hpc | exact srO_lt _ _ | exact tgO_lt _ _ | exact srO_lt _ | exact tgO_lt _ | exact pr12 hcnt hpc) (by first | omega | assumption | exact srO_in | exact tgO_out hpc | exact srO_lt _ _ | exact tgO_lt _ _ | exact srO_lt _ | exact tgO_lt _ | exact pr12 hcnt hpc) (by first | omega | assumption | exact srO_in | exact tgO_out hpc | exact srO_lt _ _ | exact tgO_lt _ _ | exact srO_lt _ | exact tgO_lt _ | exact pr12 hcnt hpc) (by first | omega | assumption | exact srO_in | exact tgO_out hpc | exact srO_lt _ _ | exact tgO_lt _ _ | exact srO_lt _ | exact tgO_lt _ | exact pr12 hcnt hpc) (by first | omega | assumption | exact srO_in | exact tgO_out hpc | exact srO_lt _ _ | exact tgO_lt _ _ | exact srO_lt _ | exact tgO_lt _ | exact pr12 hcnt hpc) (by first | omega | assumption | exact srO_in | exact tgO_out hpc | exact srO_lt _ _ | exact tgO_lt _ _ | exact srO_lt _ | exact tgO_lt _ | exact pr12 hcnt hpc) _) c_4 (q_preV E h [0, 1, 2] rfl rfl (C := RX4) (T := TX4) (N := 14) 4 rfl 0 rfl) rfl rfl hl.1 rfl (lv_room (Nat.le_of_ble_eq_true rfl)) dX4_attackCount_20 ⟨Nat.zero_le _, Nat.zero_le _⟩) rfl rfl rfl (by decide) rfl (fun _ => rfl) (fun r5 _ H locs hr5 h => ?_)
        subst hr5
        refine q_ki (w2 := fun _ => [(m0, .inr (4, [.int (nI 0), .int (nI cnt), .ref mw, .int (nI pr), .ref ma, .int (nI tol), .int (nI kn.toNat), .ref mc, .ref mf, .ref mr, .ref mt, .ref mar, .ref mbe, .ref mou])), (mw, .inl (gI g, 12, .inl (aN wt))), (ma, .inl (gI g, 12, .inl (aN mk)))]) (wr := [(m0, .inr (4, [.int (nI 0), .int (nI cnt), .ref mw, .int (nI pr), .ref ma, .int (nI tol), .int (nI kn.toNat), .ref mc, .ref mf, .ref mr, .ref mt, .ref mar, .ref mbe, .ref mou])), (mw, .inl (gI g, 12, .inl (aN wt))), (ma, .inl (gI g, 12, .inl (aN mk)))]) E h [] [0, 1, 2] [0, 1, 2] (va_runS (As := [.int (nI (tgO (wkb wt mk pr tol) k))]) (rest := [.int (nI (sumU (fun q => pc ((tgO (wkb wt mk pr tol)) q)) k))]) E.1 (k_J6_bitCount_0f7a4 l g (tgO (wkb wt mk pr tol) k) (by first | omega | assumption | exact srO_in | exact tgO_out hpc | exact srO_lt _ _ | exact tgO_lt _ _ | exact srO_lt _ | exact tgO_lt _ | exact pr12 hcnt hpc) _) c_6 (q_preS E h [] rfl rfl) rfl rfl hl.1 rfl (lv_room (Nat.le_of_ble_eq_true rfl)) dX4_attackCount_23 ⟨Nat.zero_le _, Nat.zero_le _⟩) rfl rfl rfl (by decide) rfl (fun _ => rfl) (fun r7 _ H locs hr7 h => ?_)
        subst hr7
        refine q_add E dX4_attackCount_26 ?_
        refine lv_istore_n (lv' := [(1, .int (nI ((sumU (fun q => pc ((tgO (wkb wt mk pr tol)) q)) k) + (pc (tgO (wkb wt mk pr tol) k))))), (0, .ref m0), (2, .int (nI k))]) E.1.1 E.1.2.1 dX4_attackCount_27 rfl hl (by decide) rfl (fun ls hl => ?_)
        refine q_inc E (lv' := [(2, .int (nI (k + 1))), (1, .int (nI ((sumU (fun q => pc ((tgO (wkb wt mk pr tol)) q)) k) + (pc (tgO (wkb wt mk pr tol) k))))), (0, .ref m0)]) hl dX4_attackCount_28 (k := 2) rfl (by decide) rfl (fun ls hl => ?_)
        refine q_go E (tgt := 9) dX4_attackCount_31 (by decide) ?_
        exact ih9  (k + 1) (by omega) (by omega) _ rfl _ _ h _ (lv_sub hl [2, 1, 0] rfl)
  exact lp9 ((cnt - 0) + 1) 0 (Nat.lt_succ_self _) (by omega) _ rfl _ _ h _ (lv_sub hl [2, 1, 0] rfl)

set_option maxHeartbeats 4000000 in
set_option maxRecDepth 100000 in
theorem k_X4_look (l : Launch) (g : GK) (m0 mw ma mc mf mr mt mar mbe mou : Nat) (th cnt pr tol : Nat) (kn : Bool) (wt mk : Nat → Nat) (fr to_ : Nat → Nat) (hcnt : cnt ≤ 12) (hpc : pr < 2 ^ cnt) (hmk : ∀ k, mk k < 4096) (hwt : ∀ k, wt k < 65536) (htol : tol < 65536) : CV (S := Unit) l g yX4_look wsX4_look { frames := 3, cells := 0, slots := 0, locals := 66 } [.ref m0] [(m0, .inr (4, [.int (nI th), .int (nI cnt), .ref mw, .int (nI pr), .ref ma, .int (nI tol), .int (nI kn.toNat), .ref mc, .ref mf, .ref mr, .ref mt, .ref mar, .ref mbe, .ref mou])), (mw, .inl (gI g, 12, .inl (aN wt))), (ma, .inl (gI g, 12, .inl (aN mk))), (mr, .inl (gI g, 12, .inl (aN fr))), (mt, .inl (gI g, 12, .inl (aN to_)))] (fun _ => True) (fun _ => [(m0, .inr (4, [.int (nI th), .int (nI cnt), .ref mw, .int (nI pr), .ref ma, .int (nI tol), .int (nI kn.toNat), .ref mc, .ref mf, .ref mr, .ref mt, .ref mar, .ref mbe, .ref mou])), (mw, .inl (gI g, 12, .inl (aN wt))), (ma, .inl (gI g, 12, .inl (aN mk))), (mr, .inl (gI g, 12, .inl (aN (ovA cnt (srO (wkb wt mk pr tol)) fr)))), (mt, .inl (gI g, 12, .inl (aN (ovA cnt (tgO (wkb wt mk pr tol)) to_))))]) := by
  refine q_ofV (own := RX4) (by decide) rfl rfl (Nat.le_of_ble_eq_true rfl) ?_
  intro p e s m below meth c A Q args E hmn h hend ls hl
  have hl : lv_has ls 2 [(0, .ref m0)] := hl
  have c_1 := E.1.2.2.2.2 (.fieldLink RX4 47 "DebateSolverModel" "many" "I") (by decide +kernel)
  have c_2 := (by decide +kernel : ∀ w ∈ wsX40, w ∈ wsX4_look)
  have c_3 := E.1.2.2.2.2 (.fieldLink RX4 26 "DebateSolverModel" "from" "[I") (by decide +kernel)
  have c_4 := cwV (R := { frames := 3, cells := 0, slots := 0, locals := 66 }) (rm := { frames := 2, cells := 0, slots := 0, locals := 43 }) (mc := 0) (ms := 0) 1 E.1.2.2.2.2 gX4_look_X4_attackersOf rfl rfl rfl (by decide +kernel) ⟨Nat.le_of_ble_eq_true rfl, Nat.le_of_ble_eq_true rfl⟩
  have c_6 := E.1.2.2.2.2 (.fieldLink RX4 29 "DebateSolverModel" "to" "[I") (by decide +kernel)
  have c_7 := cwV (R := { frames := 3, cells := 0, slots := 0, locals := 66 }) (rm := { frames := 2, cells := 0, slots := 0, locals := 43 }) (mc := 0) (ms := 0) 1 E.1.2.2.2.2 gX4_look_X4_attackedBy rfl rfl rfl (by decide +kernel) ⟨Nat.le_of_ble_eq_true rfl, Nat.le_of_ble_eq_true rfl⟩
  have hpr := pr12 hcnt hpc
  have hp12 := cnt_p12 hcnt
  refine q_ic E 0 dX4_look_0 (by decide) ?_
  refine lv_istore_n (lv' := [(1, .int (nI 0)), (0, .ref m0)]) E.1.1 E.1.2.1 dX4_look_1 rfl hl (by decide) rfl (fun ls hl => ?_)
  have lp2 : ∀ (fu : Nat) (k : Nat), cnt - k < fu → (k ≤ cnt) → ∀ (w2_mr : Nat → Nat), w2_mr = ovA k (srO (wkb wt mk pr tol)) fr → ∀ (w2_mt : Nat → Nat), w2_mt = ovA k (tgO (wkb wt mk pr tol)) to_ → ∀ (H : Heap) (locs : List Loc), qH g A s [(m0, .inr (4, [.int (nI th), .int (nI cnt), .ref mw, .int (nI pr), .ref ma, .int (nI tol), .int (nI kn.toNat), .ref mc, .ref mf, .ref mr, .ref mt, .ref mar, .ref mbe, .ref mou])), (mw, .inl (gI g, 12, .inl (aN wt))), (ma, .inl (gI g, 12, .inl (aN mk))), (mr, .inl (gI g, 12, .inl (aN w2_mr))), (mt, .inl (gI g, 12, .inl (aN w2_mt)))] H locs → ∀ ls : Array Slot, lv_has ls 2 [(0, .ref m0), (1, .int (nI k))] → W p l e { frames := 3, cells := 0, slots := 0, locals := 66 } s m args below meth c H locs 0 0 Q (F0 m 2 ls []) := by
    intro fu
    induction fu with
    | zero => intro k hfu; exact absurd hfu (Nat.not_lt_zero _)
    | succ fu ih2 =>
      intro k hfu hk w2_mr ew2_mr w2_mt ew2_mt H locs h ls hl
      subst ew2_mr ew2_mt
      refine lv_iload_n E.1.1 E.1.2.1 dX4_look_2 rfl (lv_at hl 1 rfl) ?_
      refine lv_aload_n E.1.1 E.1.2.1 dX4_look_3 rfl (lv_at hl 0 rfl) ?_
      refine q_get E h (C := RX4) (T := TX4) (N := 14) 4 rfl c_2 0 rfl 1 (by decide) c_1 (v := .int (nI cnt)) rfl dX4_look_4 ?_
      refine q_ge E (tgt := 38) (by first | omega | assumption | exact srO_in | exact tgO_out hpc | exact srO_lt _ _ | exact tgO_lt _ _ | exact srO_lt _ | exact tgO_lt _ | exact pr12 hcnt hpc) (by first | omega | assumption | exact srO_in | exact tgO_out hpc | exact srO_lt _ _ | exact tgO_lt _ _ | exact srO_lt _ | exact tgO_lt _ | exact pr12 hcnt hpc) dX4_look_7 (by decide) (fun hb7 => ?_) (fun hb7 => ?_)
      · skip
        -- world at the end: [(m0, .inr (4, [.int (nI th), .int (nI cnt), .ref mw, .int (nI pr), .ref ma, .int (nI tol), .int (nI kn.toNat), .ref mc, .ref mf, .ref mr, .ref mt, .ref mar, .ref mbe, .ref mou])), (mw, .inl (gI g, 12, .inl (aN wt))), (ma, .inl (gI g, 12, .inl (aN mk))), (mr, .inl (gI g, 12, .inl (aN (ovA k (srO (wkb wt mk pr tol)) fr)))), (mt, .inl (gI g, 12, .inl (aN (ovA k (tgO (wkb wt mk pr tol)) to_))))]
        exact hend _ _ _ _ () (by rw [show k = cnt by omega] at h; exact h) dX4_look_38 trivial
      · skip
        refine lv_aload_n E.1.1 E.1.2.1 dX4_look_10 rfl (lv_at hl 0 rfl) ?_
        refine q_get E h (C := RX4) (T := TX4) (N := 14) 4 rfl c_2 0 rfl 9 (by decide) c_3 (v := .ref mr) rfl dX4_look_11 ?_
        refine lv_iload_n E.1.1 E.1.2.1 dX4_look_14 rfl (lv_at hl 1 rfl) ?_
        refine lv_aload_n E.1.1 E.1.2.1 dX4_look_15 rfl (lv_at hl 0 rfl) ?_
        refine lv_iload_n E.1.1 E.1.2.1 dX4_look_16 rfl (lv_at hl 1 rfl) ?_
        refine q_ki (w2 := fun _ => [(m0, .inr (4, [.int (nI th), .int (nI cnt), .ref mw, .int (nI pr), .ref ma, .int (nI tol), .int (nI kn.toNat), .ref mc, .ref mf, .ref mr, .ref mt, .ref mar, .ref mbe, .ref mou])), (mw, .inl (gI g, 12, .inl (aN wt))), (ma, .inl (gI g, 12, .inl (aN mk))), (mr, .inl (gI g, 12, .inl (aN (ovA k (srO (wkb wt mk pr tol)) fr)))), (mt, .inl (gI g, 12, .inl (aN (ovA k (tgO (wkb wt mk pr tol)) to_))))]) (wr := [(mr, .inl (gI g, 12, .inl (aN (ovA k (srO (wkb wt mk pr tol)) fr)))), (mt, .inl (gI g, 12, .inl (aN (ovA k (tgO (wkb wt mk pr tol)) to_))))]) E h [0, 1, 2] [3, 4] [2, 3, 4, 0, 1] (va_runV (As := [.int (nI k)]) (rest := [.int (nI k), .ref mr]) E.1 (k_X4_attackersOf l g m0 mw ma mc mf mr mt mar mbe mou th cnt pr tol kn wt mk k (by first | omega | assumption | exact srO_in | exact tgO_out hpc | exact srO_lt _ _ | exact tgO_lt _ _ | exact srO_lt _ | exact tgO_lt _ | exact pr12 hcnt hpc) (by first | omega | assumption | exact srO_in | exact tgO_out hpc | exact srO_lt _ _ | exact tgO_lt _ _ | exact srO_lt _ | exact tgO_lt _ | exact pr12 hcnt hpc) (by first | omega | assumption | exact srO_in | exact tgO_out hpc | exact srO_lt _ _ | exact tgO_lt _ _ | exact srO_lt _ | exact tgO_lt _ | exact pr12 hcnt hpc) (by first | omega | assumption | exact srO_in | exact tgO_out hpc | exact srO_lt _ _ | exact tgO_lt _ _ | exact srO_lt _ | exact tgO_lt _ | exact pr12 hcnt hpc) (by first | omega | assumption | exact srO_in | exact tgO_out hpc | exact srO_lt _ _ | exact tgO_lt _ _ | exact srO_lt _ | exact tgO_lt _ | exact pr12 hcnt hpc) (by first | omega | assumption | exact srO_in | exact tgO_out hpc | exact srO_lt _ _ | exact tgO_lt _ _ | exact srO_lt _ | exact tgO_lt _ | exact pr12 hcnt hpc) _) c_4 (q_preV E h [0, 1, 2] rfl rfl (C := RX4) (T := TX4) (N := 14) 4 rfl 0 rfl) rfl rfl hl.1 rfl (lv_room (Nat.le_of_ble_eq_true rfl)) dX4_look_17 ⟨Nat.zero_le _, Nat.zero_le _⟩) rfl rfl rfl (by decide) rfl (fun _ => rfl) (fun r5 _ H locs hr5 h => ?_)
        subst hr5
        refine q_iast E h 3 (f := (ovA k (srO (wkb wt mk pr tol)) fr)) rfl (by first | omega | assumption | exact srO_in | exact tgO_out hpc | exact srO_lt _ _ | exact tgO_lt _ _ | exact srO_lt _ | exact tgO_lt _ | exact pr12 hcnt hpc) (by decide) dX4_look_20 (w2 := [(m0, .inr (4, [.int (nI th), .int (nI cnt), .ref mw, .int (nI pr), .ref ma, .int (nI tol), .int (nI kn.toNat), .ref mc, .ref mf, .ref mr, .ref mt, .ref mar, .ref mbe, .ref mou])), (mw, .inl (gI g, 12, .inl (aN wt))), (ma, .inl (gI g, 12, .inl (aN mk))), (mr, .inl (gI g, 12, .inl (aN (updN (ovA k (srO (wkb wt mk pr tol)) fr) k (srO (wkb wt mk pr tol) k))))), (mt, .inl (gI g, 12, .inl (aN (ovA k (tgO (wkb wt mk pr tol)) to_))))]) rfl (fun H locs h => ?_)
        refine lv_aload_n E.1.1 E.1.2.1 dX4_look_21 rfl (lv_at hl 0 rfl) ?_
        refine q_get E h (C := RX4) (T := TX4) (N := 14) 4 rfl c_2 0 rfl 10 (by decide) c_6 (v := .ref mt) rfl dX4_look_22 ?_
        refine lv_iload_n E.1.1 E.1.2.1 dX4_look_25 rfl (lv_at hl 1 rfl) ?_
        refine lv_aload_n E.1.1 E.1.2.1 dX4_look_26 rfl (lv_at hl 0 rfl) ?_
        refine lv_iload_n E.1.1 E.1.2.1 dX4_look_27 rfl (lv_at hl 1 rfl) ?_
        refine q_ki (w2 := fun _ => [(m0, .inr (4, [.int (nI th), .int (nI cnt), .ref mw, .int (nI pr), .ref ma, .int (nI tol), .int (nI kn.toNat), .ref mc, .ref mf, .ref mr, .ref mt, .ref mar, .ref mbe, .ref mou])), (mw, .inl (gI g, 12, .inl (aN wt))), (ma, .inl (gI g, 12, .inl (aN mk))), (mr, .inl (gI g, 12, .inl (aN (updN (ovA k (srO (wkb wt mk pr tol)) fr) k (srO (wkb wt mk pr tol) k))))), (mt, .inl (gI g, 12, .inl (aN (ovA k (tgO (wkb wt mk pr tol)) to_))))]) (wr := [(mr, .inl (gI g, 12, .inl (aN (updN (ovA k (srO (wkb wt mk pr tol)) fr) k (srO (wkb wt mk pr tol) k))))), (mt, .inl (gI g, 12, .inl (aN (ovA k (tgO (wkb wt mk pr tol)) to_))))]) E h [0, 1, 2] [3, 4] [2, 3, 4, 0, 1] (va_runV (As := [.int (nI k)]) (rest := [.int (nI k), .ref mt]) E.1 (k_X4_attackedBy l g m0 mw ma mc mf mr mt mar mbe mou th cnt pr tol kn wt mk k (by first | omega | assumption | exact srO_in | exact tgO_out hpc | exact srO_lt _ _ | exact tgO_lt _ _ | exact srO_lt _ | exact tgO_lt _ | exact pr12 hcnt hpc) (by first | omega | assumption | exact srO_in | exact tgO_out hpc | exact srO_lt _ _ | exact tgO_lt _ _ | exact srO_lt _ | exact tgO_lt _ | exact pr12 hcnt hpc) (by first | omega | assumption | exact srO_in | exact tgO_out hpc | exact srO_lt _ _ | exact tgO_lt _ _ | exact srO_lt _ | exact tgO_lt _ | exact pr12 hcnt hpc) (by first | omega | assumption | exact srO_in | exact tgO_out hpc | exact srO_lt _ _ | exact tgO_lt _ _ | exact srO_lt _ | exact tgO_lt _ | exact pr12 hcnt hpc) (by first | omega | assumption | exact srO_in | exact tgO_out hpc | exact srO_lt _ _ | exact tgO_lt _ _ | exact srO_lt _ | exact tgO_lt _ | exact pr12 hcnt hpc) (by first | omega | assumption | exact srO_in | exact tgO_out hpc | exact srO_lt _ _ | exact tgO_lt _ _ | exact srO_lt _ | exact tgO_lt _ | exact pr12 hcnt hpc) _) c_7 (q_preV E h [0, 1, 2] rfl rfl (C := RX4) (T := TX4) (N := 14) 4 rfl 0 rfl) rfl rfl hl.1 rfl (lv_room (Nat.le_of_ble_eq_true rfl)) dX4_look_28 ⟨Nat.zero_le _, Nat.zero_le _⟩) rfl rfl rfl (by decide) rfl (fun _ => rfl) (fun r8 _ H locs hr8 h => ?_)
        subst hr8
        refine q_iast E h 4 (f := (ovA k (tgO (wkb wt mk pr tol)) to_)) rfl (by first | omega | assumption | exact srO_in | exact tgO_out hpc | exact srO_lt _ _ | exact tgO_lt _ _ | exact srO_lt _ | exact tgO_lt _ | exact pr12 hcnt hpc) (by decide) dX4_look_31 (w2 := [(m0, .inr (4, [.int (nI th), .int (nI cnt), .ref mw, .int (nI pr), .ref ma, .int (nI tol), .int (nI kn.toNat), .ref mc, .ref mf, .ref mr, .ref mt, .ref mar, .ref mbe, .ref mou])), (mw, .inl (gI g, 12, .inl (aN wt))), (ma, .inl (gI g, 12, .inl (aN mk))), (mr, .inl (gI g, 12, .inl (aN (updN (ovA k (srO (wkb wt mk pr tol)) fr) k (srO (wkb wt mk pr tol) k))))), (mt, .inl (gI g, 12, .inl (aN (updN (ovA k (tgO (wkb wt mk pr tol)) to_) k (tgO (wkb wt mk pr tol) k)))))]) rfl (fun H locs h => ?_)
        refine q_inc E (lv' := [(1, .int (nI (k + 1))), (0, .ref m0)]) hl dX4_look_32 (k := 1) rfl (by decide) rfl (fun ls hl => ?_)
        refine q_go E (tgt := 2) dX4_look_35 (by decide) ?_
        exact ih2  (k + 1) (by omega) (by omega) _ (by exact ovA_s _ _ k) _ (by exact ovA_s _ _ k) _ _ h _ (lv_sub hl [1, 0] rfl)
  exact lp2 ((cnt - 0) + 1) 0 (Nat.lt_succ_self _) (by omega) _ (by exact (ovA_0 _ _).symm) _ (by exact (ovA_0 _ _).symm) _ _ h _ (lv_sub hl [1, 0] rfl)

set_option maxHeartbeats 4000000 in
set_option maxRecDepth 100000 in
theorem k_X4_hit (l : Launch) (g : GK) (m0 mw ma mc mf mr mt mar mbe mou : Nat) (th cnt pr tol : Nat) (kn : Bool) (tg to_ : Nat → Nat) (n : Nat) (hcnt : cnt ≤ 12) (hz : ∀ j, cnt ≤ j → tg j = 0) (hn : n < 4096) : CI (S := Unit) l g yX4_hit wsX4_hit { frames := 1, cells := 0, slots := 0, locals := 21 } [.ref m0, .int (nI n)] [(m0, .inr (4, [.int (nI th), .int (nI cnt), .ref mw, .int (nI pr), .ref ma, .int (nI tol), .int (nI kn.toNat), .ref mc, .ref mf, .ref mr, .ref mt, .ref mar, .ref mbe, .ref mou])), (mt, .inl (gI g, 12, .inl (aN (ovA cnt tg to_))))] (fun r _ => r = nI (hit tg n)) (fun _ => [(m0, .inr (4, [.int (nI th), .int (nI cnt), .ref mw, .int (nI pr), .ref ma, .int (nI tol), .int (nI kn.toNat), .ref mc, .ref mf, .ref mr, .ref mt, .ref mar, .ref mbe, .ref mou])), (mt, .inl (gI g, 12, .inl (aN (ovA cnt tg to_))))]) := by
  refine q_ofI (own := RX4) (by decide) rfl rfl (Nat.le_of_ble_eq_true rfl) n_int ?_
  intro p e s m below meth c A Q args E hmn h hend ls hl
  have hl : lv_has ls 4 [(0, .ref m0), (1, .int (nI n))] := hl
  have c_1 := E.1.2.2.2.2 (.fieldLink RX4 47 "DebateSolverModel" "many" "I") (by decide +kernel)
  have c_2 := (by decide +kernel : ∀ w ∈ wsX40, w ∈ wsX4_hit)
  have c_3 := cwS (R := { frames := 1, cells := 0, slots := 0, locals := 21 }) (rm := { frames := 0, cells := 0, slots := 0, locals := 0 }) (mc := 0) (ms := 0) 2 E.1.2.2.2.2 gX4_hit_X4_has rfl rfl rfl (by decide +kernel) ⟨Nat.le_of_ble_eq_true rfl, Nat.le_of_ble_eq_true rfl⟩
  have c_5 := E.1.2.2.2.2 (.fieldLink RX4 29 "DebateSolverModel" "to" "[I") (by decide +kernel)
  refine q_ic E 0 dX4_hit_0 (by decide) ?_
  refine lv_istore_n (lv' := [(2, .int (nI 0)), (0, .ref m0), (1, .int (nI n))]) E.1.1 E.1.2.1 dX4_hit_1 rfl hl (by decide) rfl (fun ls hl => ?_)
  refine q_ic E 0 dX4_hit_2 (by decide) ?_
  refine lv_istore_n (lv' := [(3, .int (nI 0)), (2, .int (nI 0)), (0, .ref m0), (1, .int (nI n))]) E.1.1 E.1.2.1 dX4_hit_3 rfl hl (by decide) rfl (fun ls hl => ?_)
  have lp4 : ∀ (fu : Nat) (k : Nat), cnt - k < fu → (k ≤ cnt) → ∀ (y4_2 : Nat), y4_2 = hitU tg n k → ∀ (H : Heap) (locs : List Loc), qH g A s [(m0, .inr (4, [.int (nI th), .int (nI cnt), .ref mw, .int (nI pr), .ref ma, .int (nI tol), .int (nI kn.toNat), .ref mc, .ref mf, .ref mr, .ref mt, .ref mar, .ref mbe, .ref mou])), (mt, .inl (gI g, 12, .inl (aN (ovA cnt tg to_))))] H locs → ∀ ls : Array Slot, lv_has ls 4 [(0, .ref m0), (1, .int (nI n)), (2, .int (nI y4_2)), (3, .int (nI k))] → W p l e { frames := 1, cells := 0, slots := 0, locals := 21 } s m args below meth c H locs 0 0 Q (F0 m 4 ls []) := by
    intro fu
    induction fu with
    | zero => intro k hfu; exact absurd hfu (Nat.not_lt_zero _)
    | succ fu ih4 =>
      intro k hfu hk y4_2 ey4_2 H locs h ls hl
      subst ey4_2
      refine lv_iload_n E.1.1 E.1.2.1 dX4_hit_4 rfl (lv_at hl 3 rfl) ?_
      refine lv_aload_n E.1.1 E.1.2.1 dX4_hit_5 rfl (lv_at hl 0 rfl) ?_
      refine q_get E h (C := RX4) (T := TX4) (N := 14) 4 rfl c_2 0 rfl 1 (by decide) c_1 (v := .int (nI cnt)) rfl dX4_hit_6 ?_
      refine q_ge E (tgt := 35) (by first | omega | assumption | exact srO_in | exact tgO_out hpc | exact srO_lt _ _ | exact tgO_lt _ _ | exact srO_lt _ | exact tgO_lt _ | exact pr12 hcnt hpc) (by first | omega | assumption | exact srO_in | exact tgO_out hpc | exact srO_lt _ _ | exact tgO_lt _ _ | exact srO_lt _ | exact tgO_lt _ | exact pr12 hcnt hpc) dX4_hit_9 (by decide) (fun hb9 => ?_) (fun hb9 => ?_)
      · skip
        refine lv_iload_n E.1.1 E.1.2.1 dX4_hit_35 rfl (lv_at hl 2 rfl) ?_
        -- world at the end: [(m0, .inr (4, [.int (nI th), .int (nI cnt), .ref mw, .int (nI pr), .ref ma, .int (nI tol), .int (nI kn.toNat), .ref mc, .ref mf, .ref mr, .ref mt, .ref mar, .ref mbe, .ref mou])), (mt, .inl (gI g, 12, .inl (aN (ovA cnt tg to_))))]
        exact hend _ _ _ _ _ () h dX4_hit_36 (by rw [show k = cnt by omega]; exact congrArg nI (hitU_cut hz hcnt).symm)
      · skip
        refine lv_iload_n E.1.1 E.1.2.1 dX4_hit_12 rfl (lv_at hl 1 rfl) ?_
        refine lv_iload_n E.1.1 E.1.2.1 dX4_hit_13 rfl (lv_at hl 3 rfl) ?_
        refine q_ki (w2 := fun _ => [(m0, .inr (4, [.int (nI th), .int (nI cnt), .ref mw, .int (nI pr), .ref ma, .int (nI tol), .int (nI kn.toNat), .ref mc, .ref mf, .ref mr, .ref mt, .ref mar, .ref mbe, .ref mou])), (mt, .inl (gI g, 12, .inl (aN (ovA cnt tg to_))))]) (wr := [(m0, .inr (4, [.int (nI th), .int (nI cnt), .ref mw, .int (nI pr), .ref ma, .int (nI tol), .int (nI kn.toNat), .ref mc, .ref mf, .ref mr, .ref mt, .ref mar, .ref mbe, .ref mou])), (mt, .inl (gI g, 12, .inl (aN (ovA cnt tg to_))))]) E h [] [0, 1] [0, 1] (va_runS (As := [.int (nI n), .int (nI k)]) (rest := []) E.1 (k_X4_has l g n k (by first | omega | assumption | exact srO_in | exact tgO_out hpc | exact srO_lt _ _ | exact tgO_lt _ _ | exact srO_lt _ | exact tgO_lt _ | exact pr12 hcnt hpc) (by first | omega | assumption | exact srO_in | exact tgO_out hpc | exact srO_lt _ _ | exact tgO_lt _ _ | exact srO_lt _ | exact tgO_lt _ | exact pr12 hcnt hpc) _) c_3 (q_preS E h [] rfl rfl) rfl rfl hl.1 rfl (lv_room (Nat.le_of_ble_eq_true rfl)) dX4_hit_14 ⟨Nat.zero_le _, Nat.zero_le _⟩) rfl rfl rfl (by decide) rfl (fun _ => rfl) (fun r4 _ H locs hr4 h => ?_)
        subst hr4
        refine q_beq E (tgt := 29) dX4_hit_17 (by decide) (fun hb17 => ?_) (fun hb17 => ?_)
        · skip
          refine q_inc E (lv' := [(3, .int (nI (k + 1))), (0, .ref m0), (1, .int (nI n)), (2, .int (nI (hitU tg n k)))]) hl dX4_hit_29 (k := 3) rfl (by decide) rfl (fun ls hl => ?_)
          refine q_go E (tgt := 4) dX4_hit_32 (by decide) ?_
          exact ih4  (k + 1) (by omega) (by omega) _ (by first | exact (hitU_f hb17).symm | (rw [ovA_in hb9]; exact (hitU_t hb17).symm)) _ _ h _ (lv_sub hl [1, 2, 3, 0] rfl)
        · skip
          refine lv_iload_n E.1.1 E.1.2.1 dX4_hit_20 rfl (lv_at hl 2 rfl) ?_
          refine lv_aload_n E.1.1 E.1.2.1 dX4_hit_21 rfl (lv_at hl 0 rfl) ?_
          refine q_get E h (C := RX4) (T := TX4) (N := 14) 4 rfl c_2 0 rfl 10 (by decide) c_5 (v := .ref mt) rfl dX4_hit_22 ?_
          refine lv_iload_n E.1.1 E.1.2.1 dX4_hit_25 rfl (lv_at hl 3 rfl) ?_
          refine q_iald E h 1 (f := (ovA cnt tg to_)) rfl (by first | omega | assumption | exact srO_in | exact tgO_out hpc | exact srO_lt _ _ | exact tgO_lt _ _ | exact srO_lt _ | exact tgO_lt _ | exact pr12 hcnt hpc) (by decide) dX4_hit_26 ?_
          refine q_or E dX4_hit_27 ?_
          refine lv_istore_n (lv' := [(2, .int (nI ((hitU tg n k) ||| ((ovA cnt tg to_) k)))), (0, .ref m0), (1, .int (nI n)), (3, .int (nI k))]) E.1.1 E.1.2.1 dX4_hit_28 rfl hl (by decide) rfl (fun ls hl => ?_)
          refine q_inc E (lv' := [(3, .int (nI (k + 1))), (2, .int (nI ((hitU tg n k) ||| ((ovA cnt tg to_) k)))), (0, .ref m0), (1, .int (nI n))]) hl dX4_hit_29 (k := 3) rfl (by decide) rfl (fun ls hl => ?_)
          refine q_go E (tgt := 4) dX4_hit_32 (by decide) ?_
          exact ih4  (k + 1) (by omega) (by omega) _ (by first | exact (hitU_f hb17).symm | (rw [ovA_in hb9]; exact (hitU_t hb17).symm)) _ _ h _ (lv_sub hl [2, 3, 1, 0] rfl)
  exact lp4 ((cnt - 0) + 1) 0 (Nat.lt_succ_self _) (by omega) _ rfl _ _ h _ (lv_sub hl [2, 3, 1, 0] rfl)

set_option maxHeartbeats 4000000 in
set_option maxRecDepth 100000 in
theorem k_X4_isFreeSet (l : Launch) (g : GK) (m0 mw ma mc mf mr mt mar mbe mou : Nat) (th cnt pr tol : Nat) (kn : Bool) (tg to_ : Nat → Nat) (n : Nat) (hcnt : cnt ≤ 12) (hz : ∀ j, cnt ≤ j → tg j = 0) (hn : n < 4096) : CI (S := Unit) l g yX4_isFreeSet wsX4_isFreeSet { frames := 2, cells := 0, slots := 0, locals := 44 } [.ref m0, .int (nI n)] [(m0, .inr (4, [.int (nI th), .int (nI cnt), .ref mw, .int (nI pr), .ref ma, .int (nI tol), .int (nI kn.toNat), .ref mc, .ref mf, .ref mr, .ref mt, .ref mar, .ref mbe, .ref mou])), (mt, .inl (gI g, 12, .inl (aN (ovA cnt tg to_))))] (fun r _ => r = nI (hit tg n &&& n == 0).toNat) (fun _ => [(m0, .inr (4, [.int (nI th), .int (nI cnt), .ref mw, .int (nI pr), .ref ma, .int (nI tol), .int (nI kn.toNat), .ref mc, .ref mf, .ref mr, .ref mt, .ref mar, .ref mbe, .ref mou])), (mt, .inl (gI g, 12, .inl (aN (ovA cnt tg to_))))]) := by
  refine q_ofI (own := RX4) (by decide) rfl rfl (Nat.le_of_ble_eq_true rfl) (fun v u hp => by obtain rfl := hp; exact n_bool _) ?_
  intro p e s m below meth c A Q args E hmn h hend ls hl
  have hl : lv_has ls 2 [(0, .ref m0), (1, .int (nI n))] := hl
  have c_1 := cwV (R := { frames := 2, cells := 0, slots := 0, locals := 44 }) (rm := { frames := 1, cells := 0, slots := 0, locals := 21 }) (mc := 0) (ms := 0) 1 E.1.2.2.2.2 gX4_isFreeSet_X4_hit rfl rfl rfl (by decide +kernel) ⟨Nat.le_of_ble_eq_true rfl, Nat.le_of_ble_eq_true rfl⟩
  refine lv_aload_n E.1.1 E.1.2.1 dX4_isFreeSet_0 rfl (lv_at hl 0 rfl) ?_
  refine lv_iload_n E.1.1 E.1.2.1 dX4_isFreeSet_1 rfl (lv_at hl 1 rfl) ?_
  refine q_ki (w2 := fun _ => [(m0, .inr (4, [.int (nI th), .int (nI cnt), .ref mw, .int (nI pr), .ref ma, .int (nI tol), .int (nI kn.toNat), .ref mc, .ref mf, .ref mr, .ref mt, .ref mar, .ref mbe, .ref mou])), (mt, .inl (gI g, 12, .inl (aN (ovA cnt tg to_))))]) (wr := []) E h [0, 1] [] [0, 1] (va_runV (As := [.int (nI n)]) (rest := []) E.1 (k_X4_hit l g m0 mw ma mc mf mr mt mar mbe mou th cnt pr tol kn tg to_ n (by first | omega | assumption | exact srO_in | exact tgO_out hpc | exact srO_lt _ _ | exact tgO_lt _ _ | exact srO_lt _ | exact tgO_lt _ | exact pr12 hcnt hpc) (by first | omega | assumption | exact srO_in | exact tgO_out hpc | exact srO_lt _ _ | exact tgO_lt _ _ | exact srO_lt _ | exact tgO_lt _ | exact pr12 hcnt hpc) (by first | omega | assumption | exact srO_in | exact tgO_out hpc | exact srO_lt _ _ | exact tgO_lt _ _ | exact srO_lt _ | exact tgO_lt _ | exact pr12 hcnt hpc) _) c_1 (q_preV E h [0, 1] rfl rfl (C := RX4) (T := TX4) (N := 14) 4 rfl 0 rfl) rfl rfl hl.1 rfl (lv_room (Nat.le_of_ble_eq_true rfl)) dX4_isFreeSet_2 ⟨Nat.zero_le _, Nat.zero_le _⟩) rfl rfl rfl (by decide) rfl (fun _ => rfl) (fun r2 _ H locs hr2 h => ?_)
  subst hr2
  refine lv_iload_n E.1.1 E.1.2.1 dX4_isFreeSet_5 rfl (lv_at hl 1 rfl) ?_
  refine q_and E dX4_isFreeSet_6 ?_
  refine q_ne0 E (tgt := 14) (by exact Nat.lt_of_le_of_lt Nat.and_le_right (by omega)) dX4_isFreeSet_7 (by decide) (fun hb7 => ?_) (fun hb7 => ?_)
  · skip
    refine q_ic E 0 dX4_isFreeSet_14 (by decide) ?_
    -- world at the end: [(m0, .inr (4, [.int (nI th), .int (nI cnt), .ref mw, .int (nI pr), .ref ma, .int (nI tol), .int (nI kn.toNat), .ref mc, .ref mf, .ref mr, .ref mt, .ref mar, .ref mbe, .ref mou])), (mt, .inl (gI g, 12, .inl (aN (ovA cnt tg to_))))]
    exact hend _ _ _ _ _ () h dX4_isFreeSet_15 (by rw [beq_false_of_ne hb7]; rfl)
  · skip
    refine q_ic E 1 dX4_isFreeSet_10 (by decide) ?_
    refine q_go E (tgt := 15) dX4_isFreeSet_11 (by decide) ?_
    -- world at the end: [(m0, .inr (4, [.int (nI th), .int (nI cnt), .ref mw, .int (nI pr), .ref ma, .int (nI tol), .int (nI kn.toNat), .ref mc, .ref mf, .ref mr, .ref mt, .ref mar, .ref mbe, .ref mou])), (mt, .inl (gI g, 12, .inl (aN (ovA cnt tg to_))))]
    exact hend _ _ _ _ _ () h dX4_isFreeSet_15 (by rw [hb7]; rfl)

set_option maxHeartbeats 4000000 in
set_option maxRecDepth 100000 in
theorem k_X4_defendedBy (l : Launch) (g : GK) (m0 mw ma mc mf mr mt mar mbe mou : Nat) (th cnt pr tol : Nat) (kn : Bool) (sr tg fr to_ : Nat → Nat) (n : Nat) (hcnt : cnt ≤ 12) (hpc : pr < 2 ^ cnt) (hz : ∀ j, cnt ≤ j → tg j = 0) (hsr : ∀ k, sr k < 4096) (htg : ∀ k, tg k < 4096) (hss : ∀ k, ldf (sr k) pr = 0) (hn : n < 4096) : CI (S := Unit) l g yX4_defendedBy wsX4_defendedBy { frames := 2, cells := 0, slots := 0, locals := 44 } [.ref m0, .int (nI n)] [(m0, .inr (4, [.int (nI th), .int (nI cnt), .ref mw, .int (nI pr), .ref ma, .int (nI tol), .int (nI kn.toNat), .ref mc, .ref mf, .ref mr, .ref mt, .ref mar, .ref mbe, .ref mou])), (mr, .inl (gI g, 12, .inl (aN (ovA cnt sr fr)))), (mt, .inl (gI g, 12, .inl (aN (ovA cnt tg to_))))] (fun r _ => r = nI (gby sr tg pr n)) (fun _ => [(m0, .inr (4, [.int (nI th), .int (nI cnt), .ref mw, .int (nI pr), .ref ma, .int (nI tol), .int (nI kn.toNat), .ref mc, .ref mf, .ref mr, .ref mt, .ref mar, .ref mbe, .ref mou])), (mr, .inl (gI g, 12, .inl (aN (ovA cnt sr fr)))), (mt, .inl (gI g, 12, .inl (aN (ovA cnt tg to_))))]) := by
  refine q_ofI (own := RX4) (by decide) rfl rfl (Nat.le_of_ble_eq_true rfl) n_int ?_
  intro p e s m below meth c A Q args E hmn h hend ls hl
  have hl : lv_has ls 5 [(0, .ref m0), (1, .int (nI n))] := hl
  have c_1 := cwV (R := { frames := 2, cells := 0, slots := 0, locals := 44 }) (rm := { frames := 1, cells := 0, slots := 0, locals := 21 }) (mc := 0) (ms := 0) 1 E.1.2.2.2.2 gX4_defendedBy_X4_hit rfl rfl rfl (by decide +kernel) ⟨Nat.le_of_ble_eq_true rfl, Nat.le_of_ble_eq_true rfl⟩
  have c_3 := E.1.2.2.2.2 (.fieldLink RX4 47 "DebateSolverModel" "many" "I") (by decide +kernel)
  have c_4 := (by decide +kernel : ∀ w ∈ wsX40, w ∈ wsX4_defendedBy)
  have c_5 := E.1.2.2.2.2 (.fieldLink RX4 62 "DebateSolverModel" "in" "I") (by decide +kernel)
  have c_6 := cwS (R := { frames := 2, cells := 0, slots := 0, locals := 44 }) (rm := { frames := 0, cells := 0, slots := 0, locals := 0 }) (mc := 0) (ms := 0) 2 E.1.2.2.2.2 gX4_defendedBy_X4_has rfl rfl rfl (by decide +kernel) ⟨Nat.le_of_ble_eq_true rfl, Nat.le_of_ble_eq_true rfl⟩
  have c_8 := E.1.2.2.2.2 (.fieldLink RX4 26 "DebateSolverModel" "from" "[I") (by decide +kernel)
  have hpr := pr12 hcnt hpc
  have hp12 := cnt_p12 hcnt
  refine lv_aload_n E.1.1 E.1.2.1 dX4_defendedBy_0 rfl (lv_at hl 0 rfl) ?_
  refine lv_iload_n E.1.1 E.1.2.1 dX4_defendedBy_1 rfl (lv_at hl 1 rfl) ?_
  refine q_ki (w2 := fun _ => [(m0, .inr (4, [.int (nI th), .int (nI cnt), .ref mw, .int (nI pr), .ref ma, .int (nI tol), .int (nI kn.toNat), .ref mc, .ref mf, .ref mr, .ref mt, .ref mar, .ref mbe, .ref mou])), (mr, .inl (gI g, 12, .inl (aN (ovA cnt sr fr)))), (mt, .inl (gI g, 12, .inl (aN (ovA cnt tg to_))))]) (wr := [(mr, .inl (gI g, 12, .inl (aN (ovA cnt sr fr))))]) E h [0, 2] [1] [1, 0, 2] (va_runV (As := [.int (nI n)]) (rest := []) E.1 (k_X4_hit l g m0 mw ma mc mf mr mt mar mbe mou th cnt pr tol kn tg to_ n (by first | omega | assumption | exact srO_in | exact tgO_out hpc | exact srO_lt _ _ | exact tgO_lt _ _ | exact srO_lt _ | exact tgO_lt _ | exact pr12 hcnt hpc) (by first | omega | assumption | exact srO_in | exact tgO_out hpc | exact srO_lt _ _ | exact tgO_lt _ _ | exact srO_lt _ | exact tgO_lt _ | exact pr12 hcnt hpc) (by first | omega | assumption | exact srO_in | exact tgO_out hpc | exact srO_lt _ _ | exact tgO_lt _ _ | exact srO_lt _ | exact tgO_lt _ | exact pr12 hcnt hpc) _) c_1 (q_preV E h [0, 2] rfl rfl (C := RX4) (T := TX4) (N := 14) 4 rfl 0 rfl) rfl rfl hl.1 rfl (lv_room (Nat.le_of_ble_eq_true rfl)) dX4_defendedBy_2 ⟨Nat.zero_le _, Nat.zero_le _⟩) rfl rfl rfl (by decide) rfl (fun _ => rfl) (fun r2 _ H locs hr2 h => ?_)
  subst hr2
  refine lv_istore_n (lv' := [(2, .int (nI (hit tg n))), (0, .ref m0), (1, .int (nI n))]) E.1.1 E.1.2.1 dX4_defendedBy_5 rfl hl (by decide) rfl (fun ls hl => ?_)
  refine q_ic E 0 dX4_defendedBy_6 (by decide) ?_
  refine lv_istore_n (lv' := [(3, .int (nI 0)), (2, .int (nI (hit tg n))), (0, .ref m0), (1, .int (nI n))]) E.1.1 E.1.2.1 dX4_defendedBy_7 rfl hl (by decide) rfl (fun ls hl => ?_)
  refine q_ic E 0 dX4_defendedBy_8 (by decide) ?_
  refine lv_istore (lv' := [(4, .int (nI 0)), (3, .int (nI 0)), (2, .int (nI (hit tg n))), (0, .ref m0), (1, .int (nI n))]) E.1.1 E.1.2.1 dX4_defendedBy_9 hl (by decide) rfl (fun ls hl => ?_)
  have lp11 : ∀ (fu : Nat) (k : Nat), cnt - k < fu → (k ≤ cnt) → ∀ (y11_3 : Nat), y11_3 = mks (safeP sr (hit tg n) pr) k → ∀ (H : Heap) (locs : List Loc), qH g A s [(m0, .inr (4, [.int (nI th), .int (nI cnt), .ref mw, .int (nI pr), .ref ma, .int (nI tol), .int (nI kn.toNat), .ref mc, .ref mf, .ref mr, .ref mt, .ref mar, .ref mbe, .ref mou])), (mr, .inl (gI g, 12, .inl (aN (ovA cnt sr fr)))), (mt, .inl (gI g, 12, .inl (aN (ovA cnt tg to_))))] H locs → ∀ ls : Array Slot, lv_has ls 5 [(0, .ref m0), (1, .int (nI n)), (2, .int (nI (hit tg n))), (3, .int (nI y11_3)), (4, .int (nI k))] → W p l e { frames := 2, cells := 0, slots := 0, locals := 44 } s m args below meth c H locs 0 0 Q (F0 m 11 ls []) := by
    intro fu
    induction fu with
    | zero => intro k hfu; exact absurd hfu (Nat.not_lt_zero _)
    | succ fu ih11 =>
      intro k hfu hk y11_3 ey11_3 H locs h ls hl
      subst ey11_3
      refine lv_iload E.1.1 E.1.2.1 dX4_defendedBy_11 (lv_at hl 4 rfl) ?_
      refine lv_aload_n E.1.1 E.1.2.1 dX4_defendedBy_13 rfl (lv_at hl 0 rfl) ?_
      refine q_get E h (C := RX4) (T := TX4) (N := 14) 4 rfl c_4 0 rfl 1 (by decide) c_3 (v := .int (nI cnt)) rfl dX4_defendedBy_14 ?_
      refine q_ge E (tgt := 59) (by first | omega | assumption | exact srO_in | exact tgO_out hpc | exact srO_lt _ _ | exact tgO_lt _ _ | exact srO_lt _ | exact tgO_lt _ | exact pr12 hcnt hpc) (by first | omega | assumption | exact srO_in | exact tgO_out hpc | exact srO_lt _ _ | exact tgO_lt _ _ | exact srO_lt _ | exact tgO_lt _ | exact pr12 hcnt hpc) dX4_defendedBy_17 (by decide) (fun hb17 => ?_) (fun hb17 => ?_)
      · skip
        refine lv_iload_n E.1.1 E.1.2.1 dX4_defendedBy_59 rfl (lv_at hl 3 rfl) ?_
        -- world at the end: [(m0, .inr (4, [.int (nI th), .int (nI cnt), .ref mw, .int (nI pr), .ref ma, .int (nI tol), .int (nI kn.toNat), .ref mc, .ref mf, .ref mr, .ref mt, .ref mar, .ref mbe, .ref mou])), (mr, .inl (gI g, 12, .inl (aN (ovA cnt sr fr)))), (mt, .inl (gI g, 12, .inl (aN (ovA cnt tg to_))))]
        exact hend _ _ _ _ _ () h dX4_defendedBy_60 (by rw [show k = cnt by omega]; exact congrArg nI (safe_cnt hcnt hpc))
      · skip
        refine lv_aload_n E.1.1 E.1.2.1 dX4_defendedBy_20 rfl (lv_at hl 0 rfl) ?_
        refine q_get E h (C := RX4) (T := TX4) (N := 14) 4 rfl c_4 0 rfl 3 (by decide) c_5 (v := .int (nI pr)) rfl dX4_defendedBy_21 ?_
        refine lv_iload E.1.1 E.1.2.1 dX4_defendedBy_24 (lv_at hl 4 rfl) ?_
        refine q_ki (w2 := fun _ => [(m0, .inr (4, [.int (nI th), .int (nI cnt), .ref mw, .int (nI pr), .ref ma, .int (nI tol), .int (nI kn.toNat), .ref mc, .ref mf, .ref mr, .ref mt, .ref mar, .ref mbe, .ref mou])), (mr, .inl (gI g, 12, .inl (aN (ovA cnt sr fr)))), (mt, .inl (gI g, 12, .inl (aN (ovA cnt tg to_))))]) (wr := [(m0, .inr (4, [.int (nI th), .int (nI cnt), .ref mw, .int (nI pr), .ref ma, .int (nI tol), .int (nI kn.toNat), .ref mc, .ref mf, .ref mr, .ref mt, .ref mar, .ref mbe, .ref mou])), (mr, .inl (gI g, 12, .inl (aN (ovA cnt sr fr)))), (mt, .inl (gI g, 12, .inl (aN (ovA cnt tg to_))))]) E h [] [0, 1, 2] [0, 1, 2] (va_runS (As := [.int (nI pr), .int (nI k)]) (rest := []) E.1 (k_X4_has l g pr k (by first | omega | assumption | exact srO_in | exact tgO_out hpc | exact srO_lt _ _ | exact tgO_lt _ _ | exact srO_lt _ | exact tgO_lt _ | exact pr12 hcnt hpc) (by first | omega | assumption | exact srO_in | exact tgO_out hpc | exact srO_lt _ _ | exact tgO_lt _ _ | exact srO_lt _ | exact tgO_lt _ | exact pr12 hcnt hpc) _) c_6 (q_preS E h [] rfl rfl) rfl rfl hl.1 rfl (lv_room (Nat.le_of_ble_eq_true rfl)) dX4_defendedBy_26 ⟨Nat.zero_le _, Nat.zero_le _⟩) rfl rfl rfl (by decide) rfl (fun _ => rfl) (fun r7 _ H locs hr7 h => ?_)
        subst hr7
        refine q_beq E (tgt := 53) dX4_defendedBy_29 (by decide) (fun hb29 => ?_) (fun hb29 => ?_)
        · skip
          refine q_inc E (lv' := [(4, .int (nI (k + 1))), (0, .ref m0), (1, .int (nI n)), (2, .int (nI (hit tg n))), (3, .int (nI (mks (safeP sr (hit tg n) pr) k)))]) hl dX4_defendedBy_53 (k := 4) rfl (by decide) rfl (fun ls hl => ?_)
          refine q_go E (tgt := 11) dX4_defendedBy_56 (by decide) ?_
          exact ih11  (k + 1) (by omega) (by omega) _ (by first | exact (mks_f (safeP_f1 hb29)).symm | (rw [ovA_in hb17, ldf_in (hss k)] at hb43; exact (mks_f (safeP_f2 hb43)).symm) | (rw [ovA_in hb17, ldf_in (hss k)] at hb43; exact (mks_t (safeP_t hb29 hb43)).symm)) _ _ h _ (lv_sub hl [1, 2, 3, 4, 0] rfl)
        · skip
          refine lv_aload_n E.1.1 E.1.2.1 dX4_defendedBy_32 rfl (lv_at hl 0 rfl) ?_
          refine q_get E h (C := RX4) (T := TX4) (N := 14) 4 rfl c_4 0 rfl 9 (by decide) c_8 (v := .ref mr) rfl dX4_defendedBy_33 ?_
          refine lv_iload E.1.1 E.1.2.1 dX4_defendedBy_36 (lv_at hl 4 rfl) ?_
          refine q_iald E h 1 (f := (ovA cnt sr fr)) rfl (by first | omega | assumption | exact srO_in | exact tgO_out hpc | exact srO_lt _ _ | exact tgO_lt _ _ | exact srO_lt _ | exact tgO_lt _ | exact pr12 hcnt hpc) (by decide) dX4_defendedBy_38 ?_
          refine lv_iload_n E.1.1 E.1.2.1 dX4_defendedBy_39 rfl (lv_at hl 2 rfl) ?_
          refine q_im1 E dX4_defendedBy_40 ?_
          refine q_xor E dX4_defendedBy_41 ?_
          refine q_andn E dX4_defendedBy_42 ?_
          refine q_ne0 E (tgt := 53) (by exact Nat.lt_trans (Nat.lt_of_le_of_lt (ldf_le _ _) (by rw [ovA_in hb17]; exact hsr k)) (by decide)) dX4_defendedBy_43 (by decide) (fun hb43 => ?_) (fun hb43 => ?_)
          · skip
            refine q_inc E (lv' := [(4, .int (nI (k + 1))), (0, .ref m0), (1, .int (nI n)), (2, .int (nI (hit tg n))), (3, .int (nI (mks (safeP sr (hit tg n) pr) k)))]) hl dX4_defendedBy_53 (k := 4) rfl (by decide) rfl (fun ls hl => ?_)
            refine q_go E (tgt := 11) dX4_defendedBy_56 (by decide) ?_
            exact ih11  (k + 1) (by omega) (by omega) _ (by first | exact (mks_f (safeP_f1 hb29)).symm | (rw [ovA_in hb17, ldf_in (hss k)] at hb43; exact (mks_f (safeP_f2 hb43)).symm) | (rw [ovA_in hb17, ldf_in (hss k)] at hb43; exact (mks_t (safeP_t hb29 hb43)).symm)) _ _ h _ (lv_sub hl [1, 2, 3, 4, 0] rfl)
          · skip
            refine lv_iload_n E.1.1 E.1.2.1 dX4_defendedBy_46 rfl (lv_at hl 3 rfl) ?_
            refine q_ic E 1 dX4_defendedBy_47 (by decide) ?_
            refine lv_iload E.1.1 E.1.2.1 dX4_defendedBy_48 (lv_at hl 4 rfl) ?_
            refine q_shl1 E (by first | omega | assumption | exact srO_in | exact tgO_out hpc | exact srO_lt _ _ | exact tgO_lt _ _ | exact srO_lt _ | exact tgO_lt _ | exact pr12 hcnt hpc) dX4_defendedBy_50 ?_
            refine q_or E dX4_defendedBy_51 ?_
            refine lv_istore_n (lv' := [(3, .int (nI ((mks (safeP sr (hit tg n) pr) k) ||| (2 ^ k)))), (0, .ref m0), (1, .int (nI n)), (2, .int (nI (hit tg n))), (4, .int (nI k))]) E.1.1 E.1.2.1 dX4_defendedBy_52 rfl hl (by decide) rfl (fun ls hl => ?_)
            refine q_inc E (lv' := [(4, .int (nI (k + 1))), (3, .int (nI ((mks (safeP sr (hit tg n) pr) k) ||| (2 ^ k)))), (0, .ref m0), (1, .int (nI n)), (2, .int (nI (hit tg n)))]) hl dX4_defendedBy_53 (k := 4) rfl (by decide) rfl (fun ls hl => ?_)
            refine q_go E (tgt := 11) dX4_defendedBy_56 (by decide) ?_
            exact ih11  (k + 1) (by omega) (by omega) _ (by first | exact (mks_f (safeP_f1 hb29)).symm | (rw [ovA_in hb17, ldf_in (hss k)] at hb43; exact (mks_f (safeP_f2 hb43)).symm) | (rw [ovA_in hb17, ldf_in (hss k)] at hb43; exact (mks_t (safeP_t hb29 hb43)).symm)) _ _ h _ (lv_sub hl [2, 3, 4, 1, 0] rfl)
  exact lp11 ((cnt - 0) + 1) 0 (Nat.lt_succ_self _) (by omega) _ rfl _ _ h _ (lv_sub hl [3, 4, 2, 1, 0] rfl)

set_option maxHeartbeats 4000000 in
set_option maxRecDepth 100000 in
theorem k_X4_isAdmissibleSet (l : Launch) (g : GK) (m0 mw ma mc mf mr mt mar mbe mou : Nat) (th cnt pr tol : Nat) (kn : Bool) (sr tg fr to_ : Nat → Nat) (n : Nat) (hcnt : cnt ≤ 12) (hpc : pr < 2 ^ cnt) (hz : ∀ j, cnt ≤ j → tg j = 0) (hsr : ∀ k, sr k < 4096) (htg : ∀ k, tg k < 4096) (hss : ∀ k, ldf (sr k) pr = 0) (hn : n < 4096) : CI (S := Unit) l g yX4_isAdmissibleSet wsX4_isAdmissibleSet { frames := 3, cells := 0, slots := 0, locals := 68 } [.ref m0, .int (nI n)] [(m0, .inr (4, [.int (nI th), .int (nI cnt), .ref mw, .int (nI pr), .ref ma, .int (nI tol), .int (nI kn.toNat), .ref mc, .ref mf, .ref mr, .ref mt, .ref mar, .ref mbe, .ref mou])), (mr, .inl (gI g, 12, .inl (aN (ovA cnt sr fr)))), (mt, .inl (gI g, 12, .inl (aN (ovA cnt tg to_))))] (fun r _ => r = nI ((hit tg n &&& n == 0) && (ldf n (gby sr tg pr n) == 0)).toNat) (fun _ => [(m0, .inr (4, [.int (nI th), .int (nI cnt), .ref mw, .int (nI pr), .ref ma, .int (nI tol), .int (nI kn.toNat), .ref mc, .ref mf, .ref mr, .ref mt, .ref mar, .ref mbe, .ref mou])), (mr, .inl (gI g, 12, .inl (aN (ovA cnt sr fr)))), (mt, .inl (gI g, 12, .inl (aN (ovA cnt tg to_))))]) := by
  refine q_ofI (own := RX4) (by decide) rfl rfl (Nat.le_of_ble_eq_true rfl) (fun v u hp => by obtain rfl := hp; exact n_bool _) ?_
  intro p e s m below meth c A Q args E hmn h hend ls hl
  have hl : lv_has ls 2 [(0, .ref m0), (1, .int (nI n))] := hl
  have c_1 := cwV (R := { frames := 3, cells := 0, slots := 0, locals := 68 }) (rm := { frames := 2, cells := 0, slots := 0, locals := 44 }) (mc := 0) (ms := 0) 1 E.1.2.2.2.2 gX4_isAdmissibleSet_X4_isFreeSet rfl rfl rfl (by decide +kernel) ⟨Nat.le_of_ble_eq_true rfl, Nat.le_of_ble_eq_true rfl⟩
  have c_3 := cwV (R := { frames := 3, cells := 0, slots := 0, locals := 68 }) (rm := { frames := 2, cells := 0, slots := 0, locals := 44 }) (mc := 0) (ms := 0) 1 E.1.2.2.2.2 gX4_isAdmissibleSet_X4_defendedBy rfl rfl rfl (by decide +kernel) ⟨Nat.le_of_ble_eq_true rfl, Nat.le_of_ble_eq_true rfl⟩
  have hpr := pr12 hcnt hpc
  have hp12 := cnt_p12 hcnt
  refine lv_aload_n E.1.1 E.1.2.1 dX4_isAdmissibleSet_0 rfl (lv_at hl 0 rfl) ?_
  refine lv_iload_n E.1.1 E.1.2.1 dX4_isAdmissibleSet_1 rfl (lv_at hl 1 rfl) ?_
  refine q_ki (w2 := fun _ => [(m0, .inr (4, [.int (nI th), .int (nI cnt), .ref mw, .int (nI pr), .ref ma, .int (nI tol), .int (nI kn.toNat), .ref mc, .ref mf, .ref mr, .ref mt, .ref mar, .ref mbe, .ref mou])), (mr, .inl (gI g, 12, .inl (aN (ovA cnt sr fr)))), (mt, .inl (gI g, 12, .inl (aN (ovA cnt tg to_))))]) (wr := [(mr, .inl (gI g, 12, .inl (aN (ovA cnt sr fr))))]) E h [0, 2] [1] [1, 0, 2] (va_runV (As := [.int (nI n)]) (rest := []) E.1 (k_X4_isFreeSet l g m0 mw ma mc mf mr mt mar mbe mou th cnt pr tol kn tg to_ n (by first | omega | assumption | exact srO_in | exact tgO_out hpc | exact srO_lt _ _ | exact tgO_lt _ _ | exact srO_lt _ | exact tgO_lt _ | exact pr12 hcnt hpc) (by first | omega | assumption | exact srO_in | exact tgO_out hpc | exact srO_lt _ _ | exact tgO_lt _ _ | exact srO_lt _ | exact tgO_lt _ | exact pr12 hcnt hpc) (by first | omega | assumption | exact srO_in | exact tgO_out hpc | exact srO_lt _ _ | exact tgO_lt _ _ | exact srO_lt _ | exact tgO_lt _ | exact pr12 hcnt hpc) _) c_1 (q_preV E h [0, 2] rfl rfl (C := RX4) (T := TX4) (N := 14) 4 rfl 0 rfl) rfl rfl hl.1 rfl (lv_room (Nat.le_of_ble_eq_true rfl)) dX4_isAdmissibleSet_2 ⟨Nat.zero_le _, Nat.zero_le _⟩) rfl rfl rfl (by decide) rfl (fun _ => rfl) (fun r2 _ H locs hr2 h => ?_)
  subst hr2
  refine q_beq E (tgt := 24) dX4_isAdmissibleSet_5 (by decide) (fun hb5 => ?_) (fun hb5 => ?_)
  · skip
    refine q_ic E 0 dX4_isAdmissibleSet_24 (by decide) ?_
    -- world at the end: [(m0, .inr (4, [.int (nI th), .int (nI cnt), .ref mw, .int (nI pr), .ref ma, .int (nI tol), .int (nI kn.toNat), .ref mc, .ref mf, .ref mr, .ref mt, .ref mar, .ref mbe, .ref mou])), (mr, .inl (gI g, 12, .inl (aN (ovA cnt sr fr)))), (mt, .inl (gI g, 12, .inl (aN (ovA cnt tg to_))))]
    exact hend _ _ _ _ _ () h dX4_isAdmissibleSet_25 (by rw [hb5]; rfl)
  · skip
    refine lv_iload_n E.1.1 E.1.2.1 dX4_isAdmissibleSet_8 rfl (lv_at hl 1 rfl) ?_
    refine lv_aload_n E.1.1 E.1.2.1 dX4_isAdmissibleSet_9 rfl (lv_at hl 0 rfl) ?_
    refine lv_iload_n E.1.1 E.1.2.1 dX4_isAdmissibleSet_10 rfl (lv_at hl 1 rfl) ?_
    refine q_ki (w2 := fun _ => [(m0, .inr (4, [.int (nI th), .int (nI cnt), .ref mw, .int (nI pr), .ref ma, .int (nI tol), .int (nI kn.toNat), .ref mc, .ref mf, .ref mr, .ref mt, .ref mar, .ref mbe, .ref mou])), (mr, .inl (gI g, 12, .inl (aN (ovA cnt sr fr)))), (mt, .inl (gI g, 12, .inl (aN (ovA cnt tg to_))))]) (wr := []) E h [0, 1, 2] [] [0, 1, 2] (va_runV (As := [.int (nI n)]) (rest := [.int (nI n)]) E.1 (k_X4_defendedBy l g m0 mw ma mc mf mr mt mar mbe mou th cnt pr tol kn sr tg fr to_ n (by first | omega | assumption | exact srO_in | exact tgO_out hpc | exact srO_lt _ _ | exact tgO_lt _ _ | exact srO_lt _ | exact tgO_lt _ | exact pr12 hcnt hpc) (by first | omega | assumption | exact srO_in | exact tgO_out hpc | exact srO_lt _ _ | exact tgO_lt _ _ | exact srO_lt _ | exact tgO_lt _ | exact pr12 hcnt hpc) (by first | omega | assumption | exact srO_in | exact tgO_out hpc | exact srO_lt _ _ | exact tgO_lt _ _ | exact srO_lt _ | exact tgO_lt _ | exact pr12 hcnt hpc) (by first | omega | assumption | exact srO_in | exact tgO_out hpc | exact srO_lt _ _ | exact tgO_lt _ _ | exact srO_lt _ | exact tgO_lt _ | exact pr12 hcnt hpc) (by first | omega | assumption | exact srO_in | exact tgO_out hpc | exact srO_lt _ _ | exact tgO_lt _ _ | exact srO_lt _ | exact tgO_lt _ | exact pr12 hcnt hpc) (by first | omega | assumption | exact srO_in | exact tgO_out hpc | exact srO_lt _ _ | exact tgO_lt _ _ | exact srO_lt _ | exact tgO_lt _ | exact pr12 hcnt hpc) (by first | omega | assumption | exact srO_in | exact tgO_out hpc | exact srO_lt _ _ | exact tgO_lt _ _ | exact srO_lt _ | exact tgO_lt _ | exact pr12 hcnt hpc) _) c_3 (q_preV E h [0, 1, 2] rfl rfl (C := RX4) (T := TX4) (N := 14) 4 rfl 0 rfl) rfl rfl hl.1 rfl (lv_room (Nat.le_of_ble_eq_true rfl)) dX4_isAdmissibleSet_11 ⟨Nat.zero_le _, Nat.zero_le _⟩) rfl rfl rfl (by decide) rfl (fun _ => rfl) (fun r4 _ H locs hr4 h => ?_)
    subst hr4
    refine q_im1 E dX4_isAdmissibleSet_14 ?_
    refine q_xor E dX4_isAdmissibleSet_15 ?_
    refine q_andn E dX4_isAdmissibleSet_16 ?_
    refine q_ne0 E (tgt := 24) (by exact Nat.lt_of_le_of_lt (ldf_le _ _) (by omega)) dX4_isAdmissibleSet_17 (by decide) (fun hb17 => ?_) (fun hb17 => ?_)
    · skip
      refine q_ic E 0 dX4_isAdmissibleSet_24 (by decide) ?_
      -- world at the end: [(m0, .inr (4, [.int (nI th), .int (nI cnt), .ref mw, .int (nI pr), .ref ma, .int (nI tol), .int (nI kn.toNat), .ref mc, .ref mf, .ref mr, .ref mt, .ref mar, .ref mbe, .ref mou])), (mr, .inl (gI g, 12, .inl (aN (ovA cnt sr fr)))), (mt, .inl (gI g, 12, .inl (aN (ovA cnt tg to_))))]
      exact hend _ _ _ _ _ () h dX4_isAdmissibleSet_25 (by rw [hb5, beq_false_of_ne hb17]; rfl)
    · skip
      refine q_ic E 1 dX4_isAdmissibleSet_20 (by decide) ?_
      refine q_go E (tgt := 25) dX4_isAdmissibleSet_21 (by decide) ?_
      -- world at the end: [(m0, .inr (4, [.int (nI th), .int (nI cnt), .ref mw, .int (nI pr), .ref ma, .int (nI tol), .int (nI kn.toNat), .ref mc, .ref mf, .ref mr, .ref mt, .ref mar, .ref mbe, .ref mou])), (mr, .inl (gI g, 12, .inl (aN (ovA cnt sr fr)))), (mt, .inl (gI g, 12, .inl (aN (ovA cnt tg to_))))]
      exact hend _ _ _ _ _ () h dX4_isAdmissibleSet_25 (by rw [hb5, hb17]; rfl)

set_option maxHeartbeats 4000000 in
set_option maxRecDepth 100000 in
theorem k_X4_groundedBehind (l : Launch) (g : GK) (m0 mw ma mc mf mr mt mar mbe mou : Nat) (th cnt pr tol : Nat) (kn : Bool) (sr tg fr to_ : Nat → Nat) (q : Nat) (hcnt : cnt ≤ 12) (hpc : pr < 2 ^ cnt) (hz : ∀ j, cnt ≤ j → tg j = 0) (hsr : ∀ k, sr k < 4096) (htg : ∀ k, tg k < 4096) (hss : ∀ k, ldf (sr k) pr = 0) (hq : q < 100) : CI (S := Unit) l g yX4_groundedBehind wsX4_groundedBehind { frames := 3, cells := 0, slots := 0, locals := 68 } [.ref m0, .int (nI q)] [(m0, .inr (4, [.int (nI th), .int (nI cnt), .ref mw, .int (nI pr), .ref ma, .int (nI tol), .int (nI kn.toNat), .ref mc, .ref mf, .ref mr, .ref mt, .ref mar, .ref mbe, .ref mou])), (mr, .inl (gI g, 12, .inl (aN (ovA cnt sr fr)))), (mt, .inl (gI g, 12, .inl (aN (ovA cnt tg to_))))] (fun r _ => r = nI (grw sr tg pr q)) (fun _ => [(m0, .inr (4, [.int (nI th), .int (nI cnt), .ref mw, .int (nI pr), .ref ma, .int (nI tol), .int (nI kn.toNat), .ref mc, .ref mf, .ref mr, .ref mt, .ref mar, .ref mbe, .ref mou])), (mr, .inl (gI g, 12, .inl (aN (ovA cnt sr fr)))), (mt, .inl (gI g, 12, .inl (aN (ovA cnt tg to_))))]) := by
  refine q_ofI (own := RX4) (by decide) rfl rfl (Nat.le_of_ble_eq_true rfl) n_int ?_
  intro p e s m below meth c A Q args E hmn h hend ls hl
  have hl : lv_has ls 4 [(0, .ref m0), (1, .int (nI q))] := hl
  have c_1 := cwV (R := { frames := 3, cells := 0, slots := 0, locals := 68 }) (rm := { frames := 2, cells := 0, slots := 0, locals := 44 }) (mc := 0) (ms := 0) 1 E.1.2.2.2.2 gX4_groundedBehind_X4_defendedBy rfl rfl rfl (by decide +kernel) ⟨Nat.le_of_ble_eq_true rfl, Nat.le_of_ble_eq_true rfl⟩
  refine q_ic E 0 dX4_groundedBehind_0 (by decide) ?_
  refine lv_istore_n (lv' := [(2, .int (nI 0)), (0, .ref m0), (1, .int (nI q))]) E.1.1 E.1.2.1 dX4_groundedBehind_1 rfl hl (by decide) rfl (fun ls hl => ?_)
  refine q_ic E 0 dX4_groundedBehind_2 (by decide) ?_
  refine lv_istore_n (lv' := [(3, .int (nI 0)), (2, .int (nI 0)), (0, .ref m0), (1, .int (nI q))]) E.1.1 E.1.2.1 dX4_groundedBehind_3 rfl hl (by decide) rfl (fun ls hl => ?_)
  have lp4 : ∀ (fu : Nat) (k : Nat), q - k < fu → (k ≤ q) → ∀ (y4_2 : Nat), y4_2 = grw sr tg pr k → ∀ (H : Heap) (locs : List Loc), qH g A s [(m0, .inr (4, [.int (nI th), .int (nI cnt), .ref mw, .int (nI pr), .ref ma, .int (nI tol), .int (nI kn.toNat), .ref mc, .ref mf, .ref mr, .ref mt, .ref mar, .ref mbe, .ref mou])), (mr, .inl (gI g, 12, .inl (aN (ovA cnt sr fr)))), (mt, .inl (gI g, 12, .inl (aN (ovA cnt tg to_))))] H locs → ∀ ls : Array Slot, lv_has ls 4 [(0, .ref m0), (1, .int (nI q)), (2, .int (nI y4_2)), (3, .int (nI k))] → W p l e { frames := 3, cells := 0, slots := 0, locals := 68 } s m args below meth c H locs 0 0 Q (F0 m 4 ls []) := by
    intro fu
    induction fu with
    | zero => intro k hfu; exact absurd hfu (Nat.not_lt_zero _)
    | succ fu ih4 =>
      intro k hfu hk y4_2 ey4_2 H locs h ls hl
      subst ey4_2
      have hg := grw_lt sr tg pr k
      refine lv_iload_n E.1.1 E.1.2.1 dX4_groundedBehind_4 rfl (lv_at hl 3 rfl) ?_
      refine lv_iload_n E.1.1 E.1.2.1 dX4_groundedBehind_5 rfl (lv_at hl 1 rfl) ?_
      refine q_ge E (tgt := 21) (by first | omega | assumption | exact srO_in | exact tgO_out hpc | exact srO_lt _ _ | exact tgO_lt _ _ | exact srO_lt _ | exact tgO_lt _ | exact pr12 hcnt hpc) (by first | omega | assumption | exact srO_in | exact tgO_out hpc | exact srO_lt _ _ | exact tgO_lt _ _ | exact srO_lt _ | exact tgO_lt _ | exact pr12 hcnt hpc) dX4_groundedBehind_6 (by decide) (fun hb6 => ?_) (fun hb6 => ?_)
      · skip
        refine lv_iload_n E.1.1 E.1.2.1 dX4_groundedBehind_21 rfl (lv_at hl 2 rfl) ?_
        -- world at the end: [(m0, .inr (4, [.int (nI th), .int (nI cnt), .ref mw, .int (nI pr), .ref ma, .int (nI tol), .int (nI kn.toNat), .ref mc, .ref mf, .ref mr, .ref mt, .ref mar, .ref mbe, .ref mou])), (mr, .inl (gI g, 12, .inl (aN (ovA cnt sr fr)))), (mt, .inl (gI g, 12, .inl (aN (ovA cnt tg to_))))]
        exact hend _ _ _ _ _ () h dX4_groundedBehind_22 (by rw [show k = q by omega])
      · skip
        refine lv_aload_n E.1.1 E.1.2.1 dX4_groundedBehind_9 rfl (lv_at hl 0 rfl) ?_
        refine lv_iload_n E.1.1 E.1.2.1 dX4_groundedBehind_10 rfl (lv_at hl 2 rfl) ?_
        refine q_ki (w2 := fun _ => [(m0, .inr (4, [.int (nI th), .int (nI cnt), .ref mw, .int (nI pr), .ref ma, .int (nI tol), .int (nI kn.toNat), .ref mc, .ref mf, .ref mr, .ref mt, .ref mar, .ref mbe, .ref mou])), (mr, .inl (gI g, 12, .inl (aN (ovA cnt sr fr)))), (mt, .inl (gI g, 12, .inl (aN (ovA cnt tg to_))))]) (wr := []) E h [0, 1, 2] [] [0, 1, 2] (va_runV (As := [.int (nI (grw sr tg pr k))]) (rest := []) E.1 (k_X4_defendedBy l g m0 mw ma mc mf mr mt mar mbe mou th cnt pr tol kn sr tg fr to_ (grw sr tg pr k) (by first | omega | assumption | exact srO_in | exact tgO_out hpc | exact srO_lt _ _ | exact tgO_lt _ _ | exact srO_lt _ | exact tgO_lt _ | exact pr12 hcnt hpc) (by first | omega | assumption | exact srO_in | exact tgO_out hpc | exact srO_lt _ _ | exact tgO_lt _ _ | exact srO_lt _ | exact tgO_lt _ | exact pr12 hcnt hpc) (by first | omega | assumption | exact srO_in | exact tgO_out hpc | exact srO_lt _ _ | exact tgO_lt _ _ | exact srO_lt _ | exact tgO_lt _ | exact pr12 hcnt hpc) (by first | omega | assumption | exact srO_in | exact tgO_out hpc | exact srO_lt _ _ | exact tgO_lt _ _ | exact srO_lt _ | exact tgO_lt _ | exact pr12 hcnt hpc) (by first | omega | assumption | exact srO_in | exact tgO_out hpc | exact srO_lt _ _ | exact tgO_lt _ _ | exact srO_lt _ | exact tgO_lt _ | exact pr12 hcnt hpc) (by first | omega | assumption | exact srO_in | exact tgO_out hpc | exact srO_lt _ _ | exact tgO_lt _ _ | exact srO_lt _ | exact tgO_lt _ | exact pr12 hcnt hpc) (by first | omega | assumption | exact srO_in | exact tgO_out hpc | exact srO_lt _ _ | exact tgO_lt _ _ | exact srO_lt _ | exact tgO_lt _ | exact pr12 hcnt hpc) _) c_1 (q_preV E h [0, 1, 2] rfl rfl (C := RX4) (T := TX4) (N := 14) 4 rfl 0 rfl) rfl rfl hl.1 rfl (lv_room (Nat.le_of_ble_eq_true rfl)) dX4_groundedBehind_11 ⟨Nat.zero_le _, Nat.zero_le _⟩) rfl rfl rfl (by decide) rfl (fun _ => rfl) (fun r2 _ H locs hr2 h => ?_)
        subst hr2
        refine lv_istore_n (lv' := [(2, .int (nI (gby sr tg pr (grw sr tg pr k)))), (0, .ref m0), (1, .int (nI q)), (3, .int (nI k))]) E.1.1 E.1.2.1 dX4_groundedBehind_14 rfl hl (by decide) rfl (fun ls hl => ?_)
        refine q_inc E (lv' := [(3, .int (nI (k + 1))), (2, .int (nI (gby sr tg pr (grw sr tg pr k)))), (0, .ref m0), (1, .int (nI q))]) hl dX4_groundedBehind_15 (k := 3) rfl (by decide) rfl (fun ls hl => ?_)
        refine q_go E (tgt := 4) dX4_groundedBehind_18 (by decide) ?_
        exact ih4  (k + 1) (by omega) (by omega) _ rfl _ _ h _ (lv_sub hl [2, 3, 1, 0] rfl)
  exact lp4 ((q - 0) + 1) 0 (Nat.lt_succ_self _) (by omega) _ rfl _ _ h _ (lv_sub hl [2, 3, 1, 0] rfl)
