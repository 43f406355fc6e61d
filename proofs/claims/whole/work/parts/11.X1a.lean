/-! Positions: judging, keeping -/
set_option maxHeartbeats 4000000 in
set_option maxRecDepth 100000 in
theorem k_X1_covered (l : Launch) (g : GK) (p0 hh tt : Nat) (la : Nat → Nat) (x : Nat) (hf : Nat → Nat) (hx : x < 4096) : CI (S := Unit) l g yX1_covered wsX1_covered { frames := 1, cells := 0, slots := 0, locals := 21 } [.ref p0, .int (nI x)] [(p0, .inr (1, [.ref (la 0), .ref (la 1), .ref (la 2), .ref (la 3), .ref (la 4), .ref (la 5), .ref (la 6), .ref (la 7), .ref hh, .ref tt])), (hh, .inl (gI g, 4096, .inl (aN hf)))] (fun r _ => r = nI (covH hf x)) (fun _ => [(p0, .inr (1, [.ref (la 0), .ref (la 1), .ref (la 2), .ref (la 3), .ref (la 4), .ref (la 5), .ref (la 6), .ref (la 7), .ref hh, .ref tt])), (hh, .inl (gI g, 4096, .inl (aN hf)))]) := by
  refine q_ofI (own := RX1) (by decide) rfl rfl (Nat.le_of_ble_eq_true rfl) n_int ?_
  intro p e s m below meth c A Q args E hmn h hend ls hl
  have hl : lv_has ls 2 [(0, .ref p0), (1, .int (nI x))] := hl
  have c_1 := E.1.2.2.2.2 (.fieldLink RX1 39 "DebateSolver$Positions" "hits" "[I") (by decide +kernel)
  have c_2 := (by decide +kernel : ∀ w ∈ wsX10, w ∈ wsX1_covered)
  have c_3 := (⟨va_cnB (R := { frames := 1, cells := 0, slots := 0, locals := 21 }) (rm := { frames := 0, cells := 0, slots := 0, locals := 0 }) (mc := 0) (ms := 0) 2 E.1.2.2.2.2 gX1_covered_X3_at_n92 rfl rfl rfl (E.2.1.2 (RX1, 92, yX3_at, RX3) (List.mem_of_getElem? (i := 4) rfl)) (E.1.2.2.2.2 (.initialized RX3) (by decide +kernel)) (by decide +kernel) ⟨Nat.le_of_ble_eq_true rfl, Nat.le_of_ble_eq_true rfl⟩, E.1.2.2.2.2 (.static yX3_at) (by decide +kernel), trivial⟩ : va_CN { frames := 1, cells := 0, slots := 0, locals := 21 } s args RX1 92 yX3_at RX3 cX3_at 2 (some .int) wsX3_at { frames := 0, cells := 0, slots := 0, locals := 0 } 0 0 2 ∧ _ ∧ True)
  refine lv_iload_n E.1.1 E.1.2.1 dX1_covered_0 rfl (lv_at hl 1 rfl) ?_
  refine lv_aload_n E.1.1 E.1.2.1 dX1_covered_1 rfl (lv_at hl 0 rfl) ?_
  refine q_get E h (C := RX1) (T := TX1) (N := 10) 1 rfl c_2 0 rfl 8 (by decide) c_1 (v := .ref hh) rfl dX1_covered_2 ?_
  refine lv_iload_n E.1.1 E.1.2.1 dX1_covered_5 rfl (lv_at hl 1 rfl) ?_
  refine q_ki (w2 := fun _ => [(p0, .inr (1, [.ref (la 0), .ref (la 1), .ref (la 2), .ref (la 3), .ref (la 4), .ref (la 5), .ref (la 6), .ref (la 7), .ref hh, .ref tt])), (hh, .inl (gI g, 4096, .inl (aN hf)))]) (wr := [(p0, .inr (1, [.ref (la 0), .ref (la 1), .ref (la 2), .ref (la 3), .ref (la 4), .ref (la 5), .ref (la 6), .ref (la 7), .ref hh, .ref tt]))]) E h [1] [0] [0, 1] (va_runSN (As := [.ref hh, .int (nI x)]) (rest := [.int (nI x)]) E.1 (k_X3_at l g hh 4096 x hf (by omega) (by omega) _) c_3 (q_preS E h [1] rfl rfl) rfl rfl hl.1 rfl (lv_room (Nat.le_of_ble_eq_true rfl)) dX1_covered_6 ⟨Nat.zero_le _, Nat.zero_le _⟩) rfl rfl rfl (by decide) rfl (fun _ => rfl) (fun r4 _ H locs hr4 h => ?_)
  subst hr4
  refine q_or E dX1_covered_9 ?_
  -- world at the end: [(p0, .inr (1, [.ref (la 0), .ref (la 1), .ref (la 2), .ref (la 3), .ref (la 4), .ref (la 5), .ref (la 6), .ref (la 7), .ref hh, .ref tt])), (hh, .inl (gI g, 4096, .inl (aN hf)))]
  exact hend _ _ _ _ _ () h dX1_covered_10 rfl

set_option maxHeartbeats 4000000 in
set_option maxRecDepth 100000 in
theorem k_X1_isProperPart (l : Launch) (g : GK) (x y : Nat) (hx : x < 4096) (hy : y < 4096) : CI (S := Unit) l g yX1_isProperPart wsX1_isProperPart { frames := 0, cells := 0, slots := 0, locals := 0 } [.int (nI x), .int (nI y)] [] (fun r _ => r = nI (prp x y).toNat) (fun _ => []) := by
  refine q_ofI (own := RX1) (by decide) rfl rfl (Nat.le_of_ble_eq_true rfl) (fun v u hp => by obtain rfl := hp; exact n_bool _) ?_
  intro p e s m below meth c A Q args E hmn h hend ls hl
  have hl : lv_has ls 2 [(0, .int (nI x)), (1, .int (nI y))] := hl
  refine lv_iload_n E.1.1 E.1.2.1 dX1_isProperPart_0 rfl (lv_at hl 0 rfl) ?_
  refine lv_iload_n E.1.1 E.1.2.1 dX1_isProperPart_1 rfl (lv_at hl 1 rfl) ?_
  refine q_eq E (tgt := 17) (by omega) (by omega) dX1_isProperPart_2 (by decide) (fun hb2 => ?_) (fun hb2 => ?_)
  · skip
    refine q_ic E 0 dX1_isProperPart_17 (by decide) ?_
    -- world at the end: []
    exact hend _ _ _ _ _ () h dX1_isProperPart_18 (by rw [show prp x y = false by unfold prp; rw [hb2]; simp]; rfl)
  · skip
    refine lv_iload_n E.1.1 E.1.2.1 dX1_isProperPart_5 rfl (lv_at hl 0 rfl) ?_
    refine lv_iload_n E.1.1 E.1.2.1 dX1_isProperPart_6 rfl (lv_at hl 1 rfl) ?_
    refine q_im1 E dX1_isProperPart_7 ?_
    refine q_xor E dX1_isProperPart_8 ?_
    refine q_andn E dX1_isProperPart_9 ?_
    refine q_ne0 E (tgt := 17) (by exact Nat.lt_trans (ldf12 hx) (by decide)) dX1_isProperPart_10 (by decide) (fun hb10 => ?_) (fun hb10 => ?_)
    · skip
      refine q_ic E 0 dX1_isProperPart_17 (by decide) ?_
      -- world at the end: []
      exact hend _ _ _ _ _ () h dX1_isProperPart_18 (by rw [show prp x y = false by unfold prp; rw [beq_false_of_ne hb10, Bool.and_false]]; rfl)
    · skip
      refine q_ic E 1 dX1_isProperPart_13 (by decide) ?_
      refine q_go E (tgt := 18) dX1_isProperPart_14 (by decide) ?_
      -- world at the end: []
      exact hend _ _ _ _ _ () h dX1_isProperPart_18 (by rw [show prp x y = true by unfold prp; rw [hb10, bne_iff_ne.mpr hb2]; rfl]; rfl)

set_option maxHeartbeats 4000000 in
set_option maxRecDepth 100000 in
theorem k_X1_keepLargest (l : Launch) (g : GK) (f0 fa t0 ta : Nat) (L : List Nat) (F G : Nat → Nat) (hL : L.length ≤ 4096) (hLe : ∀ k, gl L k < 4096) : CV (S := Unit) l g yX1_keepLargest wsX1_keepLargest { frames := 2, cells := 0, slots := 0, locals := 43 } [.ref f0, .ref t0] [(f0, .inr (2, [.ref fa, .int (nI L.length)])), (fa, .inl (gI g, 4096, .inl (aN (ovr L F)))), (t0, .inr (2, [.ref ta, .int (nI (([] : List Nat).length))])), (ta, .inl (gI g, 4096, .inl (aN (ovr ([] : List Nat) G))))] (fun _ => True) (fun _ => [(f0, .inr (2, [.ref fa, .int (nI L.length)])), (fa, .inl (gI g, 4096, .inl (aN (ovr L F)))), (t0, .inr (2, [.ref ta, .int (nI ((flt (lgst L) L).length))])), (ta, .inl (gI g, 4096, .inl (aN (ovr (flt (lgst L) L) G))))]) := by
  refine q_ofV (own := RX1) (by decide) rfl rfl (Nat.le_of_ble_eq_true rfl) ?_
  intro p e s m below meth c A Q args E hmn h hend ls hl
  have hl : lv_has ls 6 [(0, .ref f0), (1, .ref t0)] := hl
  have c_1 := cwV (R := { frames := 2, cells := 0, slots := 0, locals := 43 }) (rm := { frames := 0, cells := 0, slots := 0, locals := 0 }) (mc := 0) (ms := 0) 0 E.1.2.2.2.2 gX1_keepLargest_X2_size rfl rfl rfl (by decide +kernel) ⟨Nat.le_of_ble_eq_true rfl, Nat.le_of_ble_eq_true rfl⟩
  have c_3 := cwV (R := { frames := 2, cells := 0, slots := 0, locals := 43 }) (rm := { frames := 1, cells := 0, slots := 0, locals := 21 }) (mc := 0) (ms := 0) 1 E.1.2.2.2.2 gX1_keepLargest_X2_get rfl rfl rfl (by decide +kernel) ⟨Nat.le_of_ble_eq_true rfl, Nat.le_of_ble_eq_true rfl⟩
  have c_6 := cwV (R := { frames := 2, cells := 0, slots := 0, locals := 43 }) (rm := { frames := 1, cells := 0, slots := 0, locals := 22 }) (mc := 0) (ms := 0) 1 E.1.2.2.2.2 gX1_keepLargest_X2_add rfl rfl rfl (by decide +kernel) ⟨Nat.le_of_ble_eq_true rfl, Nat.le_of_ble_eq_true rfl⟩
  refine q_ic E 0 dX1_keepLargest_0 (by decide) ?_
  refine lv_istore_n (lv' := [(2, .int (nI 0)), (0, .ref f0), (1, .ref t0)]) E.1.1 E.1.2.1 dX1_keepLargest_1 rfl hl (by decide) rfl (fun ls hl => ?_)
  have lp2 : ∀ (fu : Nat) (k : Nat), L.length - k < fu → (k ≤ L.length) → ∀ (v2_t0_1 : Nat), v2_t0_1 = (kp (lgst L) L k).length → ∀ (w2_ta : Nat → Nat), w2_ta = ovr (kp (lgst L) L k) G → ∀ (H : Heap) (locs : List Loc), qH g A s [(f0, .inr (2, [.ref fa, .int (nI L.length)])), (fa, .inl (gI g, 4096, .inl (aN (ovr L F)))), (t0, .inr (2, [.ref ta, .int (nI v2_t0_1)])), (ta, .inl (gI g, 4096, .inl (aN w2_ta)))] H locs → ∀ ls : Array Slot, lv_has ls 6 [(0, .ref f0), (1, .ref t0), (2, .int (nI k))] → W p l e { frames := 2, cells := 0, slots := 0, locals := 43 } s m args below meth c H locs 0 0 Q (F0 m 2 ls []) := by
    intro fu
    induction fu with
    | zero => intro k hfu; exact absurd hfu (Nat.not_lt_zero _)
    | succ fu ih2 =>
      intro k hfu hk v2_t0_1 ev2_t0_1 w2_ta ew2_ta H locs h ls hl
      subst ev2_t0_1 ew2_ta
      have hq := kp_len (lgst L) L k
      have hL2 : L.length < 2147483648 := Nat.lt_of_le_of_lt hL (by decide)
      refine lv_iload_n E.1.1 E.1.2.1 dX1_keepLargest_2 rfl (lv_at hl 2 rfl) ?_
      refine lv_aload_n E.1.1 E.1.2.1 dX1_keepLargest_3 rfl (lv_at hl 0 rfl) ?_
      refine q_ki (w2 := fun _ => [(f0, .inr (2, [.ref fa, .int (nI L.length)])), (fa, .inl (gI g, 4096, .inl (aN (ovr L F)))), (t0, .inr (2, [.ref ta, .int (nI ((kp (lgst L) L k).length))])), (ta, .inl (gI g, 4096, .inl (aN (ovr (kp (lgst L) L k) G))))]) (wr := [(fa, .inl (gI g, 4096, .inl (aN (ovr L F)))), (t0, .inr (2, [.ref ta, .int (nI ((kp (lgst L) L k).length))])), (ta, .inl (gI g, 4096, .inl (aN (ovr (kp (lgst L) L k) G))))]) E h [0] [1, 2, 3] [3, 0, 1, 2] (va_runV (As := []) (rest := [.int (nI k)]) E.1 (k_X2_size l g f0 fa L.length  _) c_1 (q_preV E h [0] rfl rfl (C := RX2) (T := TX2) (N := 2) 2 rfl 0 rfl) rfl rfl hl.1 rfl (lv_room (Nat.le_of_ble_eq_true rfl)) dX1_keepLargest_4 ⟨Nat.zero_le _, Nat.zero_le _⟩) rfl rfl rfl (by decide) rfl (fun _ => rfl) (fun r2 _ H locs hr2 h => ?_)
      subst hr2
      refine q_ge E (tgt := 80) (by omega) (by omega) dX1_keepLargest_7 (by decide) (fun hb7 => ?_) (fun hb7 => ?_)
      · skip
        -- world at the end: [(f0, .inr (2, [.ref fa, .int (nI L.length)])), (fa, .inl (gI g, 4096, .inl (aN (ovr L F)))), (t0, .inr (2, [.ref ta, .int (nI ((kp (lgst L) L k).length))])), (ta, .inl (gI g, 4096, .inl (aN (ovr (kp (lgst L) L k) G))))]
        obtain rfl : k = L.length := by omega
        exact hend _ _ _ _ () h dX1_keepLargest_80 trivial
      · skip
        refine lv_aload_n E.1.1 E.1.2.1 dX1_keepLargest_10 rfl (lv_at hl 0 rfl) ?_
        refine lv_iload_n E.1.1 E.1.2.1 dX1_keepLargest_11 rfl (lv_at hl 2 rfl) ?_
        refine q_ki (w2 := fun _ => [(f0, .inr (2, [.ref fa, .int (nI L.length)])), (fa, .inl (gI g, 4096, .inl (aN (ovr L F)))), (t0, .inr (2, [.ref ta, .int (nI ((kp (lgst L) L k).length))])), (ta, .inl (gI g, 4096, .inl (aN (ovr (kp (lgst L) L k) G))))]) (wr := [(t0, .inr (2, [.ref ta, .int (nI ((kp (lgst L) L k).length))])), (ta, .inl (gI g, 4096, .inl (aN (ovr (kp (lgst L) L k) G))))]) E h [0, 1] [2, 3] [2, 3, 0, 1] (va_runV (As := [.int (nI k)]) (rest := []) E.1 (k_X2_get l g f0 fa L F k (by omega) (by omega) _) c_3 (q_preV E h [0, 1] rfl rfl (C := RX2) (T := TX2) (N := 2) 2 rfl 0 rfl) rfl rfl hl.1 rfl (lv_room (Nat.le_of_ble_eq_true rfl)) dX1_keepLargest_12 ⟨Nat.zero_le _, Nat.zero_le _⟩) rfl rfl rfl (by decide) rfl (fun _ => rfl) (fun r4 _ H locs hr4 h => ?_)
        subst hr4
        refine lv_istore_n (lv' := [(3, .int (nI (gl L k))), (0, .ref f0), (1, .ref t0), (2, .int (nI k))]) E.1.1 E.1.2.1 dX1_keepLargest_15 rfl hl (by decide) rfl (fun ls hl => ?_)
        refine q_ic E 1 dX1_keepLargest_16 (by decide) ?_
        refine lv_istore (lv' := [(4, .int (nI 1)), (3, .int (nI (gl L k))), (0, .ref f0), (1, .ref t0), (2, .int (nI k))]) E.1.1 E.1.2.1 dX1_keepLargest_17 hl (by decide) rfl (fun ls hl => ?_)
        refine lv_iload_n E.1.1 E.1.2.1 dX1_keepLargest_19 rfl (lv_at hl 4 rfl) ?_
        refine q_ic E 1 dX1_keepLargest_20 (by decide) ?_
        refine q_add E dX1_keepLargest_21 ?_
        refine lv_istore (lv' := [(5, .int (nI (k + 1))), (4, .int (nI 1)), (3, .int (nI (gl L k))), (0, .ref f0), (1, .ref t0), (2, .int (nI k))]) E.1.1 E.1.2.1 dX1_keepLargest_22 hl (by decide) rfl (fun ls hl => ?_)
        have lp24 : ∀ (fu : Nat) (t : Nat), L.length - t < fu → (k < t ∧ t ≤ L.length) → ∀ (y24_4 : Bool), y24_4 = allF (lgP L k) t → ∀ (H : Heap) (locs : List Loc), qH g A s [(f0, .inr (2, [.ref fa, .int (nI L.length)])), (fa, .inl (gI g, 4096, .inl (aN (ovr L F)))), (t0, .inr (2, [.ref ta, .int (nI ((kp (lgst L) L k).length))])), (ta, .inl (gI g, 4096, .inl (aN (ovr (kp (lgst L) L k) G))))] H locs → ∀ ls : Array Slot, lv_has ls 6 [(0, .ref f0), (1, .ref t0), (2, .int (nI k)), (3, .int (nI (gl L k))), (4, .int (nI y24_4.toNat)), (5, .int (nI t))] → W p l e { frames := 2, cells := 0, slots := 0, locals := 43 } s m args below meth c H locs 0 0 Q (F0 m 24 ls []) := by
          intro fu
          induction fu with
          | zero => intro t hfu; exact absurd hfu (Nat.not_lt_zero _)
          | succ fu ih24 =>
            intro t hfu ht y24_4 ey24_4 H locs h ls hl
            subst ey24_4
            refine lv_iload E.1.1 E.1.2.1 dX1_keepLargest_24 (lv_at hl 5 rfl) ?_
            refine lv_aload_n E.1.1 E.1.2.1 dX1_keepLargest_26 rfl (lv_at hl 0 rfl) ?_
            refine q_ki (w2 := fun _ => [(f0, .inr (2, [.ref fa, .int (nI L.length)])), (fa, .inl (gI g, 4096, .inl (aN (ovr L F)))), (t0, .inr (2, [.ref ta, .int (nI ((kp (lgst L) L k).length))])), (ta, .inl (gI g, 4096, .inl (aN (ovr (kp (lgst L) L k) G))))]) (wr := [(fa, .inl (gI g, 4096, .inl (aN (ovr L F)))), (t0, .inr (2, [.ref ta, .int (nI ((kp (lgst L) L k).length))])), (ta, .inl (gI g, 4096, .inl (aN (ovr (kp (lgst L) L k) G))))]) E h [0] [1, 2, 3] [3, 0, 1, 2] (va_runV (As := []) (rest := [.int (nI t)]) E.1 (k_X2_size l g f0 fa L.length  _) c_1 (q_preV E h [0] rfl rfl (C := RX2) (T := TX2) (N := 2) 2 rfl 0 rfl) rfl rfl hl.1 rfl (lv_room (Nat.le_of_ble_eq_true rfl)) dX1_keepLargest_27 ⟨Nat.zero_le _, Nat.zero_le _⟩) rfl rfl rfl (by decide) rfl (fun _ => rfl) (fun r5 _ H locs hr5 h => ?_)
            subst hr5
            refine q_ge E (tgt := 64) (by omega) (by omega) dX1_keepLargest_30 (by decide) (fun hb30 => ?_) (fun hb30 => ?_)
            · skip
              refine lv_iload E.1.1 E.1.2.1 dX1_keepLargest_64 (lv_at hl 4 rfl) ?_
              refine q_beq E (tgt := 74) dX1_keepLargest_66 (by decide) (fun hb66 => ?_) (fun hb66 => ?_)
              · skip
                have hlg : lgst L k = false := allF_false hb66 ht.2
                refine q_inc E (lv' := [(2, .int (nI (k + 1))), (0, .ref f0), (1, .ref t0), (3, .int (nI (gl L k))), (4, .int (nI (allF (lgP L k) t).toNat)), (5, .int (nI t))]) hl dX1_keepLargest_74 (k := 2) rfl (by decide) rfl (fun ls hl => ?_)
                refine q_go E (tgt := 2) dX1_keepLargest_77 (by decide) ?_
                exact ih2  (k + 1) (by omega) (by omega) _ (by first | exact congrArg List.length (kp_t hlg).symm | exact congrArg List.length (kp_f hlg).symm) _ (by first | exact congrArg (fun z => ovr z G) (kp_t hlg).symm | exact congrArg (fun z => ovr z G) (kp_f hlg).symm) _ _ h _ (lv_sub hl [1, 2, 0] rfl)
              · skip
                have hlg : lgst L k = true := by unfold lgst; rw [← show t = L.length by omega]; exact hb66
                skip
                refine lv_aload_n E.1.1 E.1.2.1 dX1_keepLargest_69 rfl (lv_at hl 1 rfl) ?_
                refine lv_iload_n E.1.1 E.1.2.1 dX1_keepLargest_70 rfl (lv_at hl 3 rfl) ?_
                refine q_kv (w2 := fun _ => [(f0, .inr (2, [.ref fa, .int (nI L.length)])), (fa, .inl (gI g, 4096, .inl (aN (ovr L F)))), (t0, .inr (2, [.ref ta, .int (nI (((kp (lgst L) L k) ++ [(gl L k)]).length))])), (ta, .inl (gI g, 4096, .inl (aN (ovr ((kp (lgst L) L k) ++ [(gl L k)]) G))))]) (wr := [(f0, .inr (2, [.ref fa, .int (nI L.length)])), (fa, .inl (gI g, 4096, .inl (aN (ovr L F))))]) E h [2, 3] [0, 1] [0, 1, 2, 3] (va_runV (As := [.int (nI (gl L k))]) (rest := []) E.1 (k_X2_add l g t0 ta (kp (lgst L) L k) G (gl L k) (by omega) _) c_6 (q_preV E h [2, 3] rfl rfl (C := RX2) (T := TX2) (N := 2) 2 rfl 2 rfl) rfl rfl hl.1 rfl (lv_room (Nat.le_of_ble_eq_true rfl)) dX1_keepLargest_71 ⟨Nat.zero_le _, Nat.zero_le _⟩) rfl rfl rfl (by decide) rfl (fun _ => rfl) (fun _ H locs _ h => ?_)
                refine q_inc E (lv' := [(2, .int (nI (k + 1))), (0, .ref f0), (1, .ref t0), (3, .int (nI (gl L k))), (4, .int (nI (allF (lgP L k) t).toNat)), (5, .int (nI t))]) hl dX1_keepLargest_74 (k := 2) rfl (by decide) rfl (fun ls hl => ?_)
                refine q_go E (tgt := 2) dX1_keepLargest_77 (by decide) ?_
                exact ih2  (k + 1) (by omega) (by omega) _ (by first | exact congrArg List.length (kp_t hlg).symm | exact congrArg List.length (kp_f hlg).symm) _ (by first | exact congrArg (fun z => ovr z G) (kp_t hlg).symm | exact congrArg (fun z => ovr z G) (kp_f hlg).symm) _ _ h _ (lv_sub hl [1, 2, 0] rfl)
            · skip
              refine lv_iload E.1.1 E.1.2.1 dX1_keepLargest_33 (lv_at hl 4 rfl) ?_
              refine q_beq E (tgt := 64) dX1_keepLargest_35 (by decide) (fun hb35 => ?_) (fun hb35 => ?_)
              · skip
                refine lv_iload E.1.1 E.1.2.1 dX1_keepLargest_64 (lv_at hl 4 rfl) ?_
                refine q_beq E (tgt := 74) dX1_keepLargest_66 (by decide) (fun hb66 => ?_) (fun hb66 => ?_)
                · skip
                  have hlg : lgst L k = false := allF_false hb66 ht.2
                  refine q_inc E (lv' := [(2, .int (nI (k + 1))), (0, .ref f0), (1, .ref t0), (3, .int (nI (gl L k))), (4, .int (nI (allF (lgP L k) t).toNat)), (5, .int (nI t))]) hl dX1_keepLargest_74 (k := 2) rfl (by decide) rfl (fun ls hl => ?_)
                  refine q_go E (tgt := 2) dX1_keepLargest_77 (by decide) ?_
                  exact ih2  (k + 1) (by omega) (by omega) _ (by first | exact congrArg List.length (kp_t hlg).symm | exact congrArg List.length (kp_f hlg).symm) _ (by first | exact congrArg (fun z => ovr z G) (kp_t hlg).symm | exact congrArg (fun z => ovr z G) (kp_f hlg).symm) _ _ h _ (lv_sub hl [1, 2, 0] rfl)
                · skip
                  exact absurd (hb66.symm.trans hb35) (by decide)
              · skip
                refine lv_iload_n E.1.1 E.1.2.1 dX1_keepLargest_38 rfl (lv_at hl 3 rfl) ?_
                refine lv_aload_n E.1.1 E.1.2.1 dX1_keepLargest_39 rfl (lv_at hl 0 rfl) ?_
                refine lv_iload E.1.1 E.1.2.1 dX1_keepLargest_40 (lv_at hl 5 rfl) ?_
                refine q_ki (w2 := fun _ => [(f0, .inr (2, [.ref fa, .int (nI L.length)])), (fa, .inl (gI g, 4096, .inl (aN (ovr L F)))), (t0, .inr (2, [.ref ta, .int (nI ((kp (lgst L) L k).length))])), (ta, .inl (gI g, 4096, .inl (aN (ovr (kp (lgst L) L k) G))))]) (wr := [(t0, .inr (2, [.ref ta, .int (nI ((kp (lgst L) L k).length))])), (ta, .inl (gI g, 4096, .inl (aN (ovr (kp (lgst L) L k) G))))]) E h [0, 1] [2, 3] [2, 3, 0, 1] (va_runV (As := [.int (nI t)]) (rest := [.int (nI (gl L k))]) E.1 (k_X2_get l g f0 fa L F t (by omega) (by omega) _) c_3 (q_preV E h [0, 1] rfl rfl (C := RX2) (T := TX2) (N := 2) 2 rfl 0 rfl) rfl rfl hl.1 rfl (lv_room (Nat.le_of_ble_eq_true rfl)) dX1_keepLargest_42 ⟨Nat.zero_le _, Nat.zero_le _⟩) rfl rfl rfl (by decide) rfl (fun _ => rfl) (fun r7 _ H locs hr7 h => ?_)
                subst hr7
                refine q_im1 E dX1_keepLargest_45 ?_
                refine q_xor E dX1_keepLargest_46 ?_
                refine q_andn E dX1_keepLargest_47 ?_
                refine q_eq0 E (tgt := 55) (by exact Nat.lt_trans (ldf12 (hLe k)) (by decide)) dX1_keepLargest_48 (by decide) (fun hb48 => ?_) (fun hb48 => ?_)
                · skip
                  refine q_ic E 0 dX1_keepLargest_55 (by decide) ?_
                  refine lv_istore (lv' := [(4, .int (nI 0)), (0, .ref f0), (1, .ref t0), (2, .int (nI k)), (3, .int (nI (gl L k))), (5, .int (nI t))]) E.1.1 E.1.2.1 dX1_keepLargest_56 hl (by decide) rfl (fun ls hl => ?_)
                  refine q_inc E (lv' := [(5, .int (nI (t + 1))), (4, .int (nI 0)), (0, .ref f0), (1, .ref t0), (2, .int (nI k)), (3, .int (nI (gl L k)))]) hl dX1_keepLargest_58 (k := 5) rfl (by decide) rfl (fun ls hl => ?_)
                  refine q_go E (tgt := 24) dX1_keepLargest_61 (by decide) ?_
                  exact ih24  (t + 1) (by omega) (by omega) false (by exact lgP_s hb35 ht.1 _ (by first | (rw [hb48]; rfl) | exact bne_iff_ne.mpr hb48)) _ _ h _ (lv_sub hl [2, 3, 4, 5, 1, 0] rfl)
                · skip
                  refine q_ic E 1 dX1_keepLargest_51 (by decide) ?_
                  refine q_go E (tgt := 56) dX1_keepLargest_52 (by decide) ?_
                  refine lv_istore (lv' := [(4, .int (nI 1)), (0, .ref f0), (1, .ref t0), (2, .int (nI k)), (3, .int (nI (gl L k))), (5, .int (nI t))]) E.1.1 E.1.2.1 dX1_keepLargest_56 hl (by decide) rfl (fun ls hl => ?_)
                  refine q_inc E (lv' := [(5, .int (nI (t + 1))), (4, .int (nI 1)), (0, .ref f0), (1, .ref t0), (2, .int (nI k)), (3, .int (nI (gl L k)))]) hl dX1_keepLargest_58 (k := 5) rfl (by decide) rfl (fun ls hl => ?_)
                  refine q_go E (tgt := 24) dX1_keepLargest_61 (by decide) ?_
                  exact ih24  (t + 1) (by omega) (by omega) true (by exact lgP_s hb35 ht.1 _ (by first | (rw [hb48]; rfl) | exact bne_iff_ne.mpr hb48)) _ _ h _ (lv_sub hl [2, 3, 4, 5, 1, 0] rfl)
        exact lp24 ((L.length - (k + 1)) + 1) (k + 1) (Nat.lt_succ_self _) (by omega) true (by exact (lgP_0 L k).symm) _ _ h _ (lv_sub hl [3, 4, 5, 2, 1, 0] rfl)
  exact lp2 ((L.length - 0) + 1) 0 (Nat.lt_succ_self _) (by omega) _ rfl _ rfl _ _ h _ (lv_sub hl [1, 2, 0] rfl)

set_option maxHeartbeats 4000000 in
set_option maxRecDepth 100000 in
theorem k_X1_keepWidest (l : Launch) (g : GK) (p0 hh tt : Nat) (la : Nat → Nat) (f0 fa t0 ta : Nat) (L : List Nat) (F G : Nat → Nat) (hf : Nat → Nat) (hL : L.length ≤ 4096) (hLe : ∀ k, gl L k < 4096) (hhf : ∀ k, hf k < 4096) : CV (S := Unit) l g yX1_keepWidest wsX1_keepWidest { frames := 2, cells := 0, slots := 0, locals := 43 } [.ref p0, .ref f0, .ref t0] [(p0, .inr (1, [.ref (la 0), .ref (la 1), .ref (la 2), .ref (la 3), .ref (la 4), .ref (la 5), .ref (la 6), .ref (la 7), .ref hh, .ref tt])), (hh, .inl (gI g, 4096, .inl (aN hf))), (f0, .inr (2, [.ref fa, .int (nI L.length)])), (fa, .inl (gI g, 4096, .inl (aN (ovr L F)))), (t0, .inr (2, [.ref ta, .int (nI (([] : List Nat).length))])), (ta, .inl (gI g, 4096, .inl (aN (ovr ([] : List Nat) G))))] (fun _ => True) (fun _ => [(p0, .inr (1, [.ref (la 0), .ref (la 1), .ref (la 2), .ref (la 3), .ref (la 4), .ref (la 5), .ref (la 6), .ref (la 7), .ref hh, .ref tt])), (hh, .inl (gI g, 4096, .inl (aN hf))), (f0, .inr (2, [.ref fa, .int (nI L.length)])), (fa, .inl (gI g, 4096, .inl (aN (ovr L F)))), (t0, .inr (2, [.ref ta, .int (nI ((lWid hf L).length))])), (ta, .inl (gI g, 4096, .inl (aN (ovr (lWid hf L) G))))]) := by
  refine q_ofV (own := RX1) (by decide) rfl rfl (Nat.le_of_ble_eq_true rfl) ?_
  intro p e s m below meth c A Q args E hmn h hend ls hl
  have hl : lv_has ls 7 [(0, .ref p0), (1, .ref f0), (2, .ref t0)] := hl
  have c_1 := cwV (R := { frames := 2, cells := 0, slots := 0, locals := 43 }) (rm := { frames := 0, cells := 0, slots := 0, locals := 0 }) (mc := 0) (ms := 0) 0 E.1.2.2.2.2 gX1_keepWidest_X2_size rfl rfl rfl (by decide +kernel) ⟨Nat.le_of_ble_eq_true rfl, Nat.le_of_ble_eq_true rfl⟩
  have c_3 := cwV (R := { frames := 2, cells := 0, slots := 0, locals := 43 }) (rm := { frames := 1, cells := 0, slots := 0, locals := 21 }) (mc := 0) (ms := 0) 1 E.1.2.2.2.2 gX1_keepWidest_X2_get rfl rfl rfl (by decide +kernel) ⟨Nat.le_of_ble_eq_true rfl, Nat.le_of_ble_eq_true rfl⟩
  have c_6 := cwV (R := { frames := 2, cells := 0, slots := 0, locals := 43 }) (rm := { frames := 1, cells := 0, slots := 0, locals := 22 }) (mc := 0) (ms := 0) 1 E.1.2.2.2.2 gX1_keepWidest_X2_add rfl rfl rfl (by decide +kernel) ⟨Nat.le_of_ble_eq_true rfl, Nat.le_of_ble_eq_true rfl⟩
  have c_7 := cwV (R := { frames := 2, cells := 0, slots := 0, locals := 43 }) (rm := { frames := 1, cells := 0, slots := 0, locals := 21 }) (mc := 0) (ms := 0) 1 E.1.2.2.2.2 gX1_keepWidest_X1_covered rfl rfl rfl (by decide +kernel) ⟨Nat.le_of_ble_eq_true rfl, Nat.le_of_ble_eq_true rfl⟩
  have c_11 := cwS (R := { frames := 2, cells := 0, slots := 0, locals := 43 }) (rm := { frames := 0, cells := 0, slots := 0, locals := 0 }) (mc := 0) (ms := 0) 2 E.1.2.2.2.2 gX1_keepWidest_X1_isProperPart rfl rfl rfl (by decide +kernel) ⟨Nat.le_of_ble_eq_true rfl, Nat.le_of_ble_eq_true rfl⟩
  refine q_ic E 0 dX1_keepWidest_0 (by decide) ?_
  refine lv_istore_n (lv' := [(3, .int (nI 0)), (0, .ref p0), (1, .ref f0), (2, .ref t0)]) E.1.1 E.1.2.1 dX1_keepWidest_1 rfl hl (by decide) rfl (fun ls hl => ?_)
  have lp2 : ∀ (fu : Nat) (k : Nat), L.length - k < fu → (k ≤ L.length) → ∀ (v2_t0_1 : Nat), v2_t0_1 = (kp (wdst hf L) L k).length → ∀ (w2_ta : Nat → Nat), w2_ta = ovr (kp (wdst hf L) L k) G → ∀ (H : Heap) (locs : List Loc), qH g A s [(p0, .inr (1, [.ref (la 0), .ref (la 1), .ref (la 2), .ref (la 3), .ref (la 4), .ref (la 5), .ref (la 6), .ref (la 7), .ref hh, .ref tt])), (hh, .inl (gI g, 4096, .inl (aN hf))), (f0, .inr (2, [.ref fa, .int (nI L.length)])), (fa, .inl (gI g, 4096, .inl (aN (ovr L F)))), (t0, .inr (2, [.ref ta, .int (nI v2_t0_1)])), (ta, .inl (gI g, 4096, .inl (aN w2_ta)))] H locs → ∀ ls : Array Slot, lv_has ls 7 [(0, .ref p0), (1, .ref f0), (2, .ref t0), (3, .int (nI k))] → W p l e { frames := 2, cells := 0, slots := 0, locals := 43 } s m args below meth c H locs 0 0 Q (F0 m 2 ls []) := by
    intro fu
    induction fu with
    | zero => intro k hfu; exact absurd hfu (Nat.not_lt_zero _)
    | succ fu ih2 =>
      intro k hfu hk v2_t0_1 ev2_t0_1 w2_ta ew2_ta H locs h ls hl
      subst ev2_t0_1 ew2_ta
      have hq := kp_len (wdst hf L) L k
      have hL2 : L.length < 2147483648 := Nat.lt_of_le_of_lt hL (by decide)
      refine lv_iload_n E.1.1 E.1.2.1 dX1_keepWidest_2 rfl (lv_at hl 3 rfl) ?_
      refine lv_aload_n E.1.1 E.1.2.1 dX1_keepWidest_3 rfl (lv_at hl 1 rfl) ?_
      refine q_ki (w2 := fun _ => [(p0, .inr (1, [.ref (la 0), .ref (la 1), .ref (la 2), .ref (la 3), .ref (la 4), .ref (la 5), .ref (la 6), .ref (la 7), .ref hh, .ref tt])), (hh, .inl (gI g, 4096, .inl (aN hf))), (f0, .inr (2, [.ref fa, .int (nI L.length)])), (fa, .inl (gI g, 4096, .inl (aN (ovr L F)))), (t0, .inr (2, [.ref ta, .int (nI ((kp (wdst hf L) L k).length))])), (ta, .inl (gI g, 4096, .inl (aN (ovr (kp (wdst hf L) L k) G))))]) (wr := [(p0, .inr (1, [.ref (la 0), .ref (la 1), .ref (la 2), .ref (la 3), .ref (la 4), .ref (la 5), .ref (la 6), .ref (la 7), .ref hh, .ref tt])), (hh, .inl (gI g, 4096, .inl (aN hf))), (fa, .inl (gI g, 4096, .inl (aN (ovr L F)))), (t0, .inr (2, [.ref ta, .int (nI ((kp (wdst hf L) L k).length))])), (ta, .inl (gI g, 4096, .inl (aN (ovr (kp (wdst hf L) L k) G))))]) E h [2] [0, 1, 3, 4, 5] [0, 1, 5, 2, 3, 4] (va_runV (As := []) (rest := [.int (nI k)]) E.1 (k_X2_size l g f0 fa L.length  _) c_1 (q_preV E h [2] rfl rfl (C := RX2) (T := TX2) (N := 2) 2 rfl 2 rfl) rfl rfl hl.1 rfl (lv_room (Nat.le_of_ble_eq_true rfl)) dX1_keepWidest_4 ⟨Nat.zero_le _, Nat.zero_le _⟩) rfl rfl rfl (by decide) rfl (fun _ => rfl) (fun r2 _ H locs hr2 h => ?_)
      subst hr2
      refine q_ge E (tgt := 89) (by omega) (by omega) dX1_keepWidest_7 (by decide) (fun hb7 => ?_) (fun hb7 => ?_)
      · skip
        -- world at the end: [(p0, .inr (1, [.ref (la 0), .ref (la 1), .ref (la 2), .ref (la 3), .ref (la 4), .ref (la 5), .ref (la 6), .ref (la 7), .ref hh, .ref tt])), (hh, .inl (gI g, 4096, .inl (aN hf))), (f0, .inr (2, [.ref fa, .int (nI L.length)])), (fa, .inl (gI g, 4096, .inl (aN (ovr L F)))), (t0, .inr (2, [.ref ta, .int (nI ((kp (wdst hf L) L k).length))])), (ta, .inl (gI g, 4096, .inl (aN (ovr (kp (wdst hf L) L k) G))))]
        obtain rfl : k = L.length := by omega
        exact hend _ _ _ _ () h dX1_keepWidest_89 trivial
      · skip
        refine lv_aload_n E.1.1 E.1.2.1 dX1_keepWidest_10 rfl (lv_at hl 1 rfl) ?_
        refine lv_iload_n E.1.1 E.1.2.1 dX1_keepWidest_11 rfl (lv_at hl 3 rfl) ?_
        refine q_ki (w2 := fun _ => [(p0, .inr (1, [.ref (la 0), .ref (la 1), .ref (la 2), .ref (la 3), .ref (la 4), .ref (la 5), .ref (la 6), .ref (la 7), .ref hh, .ref tt])), (hh, .inl (gI g, 4096, .inl (aN hf))), (f0, .inr (2, [.ref fa, .int (nI L.length)])), (fa, .inl (gI g, 4096, .inl (aN (ovr L F)))), (t0, .inr (2, [.ref ta, .int (nI ((kp (wdst hf L) L k).length))])), (ta, .inl (gI g, 4096, .inl (aN (ovr (kp (wdst hf L) L k) G))))]) (wr := [(p0, .inr (1, [.ref (la 0), .ref (la 1), .ref (la 2), .ref (la 3), .ref (la 4), .ref (la 5), .ref (la 6), .ref (la 7), .ref hh, .ref tt])), (hh, .inl (gI g, 4096, .inl (aN hf))), (t0, .inr (2, [.ref ta, .int (nI ((kp (wdst hf L) L k).length))])), (ta, .inl (gI g, 4096, .inl (aN (ovr (kp (wdst hf L) L k) G))))]) E h [2, 3] [0, 1, 4, 5] [0, 1, 4, 5, 2, 3] (va_runV (As := [.int (nI k)]) (rest := []) E.1 (k_X2_get l g f0 fa L F k (by omega) (by omega) _) c_3 (q_preV E h [2, 3] rfl rfl (C := RX2) (T := TX2) (N := 2) 2 rfl 2 rfl) rfl rfl hl.1 rfl (lv_room (Nat.le_of_ble_eq_true rfl)) dX1_keepWidest_12 ⟨Nat.zero_le _, Nat.zero_le _⟩) rfl rfl rfl (by decide) rfl (fun _ => rfl) (fun r4 _ H locs hr4 h => ?_)
        subst hr4
        refine lv_istore (lv' := [(4, .int (nI (gl L k))), (0, .ref p0), (1, .ref f0), (2, .ref t0), (3, .int (nI k))]) E.1.1 E.1.2.1 dX1_keepWidest_15 hl (by decide) rfl (fun ls hl => ?_)
        refine q_ic E 1 dX1_keepWidest_17 (by decide) ?_
        refine lv_istore (lv' := [(5, .int (nI 1)), (4, .int (nI (gl L k))), (0, .ref p0), (1, .ref f0), (2, .ref t0), (3, .int (nI k))]) E.1.1 E.1.2.1 dX1_keepWidest_18 hl (by decide) rfl (fun ls hl => ?_)
        refine q_ic E 0 dX1_keepWidest_20 (by decide) ?_
        refine lv_istore (lv' := [(6, .int (nI 0)), (5, .int (nI 1)), (4, .int (nI (gl L k))), (0, .ref p0), (1, .ref f0), (2, .ref t0), (3, .int (nI k))]) E.1.1 E.1.2.1 dX1_keepWidest_21 hl (by decide) rfl (fun ls hl => ?_)
        have lp23 : ∀ (fu : Nat) (t : Nat), L.length - t < fu → (t ≤ L.length) → ∀ (y23_5 : Bool), y23_5 = allF (wdP hf L k) t → ∀ (H : Heap) (locs : List Loc), qH g A s [(p0, .inr (1, [.ref (la 0), .ref (la 1), .ref (la 2), .ref (la 3), .ref (la 4), .ref (la 5), .ref (la 6), .ref (la 7), .ref hh, .ref tt])), (hh, .inl (gI g, 4096, .inl (aN hf))), (f0, .inr (2, [.ref fa, .int (nI L.length)])), (fa, .inl (gI g, 4096, .inl (aN (ovr L F)))), (t0, .inr (2, [.ref ta, .int (nI ((kp (wdst hf L) L k).length))])), (ta, .inl (gI g, 4096, .inl (aN (ovr (kp (wdst hf L) L k) G))))] H locs → ∀ ls : Array Slot, lv_has ls 7 [(0, .ref p0), (1, .ref f0), (2, .ref t0), (3, .int (nI k)), (4, .int (nI (gl L k))), (5, .int (nI y23_5.toNat)), (6, .int (nI t))] → W p l e { frames := 2, cells := 0, slots := 0, locals := 43 } s m args below meth c H locs 0 0 Q (F0 m 23 ls []) := by
          intro fu
          induction fu with
          | zero => intro t hfu; exact absurd hfu (Nat.not_lt_zero _)
          | succ fu ih23 =>
            intro t hfu ht y23_5 ey23_5 H locs h ls hl
            subst ey23_5
            refine lv_iload E.1.1 E.1.2.1 dX1_keepWidest_23 (lv_at hl 6 rfl) ?_
            refine lv_aload_n E.1.1 E.1.2.1 dX1_keepWidest_25 rfl (lv_at hl 1 rfl) ?_
            refine q_ki (w2 := fun _ => [(p0, .inr (1, [.ref (la 0), .ref (la 1), .ref (la 2), .ref (la 3), .ref (la 4), .ref (la 5), .ref (la 6), .ref (la 7), .ref hh, .ref tt])), (hh, .inl (gI g, 4096, .inl (aN hf))), (f0, .inr (2, [.ref fa, .int (nI L.length)])), (fa, .inl (gI g, 4096, .inl (aN (ovr L F)))), (t0, .inr (2, [.ref ta, .int (nI ((kp (wdst hf L) L k).length))])), (ta, .inl (gI g, 4096, .inl (aN (ovr (kp (wdst hf L) L k) G))))]) (wr := [(p0, .inr (1, [.ref (la 0), .ref (la 1), .ref (la 2), .ref (la 3), .ref (la 4), .ref (la 5), .ref (la 6), .ref (la 7), .ref hh, .ref tt])), (hh, .inl (gI g, 4096, .inl (aN hf))), (fa, .inl (gI g, 4096, .inl (aN (ovr L F)))), (t0, .inr (2, [.ref ta, .int (nI ((kp (wdst hf L) L k).length))])), (ta, .inl (gI g, 4096, .inl (aN (ovr (kp (wdst hf L) L k) G))))]) E h [2] [0, 1, 3, 4, 5] [0, 1, 5, 2, 3, 4] (va_runV (As := []) (rest := [.int (nI t)]) E.1 (k_X2_size l g f0 fa L.length  _) c_1 (q_preV E h [2] rfl rfl (C := RX2) (T := TX2) (N := 2) 2 rfl 2 rfl) rfl rfl hl.1 rfl (lv_room (Nat.le_of_ble_eq_true rfl)) dX1_keepWidest_26 ⟨Nat.zero_le _, Nat.zero_le _⟩) rfl rfl rfl (by decide) rfl (fun _ => rfl) (fun r5 _ H locs hr5 h => ?_)
            subst hr5
            refine q_ge E (tgt := 72) (by omega) (by omega) dX1_keepWidest_29 (by decide) (fun hb29 => ?_) (fun hb29 => ?_)
            · skip
              refine lv_iload E.1.1 E.1.2.1 dX1_keepWidest_72 (lv_at hl 5 rfl) ?_
              refine q_beq E (tgt := 83) dX1_keepWidest_74 (by decide) (fun hb74 => ?_) (fun hb74 => ?_)
              · skip
                have hlg : wdst hf L k = false := allF_false hb74 ht
                refine q_inc E (lv' := [(3, .int (nI (k + 1))), (0, .ref p0), (1, .ref f0), (2, .ref t0), (4, .int (nI (gl L k))), (5, .int (nI (allF (wdP hf L k) t).toNat)), (6, .int (nI t))]) hl dX1_keepWidest_83 (k := 3) rfl (by decide) rfl (fun ls hl => ?_)
                refine q_go E (tgt := 2) dX1_keepWidest_86 (by decide) ?_
                exact ih2  (k + 1) (by omega) (by omega) _ (by first | exact congrArg List.length (kp_t hlg).symm | exact congrArg List.length (kp_f hlg).symm) _ (by first | exact congrArg (fun z => ovr z G) (kp_t hlg).symm | exact congrArg (fun z => ovr z G) (kp_f hlg).symm) _ _ h _ (lv_sub hl [1, 2, 3, 0] rfl)
              · skip
                have hlg : wdst hf L k = true := by unfold wdst; rw [← show t = L.length by omega]; exact hb74
                skip
                refine lv_aload_n E.1.1 E.1.2.1 dX1_keepWidest_77 rfl (lv_at hl 2 rfl) ?_
                refine lv_iload E.1.1 E.1.2.1 dX1_keepWidest_78 (lv_at hl 4 rfl) ?_
                refine q_kv (w2 := fun _ => [(p0, .inr (1, [.ref (la 0), .ref (la 1), .ref (la 2), .ref (la 3), .ref (la 4), .ref (la 5), .ref (la 6), .ref (la 7), .ref hh, .ref tt])), (hh, .inl (gI g, 4096, .inl (aN hf))), (f0, .inr (2, [.ref fa, .int (nI L.length)])), (fa, .inl (gI g, 4096, .inl (aN (ovr L F)))), (t0, .inr (2, [.ref ta, .int (nI (((kp (wdst hf L) L k) ++ [(gl L k)]).length))])), (ta, .inl (gI g, 4096, .inl (aN (ovr ((kp (wdst hf L) L k) ++ [(gl L k)]) G))))]) (wr := [(p0, .inr (1, [.ref (la 0), .ref (la 1), .ref (la 2), .ref (la 3), .ref (la 4), .ref (la 5), .ref (la 6), .ref (la 7), .ref hh, .ref tt])), (hh, .inl (gI g, 4096, .inl (aN hf))), (f0, .inr (2, [.ref fa, .int (nI L.length)])), (fa, .inl (gI g, 4096, .inl (aN (ovr L F))))]) E h [4, 5] [0, 1, 2, 3] [0, 1, 2, 3, 4, 5] (va_runV (As := [.int (nI (gl L k))]) (rest := []) E.1 (k_X2_add l g t0 ta (kp (wdst hf L) L k) G (gl L k) (by omega) _) c_6 (q_preV E h [4, 5] rfl rfl (C := RX2) (T := TX2) (N := 2) 2 rfl 4 rfl) rfl rfl hl.1 rfl (lv_room (Nat.le_of_ble_eq_true rfl)) dX1_keepWidest_80 ⟨Nat.zero_le _, Nat.zero_le _⟩) rfl rfl rfl (by decide) rfl (fun _ => rfl) (fun _ H locs _ h => ?_)
                refine q_inc E (lv' := [(3, .int (nI (k + 1))), (0, .ref p0), (1, .ref f0), (2, .ref t0), (4, .int (nI (gl L k))), (5, .int (nI (allF (wdP hf L k) t).toNat)), (6, .int (nI t))]) hl dX1_keepWidest_83 (k := 3) rfl (by decide) rfl (fun ls hl => ?_)
                refine q_go E (tgt := 2) dX1_keepWidest_86 (by decide) ?_
                exact ih2  (k + 1) (by omega) (by omega) _ (by first | exact congrArg List.length (kp_t hlg).symm | exact congrArg List.length (kp_f hlg).symm) _ (by first | exact congrArg (fun z => ovr z G) (kp_t hlg).symm | exact congrArg (fun z => ovr z G) (kp_f hlg).symm) _ _ h _ (lv_sub hl [1, 2, 3, 0] rfl)
            · skip
              refine lv_iload E.1.1 E.1.2.1 dX1_keepWidest_32 (lv_at hl 5 rfl) ?_
              refine q_beq E (tgt := 72) dX1_keepWidest_34 (by decide) (fun hb34 => ?_) (fun hb34 => ?_)
              · skip
                refine lv_iload E.1.1 E.1.2.1 dX1_keepWidest_72 (lv_at hl 5 rfl) ?_
                refine q_beq E (tgt := 83) dX1_keepWidest_74 (by decide) (fun hb74 => ?_) (fun hb74 => ?_)
                · skip
                  have hlg : wdst hf L k = false := allF_false hb74 ht
                  refine q_inc E (lv' := [(3, .int (nI (k + 1))), (0, .ref p0), (1, .ref f0), (2, .ref t0), (4, .int (nI (gl L k))), (5, .int (nI (allF (wdP hf L k) t).toNat)), (6, .int (nI t))]) hl dX1_keepWidest_83 (k := 3) rfl (by decide) rfl (fun ls hl => ?_)
                  refine q_go E (tgt := 2) dX1_keepWidest_86 (by decide) ?_
                  exact ih2  (k + 1) (by omega) (by omega) _ (by first | exact congrArg List.length (kp_t hlg).symm | exact congrArg List.length (kp_f hlg).symm) _ (by first | exact congrArg (fun z => ovr z G) (kp_t hlg).symm | exact congrArg (fun z => ovr z G) (kp_f hlg).symm) _ _ h _ (lv_sub hl [1, 2, 3, 0] rfl)
                · skip
                  exact absurd (hb74.symm.trans hb34) (by decide)
              · skip
                refine lv_aload_n E.1.1 E.1.2.1 dX1_keepWidest_37 rfl (lv_at hl 0 rfl) ?_
                refine lv_iload E.1.1 E.1.2.1 dX1_keepWidest_38 (lv_at hl 4 rfl) ?_
                refine q_ki (w2 := fun _ => [(p0, .inr (1, [.ref (la 0), .ref (la 1), .ref (la 2), .ref (la 3), .ref (la 4), .ref (la 5), .ref (la 6), .ref (la 7), .ref hh, .ref tt])), (hh, .inl (gI g, 4096, .inl (aN hf))), (f0, .inr (2, [.ref fa, .int (nI L.length)])), (fa, .inl (gI g, 4096, .inl (aN (ovr L F)))), (t0, .inr (2, [.ref ta, .int (nI ((kp (wdst hf L) L k).length))])), (ta, .inl (gI g, 4096, .inl (aN (ovr (kp (wdst hf L) L k) G))))]) (wr := [(f0, .inr (2, [.ref fa, .int (nI L.length)])), (fa, .inl (gI g, 4096, .inl (aN (ovr L F)))), (t0, .inr (2, [.ref ta, .int (nI ((kp (wdst hf L) L k).length))])), (ta, .inl (gI g, 4096, .inl (aN (ovr (kp (wdst hf L) L k) G))))]) E h [0, 1] [2, 3, 4, 5] [4, 5, 0, 1, 2, 3] (va_runV (As := [.int (nI (gl L k))]) (rest := []) E.1 (k_X1_covered l g p0 hh tt la (gl L k) hf (by exact hLe _) _) c_7 (q_preV E h [0, 1] rfl rfl (C := RX1) (T := TX1) (N := 10) 1 rfl 0 rfl) rfl rfl hl.1 rfl (lv_room (Nat.le_of_ble_eq_true rfl)) dX1_keepWidest_40 ⟨Nat.zero_le _, Nat.zero_le _⟩) rfl rfl rfl (by decide) rfl (fun _ => rfl) (fun r8 _ H locs hr8 h => ?_)
                subst hr8
                refine lv_aload_n E.1.1 E.1.2.1 dX1_keepWidest_43 rfl (lv_at hl 0 rfl) ?_
                refine lv_aload_n E.1.1 E.1.2.1 dX1_keepWidest_44 rfl (lv_at hl 1 rfl) ?_
                refine lv_iload E.1.1 E.1.2.1 dX1_keepWidest_45 (lv_at hl 6 rfl) ?_
                refine q_ki (w2 := fun _ => [(p0, .inr (1, [.ref (la 0), .ref (la 1), .ref (la 2), .ref (la 3), .ref (la 4), .ref (la 5), .ref (la 6), .ref (la 7), .ref hh, .ref tt])), (hh, .inl (gI g, 4096, .inl (aN hf))), (f0, .inr (2, [.ref fa, .int (nI L.length)])), (fa, .inl (gI g, 4096, .inl (aN (ovr L F)))), (t0, .inr (2, [.ref ta, .int (nI ((kp (wdst hf L) L k).length))])), (ta, .inl (gI g, 4096, .inl (aN (ovr (kp (wdst hf L) L k) G))))]) (wr := [(p0, .inr (1, [.ref (la 0), .ref (la 1), .ref (la 2), .ref (la 3), .ref (la 4), .ref (la 5), .ref (la 6), .ref (la 7), .ref hh, .ref tt])), (hh, .inl (gI g, 4096, .inl (aN hf))), (t0, .inr (2, [.ref ta, .int (nI ((kp (wdst hf L) L k).length))])), (ta, .inl (gI g, 4096, .inl (aN (ovr (kp (wdst hf L) L k) G))))]) E h [2, 3] [0, 1, 4, 5] [0, 1, 4, 5, 2, 3] (va_runV (As := [.int (nI t)]) (rest := [.ref p0, .int (nI (covH hf (gl L k)))]) E.1 (k_X2_get l g f0 fa L F t (by omega) (by omega) _) c_3 (q_preV E h [2, 3] rfl rfl (C := RX2) (T := TX2) (N := 2) 2 rfl 2 rfl) rfl rfl hl.1 rfl (lv_room (Nat.le_of_ble_eq_true rfl)) dX1_keepWidest_47 ⟨Nat.zero_le _, Nat.zero_le _⟩) rfl rfl rfl (by decide) rfl (fun _ => rfl) (fun r9 _ H locs hr9 h => ?_)
                subst hr9
                refine q_ki (w2 := fun _ => [(p0, .inr (1, [.ref (la 0), .ref (la 1), .ref (la 2), .ref (la 3), .ref (la 4), .ref (la 5), .ref (la 6), .ref (la 7), .ref hh, .ref tt])), (hh, .inl (gI g, 4096, .inl (aN hf))), (f0, .inr (2, [.ref fa, .int (nI L.length)])), (fa, .inl (gI g, 4096, .inl (aN (ovr L F)))), (t0, .inr (2, [.ref ta, .int (nI ((kp (wdst hf L) L k).length))])), (ta, .inl (gI g, 4096, .inl (aN (ovr (kp (wdst hf L) L k) G))))]) (wr := [(f0, .inr (2, [.ref fa, .int (nI L.length)])), (fa, .inl (gI g, 4096, .inl (aN (ovr L F)))), (t0, .inr (2, [.ref ta, .int (nI ((kp (wdst hf L) L k).length))])), (ta, .inl (gI g, 4096, .inl (aN (ovr (kp (wdst hf L) L k) G))))]) E h [0, 1] [2, 3, 4, 5] [4, 5, 0, 1, 2, 3] (va_runV (As := [.int (nI (gl L t))]) (rest := [.int (nI (covH hf (gl L k)))]) E.1 (k_X1_covered l g p0 hh tt la (gl L t) hf (by exact hLe _) _) c_7 (q_preV E h [0, 1] rfl rfl (C := RX1) (T := TX1) (N := 10) 1 rfl 0 rfl) rfl rfl hl.1 rfl (lv_room (Nat.le_of_ble_eq_true rfl)) dX1_keepWidest_50 ⟨Nat.zero_le _, Nat.zero_le _⟩) rfl rfl rfl (by decide) rfl (fun _ => rfl) (fun r10 _ H locs hr10 h => ?_)
                subst hr10
                refine q_ki (w2 := fun _ => [(p0, .inr (1, [.ref (la 0), .ref (la 1), .ref (la 2), .ref (la 3), .ref (la 4), .ref (la 5), .ref (la 6), .ref (la 7), .ref hh, .ref tt])), (hh, .inl (gI g, 4096, .inl (aN hf))), (f0, .inr (2, [.ref fa, .int (nI L.length)])), (fa, .inl (gI g, 4096, .inl (aN (ovr L F)))), (t0, .inr (2, [.ref ta, .int (nI ((kp (wdst hf L) L k).length))])), (ta, .inl (gI g, 4096, .inl (aN (ovr (kp (wdst hf L) L k) G))))]) (wr := [(p0, .inr (1, [.ref (la 0), .ref (la 1), .ref (la 2), .ref (la 3), .ref (la 4), .ref (la 5), .ref (la 6), .ref (la 7), .ref hh, .ref tt])), (hh, .inl (gI g, 4096, .inl (aN hf))), (f0, .inr (2, [.ref fa, .int (nI L.length)])), (fa, .inl (gI g, 4096, .inl (aN (ovr L F)))), (t0, .inr (2, [.ref ta, .int (nI ((kp (wdst hf L) L k).length))])), (ta, .inl (gI g, 4096, .inl (aN (ovr (kp (wdst hf L) L k) G))))]) E h [] [0, 1, 2, 3, 4, 5] [0, 1, 2, 3, 4, 5] (va_runS (As := [.int (nI (covH hf (gl L k))), .int (nI (covH hf (gl L t)))]) (rest := []) E.1 (k_X1_isProperPart l g (covH hf (gl L k)) (covH hf (gl L t)) (by exact or12 (hLe _) (hhf _)) (by exact or12 (hLe _) (hhf _)) _) c_11 (q_preS E h [] rfl rfl) rfl rfl hl.1 rfl (lv_room (Nat.le_of_ble_eq_true rfl)) dX1_keepWidest_53 ⟨Nat.zero_le _, Nat.zero_le _⟩) rfl rfl rfl (by decide) rfl (fun _ => rfl) (fun r12 _ H locs hr12 h => ?_)
                subst hr12
                refine q_bne E (tgt := 63) dX1_keepWidest_56 (by decide) (fun hb56 => ?_) (fun hb56 => ?_)
                · skip
                  refine q_ic E 0 dX1_keepWidest_63 (by decide) ?_
                  refine lv_istore (lv' := [(5, .int (nI 0)), (0, .ref p0), (1, .ref f0), (2, .ref t0), (3, .int (nI k)), (4, .int (nI (gl L k))), (6, .int (nI t))]) E.1.1 E.1.2.1 dX1_keepWidest_64 hl (by decide) rfl (fun ls hl => ?_)
                  refine q_inc E (lv' := [(6, .int (nI (t + 1))), (5, .int (nI 0)), (0, .ref p0), (1, .ref f0), (2, .ref t0), (3, .int (nI k)), (4, .int (nI (gl L k)))]) hl dX1_keepWidest_66 (k := 6) rfl (by decide) rfl (fun ls hl => ?_)
                  refine q_go E (tgt := 23) dX1_keepWidest_69 (by decide) ?_
                  exact ih23  (t + 1) (by omega) (by omega) false (by exact wdP_s hb34 _ (by rw [hb56]; rfl)) _ _ h _ (lv_sub hl [2, 3, 4, 5, 6, 1, 0] rfl)
                · skip
                  refine q_ic E 1 dX1_keepWidest_59 (by decide) ?_
                  refine q_go E (tgt := 64) dX1_keepWidest_60 (by decide) ?_
                  refine lv_istore (lv' := [(5, .int (nI 1)), (0, .ref p0), (1, .ref f0), (2, .ref t0), (3, .int (nI k)), (4, .int (nI (gl L k))), (6, .int (nI t))]) E.1.1 E.1.2.1 dX1_keepWidest_64 hl (by decide) rfl (fun ls hl => ?_)
                  refine q_inc E (lv' := [(6, .int (nI (t + 1))), (5, .int (nI 1)), (0, .ref p0), (1, .ref f0), (2, .ref t0), (3, .int (nI k)), (4, .int (nI (gl L k)))]) hl dX1_keepWidest_66 (k := 6) rfl (by decide) rfl (fun ls hl => ?_)
                  refine q_go E (tgt := 23) dX1_keepWidest_69 (by decide) ?_
                  exact ih23  (t + 1) (by omega) (by omega) true (by exact wdP_s hb34 _ (by rw [hb56]; rfl)) _ _ h _ (lv_sub hl [2, 3, 4, 5, 6, 1, 0] rfl)
        exact lp23 ((L.length - 0) + 1) 0 (Nat.lt_succ_self _) (by omega) true rfl _ _ h _ (lv_sub hl [3, 4, 5, 6, 2, 1, 0] rfl)
  exact lp2 ((L.length - 0) + 1) 0 (Nat.lt_succ_self _) (by omega) _ rfl _ rfl _ _ h _ (lv_sub hl [1, 2, 3, 0] rfl)

set_option maxHeartbeats 4000000 in
set_option maxRecDepth 100000 in
theorem k_X1_judge (l : Launch) (g : GK) (p0 hh tt : Nat) (la : Nat → Nat) (aa : Nat → Nat) (L0 L3 L7 : List Nat) (G0 G3 G7 : Nat → Nat) (hf tf : Nat → Nat) (h0 h1 h2 pr sf : Nat) (sr : Nat → Nat) (n : Nat) (hn : n < 4096) (hpr : pr < 4096) (hsf : sf < 4096) (hsr : ∀ k, sr k < 4096) (hhf : ∀ k, hf k < 4096) (htf : ∀ k, tf k < 4096) (hl0 : L0.length < 4096) (hl3 : L3.length < 4096) (hl7 : L7.length < 4096) : CV (S := Unit) l g yX1_judge wsX1_judge { frames := 2, cells := 0, slots := 0, locals := 46 } [.ref p0, .ref h0, .int (nI n)] [(p0, .inr (1, [.ref (la 0), .ref (la 1), .ref (la 2), .ref (la 3), .ref (la 4), .ref (la 5), .ref (la 6), .ref (la 7), .ref hh, .ref tt])), (hh, .inl (gI g, 4096, .inl (aN hf))), (tt, .inl (gI g, 4096, .inl (aN tf))), (la 0, .inr (2, [.ref (aa 0), .int (nI ((L0).length))])), (aa 0, .inl (gI g, 4096, .inl (aN (ovr (L0) (G0))))), (la 3, .inr (2, [.ref (aa 3), .int (nI ((L3).length))])), (aa 3, .inl (gI g, 4096, .inl (aN (ovr (L3) (G3))))), (la 7, .inr (2, [.ref (aa 7), .int (nI ((L7).length))])), (aa 7, .inl (gI g, 4096, .inl (aN (ovr (L7) (G7))))), (h0, .inr (0, [.ref h1, .ref h2, .int (nI pr), .int (nI sf)])), (h1, .inl (gI g, 12, .inl (aN sr)))] (fun _ => True) (fun _ => [(p0, .inr (1, [.ref (la 0), .ref (la 1), .ref (la 2), .ref (la 3), .ref (la 4), .ref (la 5), .ref (la 6), .ref (la 7), .ref hh, .ref tt])), (hh, .inl (gI g, 4096, .inl (aN hf))), (tt, .inl (gI g, 4096, .inl (aN tf))), (la 0, .inr (2, [.ref (aa 0), .int (nI ((adl (jC sr pr hf tf n) L0 n).length))])), (aa 0, .inl (gI g, 4096, .inl (aN (ovr (adl (jC sr pr hf tf n) L0 n) G0)))), (la 3, .inr (2, [.ref (aa 3), .int (nI ((adl (jS pr hf n) L3 n).length))])), (aa 3, .inl (gI g, 4096, .inl (aN (ovr (adl (jS pr hf n) L3 n) G3)))), (la 7, .inr (2, [.ref (aa 7), .int (nI ((adl (jL pr sf hf tf n) L7 n).length))])), (aa 7, .inl (gI g, 4096, .inl (aN (ovr (adl (jL pr sf hf tf n) L7 n) G7)))), (h0, .inr (0, [.ref h1, .ref h2, .int (nI pr), .int (nI sf)])), (h1, .inl (gI g, 12, .inl (aN sr)))]) := by
  refine q_ofV (own := RX1) (by decide) rfl rfl (Nat.le_of_ble_eq_true rfl) ?_
  intro p e s m below meth c A Q args E hmn h hend ls hl
  have hl : lv_has ls 6 [(0, .ref p0), (1, .ref h0), (2, .int (nI n))] := hl
  have c_1 := cwV (R := { frames := 2, cells := 0, slots := 0, locals := 46 }) (rm := { frames := 0, cells := 0, slots := 0, locals := 0 }) (mc := 0) (ms := 0) 0 E.1.2.2.2.2 gX1_judge_X0_present rfl rfl rfl (by decide +kernel) ⟨Nat.le_of_ble_eq_true rfl, Nat.le_of_ble_eq_true rfl⟩
  have c_3 := E.1.2.2.2.2 (.fieldLink RX1 39 "DebateSolver$Positions" "hits" "[I") (by decide +kernel)
  have c_4 := (by decide +kernel : ∀ w ∈ wsX10, w ∈ wsX1_judge)
  have c_5 := (⟨va_cnB (R := { frames := 2, cells := 0, slots := 0, locals := 46 }) (rm := { frames := 0, cells := 0, slots := 0, locals := 0 }) (mc := 0) (ms := 0) 2 E.1.2.2.2.2 gX1_judge_X3_at_n92 rfl rfl rfl (E.2.1.2 (RX1, 92, yX3_at, RX3) (List.mem_of_getElem? (i := 4) rfl)) (E.1.2.2.2.2 (.initialized RX3) (by decide +kernel)) (by decide +kernel) ⟨Nat.le_of_ble_eq_true rfl, Nat.le_of_ble_eq_true rfl⟩, E.1.2.2.2.2 (.static yX3_at) (by decide +kernel), trivial⟩ : va_CN { frames := 2, cells := 0, slots := 0, locals := 46 } s args RX1 92 yX3_at RX3 cX3_at 2 (some .int) wsX3_at { frames := 0, cells := 0, slots := 0, locals := 0 } 0 0 2 ∧ _ ∧ True)
  have c_7 := E.1.2.2.2.2 (.fieldLink RX1 43 "DebateSolver$Positions" "threats" "[I") (by decide +kernel)
  have c_9 := cwV (R := { frames := 2, cells := 0, slots := 0, locals := 46 }) (rm := { frames := 0, cells := 0, slots := 0, locals := 0 }) (mc := 0) (ms := 0) 0 E.1.2.2.2.2 gX1_judge_X0_selfAttackers rfl rfl rfl (by decide +kernel) ⟨Nat.le_of_ble_eq_true rfl, Nat.le_of_ble_eq_true rfl⟩
  have c_11 := E.1.2.2.2.2 (.fieldLink RX1 36 "DebateSolver$Positions" "largestFree" "LDebateSolver$SetList;") (by decide +kernel)
  have c_12 := cwV (R := { frames := 2, cells := 0, slots := 0, locals := 46 }) (rm := { frames := 1, cells := 0, slots := 0, locals := 22 }) (mc := 0) (ms := 0) 1 E.1.2.2.2.2 gX1_judge_X2_add rfl rfl rfl (by decide +kernel) ⟨Nat.le_of_ble_eq_true rfl, Nat.le_of_ble_eq_true rfl⟩
  have c_13 := E.1.2.2.2.2 (.fieldLink RX1 24 "DebateSolver$Positions" "stable" "LDebateSolver$SetList;") (by decide +kernel)
  have c_15 := cwV (R := { frames := 2, cells := 0, slots := 0, locals := 46 }) (rm := { frames := 1, cells := 0, slots := 0, locals := 21 }) (mc := 0) (ms := 0) 2 E.1.2.2.2.2 gX1_judge_X0_safeIfHit rfl rfl rfl (by decide +kernel) ⟨Nat.le_of_ble_eq_true rfl, Nat.le_of_ble_eq_true rfl⟩
  have c_19 := E.1.2.2.2.2 (.fieldLink RX1 12 "DebateSolver$Positions" "complete" "LDebateSolver$SetList;") (by decide +kernel)
  refine lv_aload_n E.1.1 E.1.2.1 dX1_judge_0 rfl (lv_at hl 1 rfl) ?_
  refine q_ki (w2 := fun _ => [(p0, .inr (1, [.ref (la 0), .ref (la 1), .ref (la 2), .ref (la 3), .ref (la 4), .ref (la 5), .ref (la 6), .ref (la 7), .ref hh, .ref tt])), (hh, .inl (gI g, 4096, .inl (aN hf))), (tt, .inl (gI g, 4096, .inl (aN tf))), (la 0, .inr (2, [.ref (aa 0), .int (nI ((L0).length))])), (aa 0, .inl (gI g, 4096, .inl (aN (ovr (L0) (G0))))), (la 3, .inr (2, [.ref (aa 3), .int (nI ((L3).length))])), (aa 3, .inl (gI g, 4096, .inl (aN (ovr (L3) (G3))))), (la 7, .inr (2, [.ref (aa 7), .int (nI ((L7).length))])), (aa 7, .inl (gI g, 4096, .inl (aN (ovr (L7) (G7))))), (h0, .inr (0, [.ref h1, .ref h2, .int (nI pr), .int (nI sf)])), (h1, .inl (gI g, 12, .inl (aN sr)))]) (wr := [(p0, .inr (1, [.ref (la 0), .ref (la 1), .ref (la 2), .ref (la 3), .ref (la 4), .ref (la 5), .ref (la 6), .ref (la 7), .ref hh, .ref tt])), (hh, .inl (gI g, 4096, .inl (aN hf))), (tt, .inl (gI g, 4096, .inl (aN tf))), (la 0, .inr (2, [.ref (aa 0), .int (nI ((L0).length))])), (aa 0, .inl (gI g, 4096, .inl (aN (ovr (L0) (G0))))), (la 3, .inr (2, [.ref (aa 3), .int (nI ((L3).length))])), (aa 3, .inl (gI g, 4096, .inl (aN (ovr (L3) (G3))))), (la 7, .inr (2, [.ref (aa 7), .int (nI ((L7).length))])), (aa 7, .inl (gI g, 4096, .inl (aN (ovr (L7) (G7))))), (h1, .inl (gI g, 12, .inl (aN sr)))]) E h [9] [0, 1, 2, 3, 4, 5, 6, 7, 8, 10] [0, 1, 2, 3, 4, 5, 6, 7, 8, 10, 9] (va_runV (As := []) (rest := []) E.1 (k_X0_present l g h0 h1 h2 pr sf  _) c_1 (q_preV E h [9] rfl rfl (C := RX0) (T := TX0) (N := 4) 0 rfl 9 rfl) rfl rfl hl.1 rfl (lv_room (Nat.le_of_ble_eq_true rfl)) dX1_judge_1 ⟨Nat.zero_le _, Nat.zero_le _⟩) rfl rfl rfl (by decide) rfl (fun _ => rfl) (fun r2 _ H locs hr2 h => ?_)
  subst hr2
  have q1 : n ||| hf n < 4096 := or12 hn (hhf n)
  have q2 : n ||| hf n ||| tf n < 4096 := or12 q1 (htf n)
  have q3 : n ||| hf n ||| tf n ||| sf < 4096 := or12 q2 hsf
  have q4 := safe_lt sr (hf n) pr
  refine lv_istore_n (lv' := [(3, .int (nI pr)), (0, .ref p0), (1, .ref h0), (2, .int (nI n))]) E.1.1 E.1.2.1 dX1_judge_4 rfl hl (by decide) rfl (fun ls hl => ?_)
  refine lv_aload_n E.1.1 E.1.2.1 dX1_judge_5 rfl (lv_at hl 1 rfl) ?_
  refine q_get E h (C := RX1) (T := TX1) (N := 10) 1 rfl c_4 0 rfl 8 (by decide) c_3 (v := .ref hh) rfl dX1_judge_6 ?_
  refine lv_iload_n E.1.1 E.1.2.1 dX1_judge_9 rfl (lv_at hl 3 rfl) ?_
  refine q_ki (w2 := fun _ => [(p0, .inr (1, [.ref (la 0), .ref (la 1), .ref (la 2), .ref (la 3), .ref (la 4), .ref (la 5), .ref (la 6), .ref (la 7), .ref hh, .ref tt])), (hh, .inl (gI g, 4096, .inl (aN hf))), (tt, .inl (gI g, 4096, .inl (aN tf))), (la 0, .inr (2, [.ref (aa 0), .int (nI ((L0).length))])), (aa 0, .inl (gI g, 4096, .inl (aN (ovr (L0) (G0))))), (la 3, .inr (2, [.ref (aa 3), .int (nI ((L3).length))])), (aa 3, .inl (gI g, 4096, .inl (aN (ovr (L3) (G3))))), (la 7, .inr (2, [.ref (aa 7), .int (nI ((L7).length))])), (aa 7, .inl (gI g, 4096, .inl (aN (ovr (L7) (G7))))), (h0, .inr (0, [.ref h1, .ref h2, .int (nI pr), .int (nI sf)])), (h1, .inl (gI g, 12, .inl (aN sr)))]) (wr := [(p0, .inr (1, [.ref (la 0), .ref (la 1), .ref (la 2), .ref (la 3), .ref (la 4), .ref (la 5), .ref (la 6), .ref (la 7), .ref hh, .ref tt])), (tt, .inl (gI g, 4096, .inl (aN tf))), (la 0, .inr (2, [.ref (aa 0), .int (nI ((L0).length))])), (aa 0, .inl (gI g, 4096, .inl (aN (ovr (L0) (G0))))), (la 3, .inr (2, [.ref (aa 3), .int (nI ((L3).length))])), (aa 3, .inl (gI g, 4096, .inl (aN (ovr (L3) (G3))))), (la 7, .inr (2, [.ref (aa 7), .int (nI ((L7).length))])), (aa 7, .inl (gI g, 4096, .inl (aN (ovr (L7) (G7))))), (h0, .inr (0, [.ref h1, .ref h2, .int (nI pr), .int (nI sf)])), (h1, .inl (gI g, 12, .inl (aN sr)))]) E h [1] [0, 2, 3, 4, 5, 6, 7, 8, 9, 10] [0, 10, 1, 2, 3, 4, 5, 6, 7, 8, 9] (va_runSN (As := [.ref hh, .int (nI n)]) (rest := []) E.1 (k_X3_at l g hh 4096 n hf (by omega) (by omega) _) c_5 (q_preS E h [1] rfl rfl) rfl rfl hl.1 rfl (lv_room (Nat.le_of_ble_eq_true rfl)) dX1_judge_10 ⟨Nat.zero_le _, Nat.zero_le _⟩) rfl rfl rfl (by decide) rfl (fun _ => rfl) (fun r6 _ H locs hr6 h => ?_)
  subst hr6
  refine lv_istore (lv' := [(4, .int (nI (hf n))), (3, .int (nI pr)), (0, .ref p0), (1, .ref h0), (2, .int (nI n))]) E.1.1 E.1.2.1 dX1_judge_13 hl (by decide) rfl (fun ls hl => ?_)
  refine lv_aload_n E.1.1 E.1.2.1 dX1_judge_15 rfl (lv_at hl 2 rfl) ?_
  refine q_get E h (C := RX1) (T := TX1) (N := 10) 1 rfl c_4 0 rfl 9 (by decide) c_7 (v := .ref tt) rfl dX1_judge_16 ?_
  refine lv_iload_n E.1.1 E.1.2.1 dX1_judge_19 rfl (lv_at hl 4 rfl) ?_
  refine q_ki (w2 := fun _ => [(p0, .inr (1, [.ref (la 0), .ref (la 1), .ref (la 2), .ref (la 3), .ref (la 4), .ref (la 5), .ref (la 6), .ref (la 7), .ref hh, .ref tt])), (hh, .inl (gI g, 4096, .inl (aN hf))), (tt, .inl (gI g, 4096, .inl (aN tf))), (la 0, .inr (2, [.ref (aa 0), .int (nI ((L0).length))])), (aa 0, .inl (gI g, 4096, .inl (aN (ovr (L0) (G0))))), (la 3, .inr (2, [.ref (aa 3), .int (nI ((L3).length))])), (aa 3, .inl (gI g, 4096, .inl (aN (ovr (L3) (G3))))), (la 7, .inr (2, [.ref (aa 7), .int (nI ((L7).length))])), (aa 7, .inl (gI g, 4096, .inl (aN (ovr (L7) (G7))))), (h0, .inr (0, [.ref h1, .ref h2, .int (nI pr), .int (nI sf)])), (h1, .inl (gI g, 12, .inl (aN sr)))]) (wr := [(p0, .inr (1, [.ref (la 0), .ref (la 1), .ref (la 2), .ref (la 3), .ref (la 4), .ref (la 5), .ref (la 6), .ref (la 7), .ref hh, .ref tt])), (hh, .inl (gI g, 4096, .inl (aN hf))), (la 0, .inr (2, [.ref (aa 0), .int (nI ((L0).length))])), (aa 0, .inl (gI g, 4096, .inl (aN (ovr (L0) (G0))))), (la 3, .inr (2, [.ref (aa 3), .int (nI ((L3).length))])), (aa 3, .inl (gI g, 4096, .inl (aN (ovr (L3) (G3))))), (la 7, .inr (2, [.ref (aa 7), .int (nI ((L7).length))])), (aa 7, .inl (gI g, 4096, .inl (aN (ovr (L7) (G7))))), (h0, .inr (0, [.ref h1, .ref h2, .int (nI pr), .int (nI sf)])), (h1, .inl (gI g, 12, .inl (aN sr)))]) E h [2] [0, 1, 3, 4, 5, 6, 7, 8, 9, 10] [0, 1, 10, 2, 3, 4, 5, 6, 7, 8, 9] (va_runSN (As := [.ref tt, .int (nI n)]) (rest := []) E.1 (k_X3_at l g tt 4096 n tf (by omega) (by omega) _) c_5 (q_preS E h [2] rfl rfl) rfl rfl hl.1 rfl (lv_room (Nat.le_of_ble_eq_true rfl)) dX1_judge_20 ⟨Nat.zero_le _, Nat.zero_le _⟩) rfl rfl rfl (by decide) rfl (fun _ => rfl) (fun r8 _ H locs hr8 h => ?_)
  subst hr8
  refine lv_istore (lv' := [(5, .int (nI (tf n))), (4, .int (nI (hf n))), (3, .int (nI pr)), (0, .ref p0), (1, .ref h0), (2, .int (nI n))]) E.1.1 E.1.2.1 dX1_judge_23 hl (by decide) rfl (fun ls hl => ?_)
  refine lv_iload_n E.1.1 E.1.2.1 dX1_judge_25 rfl (lv_at hl 5 rfl) ?_
  refine lv_iload E.1.1 E.1.2.1 dX1_judge_26 (lv_at hl 1 rfl) ?_
  refine q_and E dX1_judge_28 ?_
  refine q_eq0 E (tgt := 33) (by exact andL31 (by omega)) dX1_judge_29 (by decide) (fun hb29 => ?_) (fun hb29 => ?_)
  · skip
    have hC : jC sr pr hf tf n = (ldf (tf n) (hf n) == 0 && safe sr (hf n) pr == n) := j_y hb29 _
    have hS : jS pr hf n = (n ||| hf n == pr) := j_y hb29 _
    have hL : jL pr sf hf tf n = (n ||| hf n ||| tf n ||| sf == pr) := j_y hb29 _
    refine lv_iload E.1.1 E.1.2.1 dX1_judge_33 (lv_at hl 0 rfl) ?_
    refine lv_iload E.1.1 E.1.2.1 dX1_judge_35 (lv_at hl 1 rfl) ?_
    refine q_im1 E dX1_judge_37 ?_
    refine q_xor E dX1_judge_38 ?_
    refine q_andn E dX1_judge_39 ?_
    refine q_ne0 E (tgt := 62) (by exact Nat.lt_trans (ldf12 (htf n)) (by decide)) dX1_judge_40 (by decide) (fun hb40 => ?_) (fun hb40 => ?_)
    · skip
      rw [beq_false_of_ne hb40, Bool.false_and] at hC
      refine lv_iload_n E.1.1 E.1.2.1 dX1_judge_62 rfl (lv_at hl 5 rfl) ?_
      refine lv_iload E.1.1 E.1.2.1 dX1_judge_63 (lv_at hl 1 rfl) ?_
      refine q_or E dX1_judge_65 ?_
      refine lv_iload_n E.1.1 E.1.2.1 dX1_judge_66 rfl (lv_at hl 2 rfl) ?_
      refine q_ne E (tgt := 78) (by omega) (by omega) dX1_judge_67 (by decide) (fun hb67 => ?_) (fun hb67 => ?_)
      · skip
        rw [beq_false_of_ne hb67] at hS
        refine lv_iload_n E.1.1 E.1.2.1 dX1_judge_78 rfl (lv_at hl 5 rfl) ?_
        refine lv_iload E.1.1 E.1.2.1 dX1_judge_79 (lv_at hl 1 rfl) ?_
        refine q_or E dX1_judge_81 ?_
        refine lv_iload E.1.1 E.1.2.1 dX1_judge_82 (lv_at hl 0 rfl) ?_
        refine q_or E dX1_judge_84 ?_
        refine lv_aload_n E.1.1 E.1.2.1 dX1_judge_85 rfl (lv_at hl 4 rfl) ?_
        refine q_ki (w2 := fun _ => [(p0, .inr (1, [.ref (la 0), .ref (la 1), .ref (la 2), .ref (la 3), .ref (la 4), .ref (la 5), .ref (la 6), .ref (la 7), .ref hh, .ref tt])), (hh, .inl (gI g, 4096, .inl (aN hf))), (tt, .inl (gI g, 4096, .inl (aN tf))), (la 0, .inr (2, [.ref (aa 0), .int (nI ((L0).length))])), (aa 0, .inl (gI g, 4096, .inl (aN (ovr (L0) (G0))))), (la 3, .inr (2, [.ref (aa 3), .int (nI ((L3).length))])), (aa 3, .inl (gI g, 4096, .inl (aN (ovr (L3) (G3))))), (la 7, .inr (2, [.ref (aa 7), .int (nI ((L7).length))])), (aa 7, .inl (gI g, 4096, .inl (aN (ovr (L7) (G7))))), (h0, .inr (0, [.ref h1, .ref h2, .int (nI pr), .int (nI sf)])), (h1, .inl (gI g, 12, .inl (aN sr)))]) (wr := [(p0, .inr (1, [.ref (la 0), .ref (la 1), .ref (la 2), .ref (la 3), .ref (la 4), .ref (la 5), .ref (la 6), .ref (la 7), .ref hh, .ref tt])), (hh, .inl (gI g, 4096, .inl (aN hf))), (tt, .inl (gI g, 4096, .inl (aN tf))), (la 0, .inr (2, [.ref (aa 0), .int (nI ((L0).length))])), (aa 0, .inl (gI g, 4096, .inl (aN (ovr (L0) (G0))))), (la 3, .inr (2, [.ref (aa 3), .int (nI ((L3).length))])), (aa 3, .inl (gI g, 4096, .inl (aN (ovr (L3) (G3))))), (la 7, .inr (2, [.ref (aa 7), .int (nI ((L7).length))])), (aa 7, .inl (gI g, 4096, .inl (aN (ovr (L7) (G7))))), (h1, .inl (gI g, 12, .inl (aN sr)))]) E h [9] [0, 1, 2, 3, 4, 5, 6, 7, 8, 10] [0, 1, 2, 3, 4, 5, 6, 7, 8, 10, 9] (va_runV (As := []) (rest := [.int (nI ((n ||| (hf n)) ||| (tf n)))]) E.1 (k_X0_selfAttackers l g h0 h1 h2 pr sf  _) c_9 (q_preV E h [9] rfl rfl (C := RX0) (T := TX0) (N := 4) 0 rfl 9 rfl) rfl rfl hl.1 rfl (lv_room (Nat.le_of_ble_eq_true rfl)) dX1_judge_86 ⟨Nat.zero_le _, Nat.zero_le _⟩) rfl rfl rfl (by decide) rfl (fun _ => rfl) (fun r10 _ H locs hr10 h => ?_)
        subst hr10
        refine q_or E dX1_judge_89 ?_
        refine lv_iload_n E.1.1 E.1.2.1 dX1_judge_90 rfl (lv_at hl 2 rfl) ?_
        refine q_ne E (tgt := 102) (by omega) (by omega) dX1_judge_91 (by decide) (fun hb91 => ?_) (fun hb91 => ?_)
        · skip
          rw [beq_false_of_ne hb91] at hL
          -- world at the end: [(p0, .inr (1, [.ref (la 0), .ref (la 1), .ref (la 2), .ref (la 3), .ref (la 4), .ref (la 5), .ref (la 6), .ref (la 7), .ref hh, .ref tt])), (hh, .inl (gI g, 4096, .inl (aN hf))), (tt, .inl (gI g, 4096, .inl (aN tf))), (la 0, .inr (2, [.ref (aa 0), .int (nI ((L0).length))])), (aa 0, .inl (gI g, 4096, .inl (aN (ovr (L0) (G0))))), (la 3, .inr (2, [.ref (aa 3), .int (nI ((L3).length))])), (aa 3, .inl (gI g, 4096, .inl (aN (ovr (L3) (G3))))), (la 7, .inr (2, [.ref (aa 7), .int (nI ((L7).length))])), (aa 7, .inl (gI g, 4096, .inl (aN (ovr (L7) (G7))))), (h0, .inr (0, [.ref h1, .ref h2, .int (nI pr), .int (nI sf)])), (h1, .inl (gI g, 12, .inl (aN sr)))]
          exact hend _ _ _ _ () (by rw [hC, hS, hL]; exact h) dX1_judge_102 trivial
        · skip
          rw [beq_iff_eq.mpr hb91] at hL
          refine lv_aload_n E.1.1 E.1.2.1 dX1_judge_94 rfl (lv_at hl 3 rfl) ?_
          refine q_get E h (C := RX1) (T := TX1) (N := 10) 1 rfl c_4 0 rfl 7 (by decide) c_11 (v := .ref (la 7)) rfl dX1_judge_95 ?_
          refine lv_iload_n E.1.1 E.1.2.1 dX1_judge_98 rfl (lv_at hl 5 rfl) ?_
          refine q_kv (w2 := fun _ => [(p0, .inr (1, [.ref (la 0), .ref (la 1), .ref (la 2), .ref (la 3), .ref (la 4), .ref (la 5), .ref (la 6), .ref (la 7), .ref hh, .ref tt])), (hh, .inl (gI g, 4096, .inl (aN hf))), (tt, .inl (gI g, 4096, .inl (aN tf))), (la 0, .inr (2, [.ref (aa 0), .int (nI ((L0).length))])), (aa 0, .inl (gI g, 4096, .inl (aN (ovr (L0) (G0))))), (la 3, .inr (2, [.ref (aa 3), .int (nI ((L3).length))])), (aa 3, .inl (gI g, 4096, .inl (aN (ovr (L3) (G3))))), ((la 7), .inr (2, [.ref (aa 7), .int (nI ((L7 ++ [n]).length))])), ((aa 7), .inl (gI g, 4096, .inl (aN (ovr (L7 ++ [n]) G7)))), (h0, .inr (0, [.ref h1, .ref h2, .int (nI pr), .int (nI sf)])), (h1, .inl (gI g, 12, .inl (aN sr)))]) (wr := [(p0, .inr (1, [.ref (la 0), .ref (la 1), .ref (la 2), .ref (la 3), .ref (la 4), .ref (la 5), .ref (la 6), .ref (la 7), .ref hh, .ref tt])), (hh, .inl (gI g, 4096, .inl (aN hf))), (tt, .inl (gI g, 4096, .inl (aN tf))), (la 0, .inr (2, [.ref (aa 0), .int (nI ((L0).length))])), (aa 0, .inl (gI g, 4096, .inl (aN (ovr (L0) (G0))))), (la 3, .inr (2, [.ref (aa 3), .int (nI ((L3).length))])), (aa 3, .inl (gI g, 4096, .inl (aN (ovr (L3) (G3))))), (h0, .inr (0, [.ref h1, .ref h2, .int (nI pr), .int (nI sf)])), (h1, .inl (gI g, 12, .inl (aN sr)))]) E h [7, 8] [0, 1, 2, 3, 4, 5, 6, 9, 10] [0, 1, 2, 3, 4, 5, 6, 9, 10, 7, 8] (va_runV (As := [.int (nI n)]) (rest := []) E.1 (k_X2_add l g (la 7) (aa 7) L7 G7 n (by omega) _) c_12 (q_preV E h [7, 8] rfl rfl (C := RX2) (T := TX2) (N := 2) 2 rfl 7 rfl) rfl rfl hl.1 rfl (lv_room (Nat.le_of_ble_eq_true rfl)) dX1_judge_99 ⟨Nat.zero_le _, Nat.zero_le _⟩) rfl rfl rfl (by decide) rfl (fun _ => rfl) (fun _ H locs _ h => ?_)
          -- world at the end: [(p0, .inr (1, [.ref (la 0), .ref (la 1), .ref (la 2), .ref (la 3), .ref (la 4), .ref (la 5), .ref (la 6), .ref (la 7), .ref hh, .ref tt])), (hh, .inl (gI g, 4096, .inl (aN hf))), (tt, .inl (gI g, 4096, .inl (aN tf))), (la 0, .inr (2, [.ref (aa 0), .int (nI ((L0).length))])), (aa 0, .inl (gI g, 4096, .inl (aN (ovr (L0) (G0))))), (la 3, .inr (2, [.ref (aa 3), .int (nI ((L3).length))])), (aa 3, .inl (gI g, 4096, .inl (aN (ovr (L3) (G3))))), ((la 7), .inr (2, [.ref (aa 7), .int (nI ((L7 ++ [n]).length))])), ((aa 7), .inl (gI g, 4096, .inl (aN (ovr (L7 ++ [n]) G7)))), (h0, .inr (0, [.ref h1, .ref h2, .int (nI pr), .int (nI sf)])), (h1, .inl (gI g, 12, .inl (aN sr)))]
          exact hend _ _ _ _ () (by rw [hC, hS, hL]; exact h) dX1_judge_102 trivial
      · skip
        rw [beq_iff_eq.mpr hb67] at hS
        refine lv_aload_n E.1.1 E.1.2.1 dX1_judge_70 rfl (lv_at hl 3 rfl) ?_
        refine q_get E h (C := RX1) (T := TX1) (N := 10) 1 rfl c_4 0 rfl 3 (by decide) c_13 (v := .ref (la 3)) rfl dX1_judge_71 ?_
        refine lv_iload_n E.1.1 E.1.2.1 dX1_judge_74 rfl (lv_at hl 5 rfl) ?_
        refine q_kv (w2 := fun _ => [(p0, .inr (1, [.ref (la 0), .ref (la 1), .ref (la 2), .ref (la 3), .ref (la 4), .ref (la 5), .ref (la 6), .ref (la 7), .ref hh, .ref tt])), (hh, .inl (gI g, 4096, .inl (aN hf))), (tt, .inl (gI g, 4096, .inl (aN tf))), (la 0, .inr (2, [.ref (aa 0), .int (nI ((L0).length))])), (aa 0, .inl (gI g, 4096, .inl (aN (ovr (L0) (G0))))), ((la 3), .inr (2, [.ref (aa 3), .int (nI ((L3 ++ [n]).length))])), ((aa 3), .inl (gI g, 4096, .inl (aN (ovr (L3 ++ [n]) G3)))), (la 7, .inr (2, [.ref (aa 7), .int (nI ((L7).length))])), (aa 7, .inl (gI g, 4096, .inl (aN (ovr (L7) (G7))))), (h0, .inr (0, [.ref h1, .ref h2, .int (nI pr), .int (nI sf)])), (h1, .inl (gI g, 12, .inl (aN sr)))]) (wr := [(p0, .inr (1, [.ref (la 0), .ref (la 1), .ref (la 2), .ref (la 3), .ref (la 4), .ref (la 5), .ref (la 6), .ref (la 7), .ref hh, .ref tt])), (hh, .inl (gI g, 4096, .inl (aN hf))), (tt, .inl (gI g, 4096, .inl (aN tf))), (la 0, .inr (2, [.ref (aa 0), .int (nI ((L0).length))])), (aa 0, .inl (gI g, 4096, .inl (aN (ovr (L0) (G0))))), (la 7, .inr (2, [.ref (aa 7), .int (nI ((L7).length))])), (aa 7, .inl (gI g, 4096, .inl (aN (ovr (L7) (G7))))), (h0, .inr (0, [.ref h1, .ref h2, .int (nI pr), .int (nI sf)])), (h1, .inl (gI g, 12, .inl (aN sr)))]) E h [5, 6] [0, 1, 2, 3, 4, 7, 8, 9, 10] [0, 1, 2, 3, 4, 9, 10, 5, 6, 7, 8] (va_runV (As := [.int (nI n)]) (rest := []) E.1 (k_X2_add l g (la 3) (aa 3) L3 G3 n (by omega) _) c_12 (q_preV E h [5, 6] rfl rfl (C := RX2) (T := TX2) (N := 2) 2 rfl 5 rfl) rfl rfl hl.1 rfl (lv_room (Nat.le_of_ble_eq_true rfl)) dX1_judge_75 ⟨Nat.zero_le _, Nat.zero_le _⟩) rfl rfl rfl (by decide) rfl (fun _ => rfl) (fun _ H locs _ h => ?_)
        refine lv_iload_n E.1.1 E.1.2.1 dX1_judge_78 rfl (lv_at hl 5 rfl) ?_
        refine lv_iload E.1.1 E.1.2.1 dX1_judge_79 (lv_at hl 1 rfl) ?_
        refine q_or E dX1_judge_81 ?_
        refine lv_iload E.1.1 E.1.2.1 dX1_judge_82 (lv_at hl 0 rfl) ?_
        refine q_or E dX1_judge_84 ?_
        refine lv_aload_n E.1.1 E.1.2.1 dX1_judge_85 rfl (lv_at hl 4 rfl) ?_
        refine q_ki (w2 := fun _ => [(p0, .inr (1, [.ref (la 0), .ref (la 1), .ref (la 2), .ref (la 3), .ref (la 4), .ref (la 5), .ref (la 6), .ref (la 7), .ref hh, .ref tt])), (hh, .inl (gI g, 4096, .inl (aN hf))), (tt, .inl (gI g, 4096, .inl (aN tf))), (la 0, .inr (2, [.ref (aa 0), .int (nI ((L0).length))])), (aa 0, .inl (gI g, 4096, .inl (aN (ovr (L0) (G0))))), ((la 3), .inr (2, [.ref (aa 3), .int (nI ((L3 ++ [n]).length))])), ((aa 3), .inl (gI g, 4096, .inl (aN (ovr (L3 ++ [n]) G3)))), (la 7, .inr (2, [.ref (aa 7), .int (nI ((L7).length))])), (aa 7, .inl (gI g, 4096, .inl (aN (ovr (L7) (G7))))), (h0, .inr (0, [.ref h1, .ref h2, .int (nI pr), .int (nI sf)])), (h1, .inl (gI g, 12, .inl (aN sr)))]) (wr := [(p0, .inr (1, [.ref (la 0), .ref (la 1), .ref (la 2), .ref (la 3), .ref (la 4), .ref (la 5), .ref (la 6), .ref (la 7), .ref hh, .ref tt])), (hh, .inl (gI g, 4096, .inl (aN hf))), (tt, .inl (gI g, 4096, .inl (aN tf))), (la 0, .inr (2, [.ref (aa 0), .int (nI ((L0).length))])), (aa 0, .inl (gI g, 4096, .inl (aN (ovr (L0) (G0))))), ((la 3), .inr (2, [.ref (aa 3), .int (nI ((L3 ++ [n]).length))])), ((aa 3), .inl (gI g, 4096, .inl (aN (ovr (L3 ++ [n]) G3)))), (la 7, .inr (2, [.ref (aa 7), .int (nI ((L7).length))])), (aa 7, .inl (gI g, 4096, .inl (aN (ovr (L7) (G7))))), (h1, .inl (gI g, 12, .inl (aN sr)))]) E h [9] [0, 1, 2, 3, 4, 5, 6, 7, 8, 10] [0, 1, 2, 3, 4, 5, 6, 7, 8, 10, 9] (va_runV (As := []) (rest := [.int (nI ((n ||| (hf n)) ||| (tf n)))]) E.1 (k_X0_selfAttackers l g h0 h1 h2 pr sf  _) c_9 (q_preV E h [9] rfl rfl (C := RX0) (T := TX0) (N := 4) 0 rfl 9 rfl) rfl rfl hl.1 rfl (lv_room (Nat.le_of_ble_eq_true rfl)) dX1_judge_86 ⟨Nat.zero_le _, Nat.zero_le _⟩) rfl rfl rfl (by decide) rfl (fun _ => rfl) (fun r14 _ H locs hr14 h => ?_)
        subst hr14
        refine q_or E dX1_judge_89 ?_
        refine lv_iload_n E.1.1 E.1.2.1 dX1_judge_90 rfl (lv_at hl 2 rfl) ?_
        refine q_ne E (tgt := 102) (by omega) (by omega) dX1_judge_91 (by decide) (fun hb91 => ?_) (fun hb91 => ?_)
        · skip
          rw [beq_false_of_ne hb91] at hL
          -- world at the end: [(p0, .inr (1, [.ref (la 0), .ref (la 1), .ref (la 2), .ref (la 3), .ref (la 4), .ref (la 5), .ref (la 6), .ref (la 7), .ref hh, .ref tt])), (hh, .inl (gI g, 4096, .inl (aN hf))), (tt, .inl (gI g, 4096, .inl (aN tf))), (la 0, .inr (2, [.ref (aa 0), .int (nI ((L0).length))])), (aa 0, .inl (gI g, 4096, .inl (aN (ovr (L0) (G0))))), ((la 3), .inr (2, [.ref (aa 3), .int (nI ((L3 ++ [n]).length))])), ((aa 3), .inl (gI g, 4096, .inl (aN (ovr (L3 ++ [n]) G3)))), (la 7, .inr (2, [.ref (aa 7), .int (nI ((L7).length))])), (aa 7, .inl (gI g, 4096, .inl (aN (ovr (L7) (G7))))), (h0, .inr (0, [.ref h1, .ref h2, .int (nI pr), .int (nI sf)])), (h1, .inl (gI g, 12, .inl (aN sr)))]
          exact hend _ _ _ _ () (by rw [hC, hS, hL]; exact h) dX1_judge_102 trivial
        · skip
          rw [beq_iff_eq.mpr hb91] at hL
          refine lv_aload_n E.1.1 E.1.2.1 dX1_judge_94 rfl (lv_at hl 3 rfl) ?_
          refine q_get E h (C := RX1) (T := TX1) (N := 10) 1 rfl c_4 0 rfl 7 (by decide) c_11 (v := .ref (la 7)) rfl dX1_judge_95 ?_
          refine lv_iload_n E.1.1 E.1.2.1 dX1_judge_98 rfl (lv_at hl 5 rfl) ?_
          refine q_kv (w2 := fun _ => [(p0, .inr (1, [.ref (la 0), .ref (la 1), .ref (la 2), .ref (la 3), .ref (la 4), .ref (la 5), .ref (la 6), .ref (la 7), .ref hh, .ref tt])), (hh, .inl (gI g, 4096, .inl (aN hf))), (tt, .inl (gI g, 4096, .inl (aN tf))), (la 0, .inr (2, [.ref (aa 0), .int (nI ((L0).length))])), (aa 0, .inl (gI g, 4096, .inl (aN (ovr (L0) (G0))))), ((la 3), .inr (2, [.ref (aa 3), .int (nI ((L3 ++ [n]).length))])), ((aa 3), .inl (gI g, 4096, .inl (aN (ovr (L3 ++ [n]) G3)))), ((la 7), .inr (2, [.ref (aa 7), .int (nI ((L7 ++ [n]).length))])), ((aa 7), .inl (gI g, 4096, .inl (aN (ovr (L7 ++ [n]) G7)))), (h0, .inr (0, [.ref h1, .ref h2, .int (nI pr), .int (nI sf)])), (h1, .inl (gI g, 12, .inl (aN sr)))]) (wr := [(p0, .inr (1, [.ref (la 0), .ref (la 1), .ref (la 2), .ref (la 3), .ref (la 4), .ref (la 5), .ref (la 6), .ref (la 7), .ref hh, .ref tt])), (hh, .inl (gI g, 4096, .inl (aN hf))), (tt, .inl (gI g, 4096, .inl (aN tf))), (la 0, .inr (2, [.ref (aa 0), .int (nI ((L0).length))])), (aa 0, .inl (gI g, 4096, .inl (aN (ovr (L0) (G0))))), ((la 3), .inr (2, [.ref (aa 3), .int (nI ((L3 ++ [n]).length))])), ((aa 3), .inl (gI g, 4096, .inl (aN (ovr (L3 ++ [n]) G3)))), (h0, .inr (0, [.ref h1, .ref h2, .int (nI pr), .int (nI sf)])), (h1, .inl (gI g, 12, .inl (aN sr)))]) E h [7, 8] [0, 1, 2, 3, 4, 5, 6, 9, 10] [0, 1, 2, 3, 4, 5, 6, 9, 10, 7, 8] (va_runV (As := [.int (nI n)]) (rest := []) E.1 (k_X2_add l g (la 7) (aa 7) L7 G7 n (by omega) _) c_12 (q_preV E h [7, 8] rfl rfl (C := RX2) (T := TX2) (N := 2) 2 rfl 7 rfl) rfl rfl hl.1 rfl (lv_room (Nat.le_of_ble_eq_true rfl)) dX1_judge_99 ⟨Nat.zero_le _, Nat.zero_le _⟩) rfl rfl rfl (by decide) rfl (fun _ => rfl) (fun _ H locs _ h => ?_)
          -- world at the end: [(p0, .inr (1, [.ref (la 0), .ref (la 1), .ref (la 2), .ref (la 3), .ref (la 4), .ref (la 5), .ref (la 6), .ref (la 7), .ref hh, .ref tt])), (hh, .inl (gI g, 4096, .inl (aN hf))), (tt, .inl (gI g, 4096, .inl (aN tf))), (la 0, .inr (2, [.ref (aa 0), .int (nI ((L0).length))])), (aa 0, .inl (gI g, 4096, .inl (aN (ovr (L0) (G0))))), ((la 3), .inr (2, [.ref (aa 3), .int (nI ((L3 ++ [n]).length))])), ((aa 3), .inl (gI g, 4096, .inl (aN (ovr (L3 ++ [n]) G3)))), ((la 7), .inr (2, [.ref (aa 7), .int (nI ((L7 ++ [n]).length))])), ((aa 7), .inl (gI g, 4096, .inl (aN (ovr (L7 ++ [n]) G7)))), (h0, .inr (0, [.ref h1, .ref h2, .int (nI pr), .int (nI sf)])), (h1, .inl (gI g, 12, .inl (aN sr)))]
          exact hend _ _ _ _ () (by rw [hC, hS, hL]; exact h) dX1_judge_102 trivial
    · skip
      refine lv_aload_n E.1.1 E.1.2.1 dX1_judge_43 rfl (lv_at hl 4 rfl) ?_
      refine lv_iload E.1.1 E.1.2.1 dX1_judge_44 (lv_at hl 1 rfl) ?_
      refine lv_iload_n E.1.1 E.1.2.1 dX1_judge_46 rfl (lv_at hl 2 rfl) ?_
      refine q_ki (w2 := fun _ => [(p0, .inr (1, [.ref (la 0), .ref (la 1), .ref (la 2), .ref (la 3), .ref (la 4), .ref (la 5), .ref (la 6), .ref (la 7), .ref hh, .ref tt])), (hh, .inl (gI g, 4096, .inl (aN hf))), (tt, .inl (gI g, 4096, .inl (aN tf))), (la 0, .inr (2, [.ref (aa 0), .int (nI ((L0).length))])), (aa 0, .inl (gI g, 4096, .inl (aN (ovr (L0) (G0))))), (la 3, .inr (2, [.ref (aa 3), .int (nI ((L3).length))])), (aa 3, .inl (gI g, 4096, .inl (aN (ovr (L3) (G3))))), (la 7, .inr (2, [.ref (aa 7), .int (nI ((L7).length))])), (aa 7, .inl (gI g, 4096, .inl (aN (ovr (L7) (G7))))), (h0, .inr (0, [.ref h1, .ref h2, .int (nI pr), .int (nI sf)])), (h1, .inl (gI g, 12, .inl (aN sr)))]) (wr := [(p0, .inr (1, [.ref (la 0), .ref (la 1), .ref (la 2), .ref (la 3), .ref (la 4), .ref (la 5), .ref (la 6), .ref (la 7), .ref hh, .ref tt])), (hh, .inl (gI g, 4096, .inl (aN hf))), (tt, .inl (gI g, 4096, .inl (aN tf))), (la 0, .inr (2, [.ref (aa 0), .int (nI ((L0).length))])), (aa 0, .inl (gI g, 4096, .inl (aN (ovr (L0) (G0))))), (la 3, .inr (2, [.ref (aa 3), .int (nI ((L3).length))])), (aa 3, .inl (gI g, 4096, .inl (aN (ovr (L3) (G3))))), (la 7, .inr (2, [.ref (aa 7), .int (nI ((L7).length))])), (aa 7, .inl (gI g, 4096, .inl (aN (ovr (L7) (G7)))))]) E h [9, 10] [0, 1, 2, 3, 4, 5, 6, 7, 8] [0, 1, 2, 3, 4, 5, 6, 7, 8, 9, 10] (va_runV (As := [.int (nI (hf n)), .int (nI pr)]) (rest := []) E.1 (k_X0_safeIfHit l g h0 h1 h2 pr sf (hf n) pr sr (by omega) (by omega) _) c_15 (q_preV E h [9, 10] rfl rfl (C := RX0) (T := TX0) (N := 4) 0 rfl 9 rfl) rfl rfl hl.1 rfl (lv_room (Nat.le_of_ble_eq_true rfl)) dX1_judge_47 ⟨Nat.zero_le _, Nat.zero_le _⟩) rfl rfl rfl (by decide) rfl (fun _ => rfl) (fun r16 _ H locs hr16 h => ?_)
      subst hr16
      refine lv_iload_n E.1.1 E.1.2.1 dX1_judge_50 rfl (lv_at hl 5 rfl) ?_
      refine q_ne E (tgt := 62) (by omega) (by omega) dX1_judge_51 (by decide) (fun hb51 => ?_) (fun hb51 => ?_)
      · skip
        rw [beq_false_of_ne hb51, Bool.and_false] at hC
        refine lv_iload_n E.1.1 E.1.2.1 dX1_judge_62 rfl (lv_at hl 5 rfl) ?_
        refine lv_iload E.1.1 E.1.2.1 dX1_judge_63 (lv_at hl 1 rfl) ?_
        refine q_or E dX1_judge_65 ?_
        refine lv_iload_n E.1.1 E.1.2.1 dX1_judge_66 rfl (lv_at hl 2 rfl) ?_
        refine q_ne E (tgt := 78) (by omega) (by omega) dX1_judge_67 (by decide) (fun hb67 => ?_) (fun hb67 => ?_)
        · skip
          rw [beq_false_of_ne hb67] at hS
          refine lv_iload_n E.1.1 E.1.2.1 dX1_judge_78 rfl (lv_at hl 5 rfl) ?_
          refine lv_iload E.1.1 E.1.2.1 dX1_judge_79 (lv_at hl 1 rfl) ?_
          refine q_or E dX1_judge_81 ?_
          refine lv_iload E.1.1 E.1.2.1 dX1_judge_82 (lv_at hl 0 rfl) ?_
          refine q_or E dX1_judge_84 ?_
          refine lv_aload_n E.1.1 E.1.2.1 dX1_judge_85 rfl (lv_at hl 4 rfl) ?_
          refine q_ki (w2 := fun _ => [(p0, .inr (1, [.ref (la 0), .ref (la 1), .ref (la 2), .ref (la 3), .ref (la 4), .ref (la 5), .ref (la 6), .ref (la 7), .ref hh, .ref tt])), (hh, .inl (gI g, 4096, .inl (aN hf))), (tt, .inl (gI g, 4096, .inl (aN tf))), (la 0, .inr (2, [.ref (aa 0), .int (nI ((L0).length))])), (aa 0, .inl (gI g, 4096, .inl (aN (ovr (L0) (G0))))), (la 3, .inr (2, [.ref (aa 3), .int (nI ((L3).length))])), (aa 3, .inl (gI g, 4096, .inl (aN (ovr (L3) (G3))))), (la 7, .inr (2, [.ref (aa 7), .int (nI ((L7).length))])), (aa 7, .inl (gI g, 4096, .inl (aN (ovr (L7) (G7))))), (h0, .inr (0, [.ref h1, .ref h2, .int (nI pr), .int (nI sf)])), (h1, .inl (gI g, 12, .inl (aN sr)))]) (wr := [(p0, .inr (1, [.ref (la 0), .ref (la 1), .ref (la 2), .ref (la 3), .ref (la 4), .ref (la 5), .ref (la 6), .ref (la 7), .ref hh, .ref tt])), (hh, .inl (gI g, 4096, .inl (aN hf))), (tt, .inl (gI g, 4096, .inl (aN tf))), (la 0, .inr (2, [.ref (aa 0), .int (nI ((L0).length))])), (aa 0, .inl (gI g, 4096, .inl (aN (ovr (L0) (G0))))), (la 3, .inr (2, [.ref (aa 3), .int (nI ((L3).length))])), (aa 3, .inl (gI g, 4096, .inl (aN (ovr (L3) (G3))))), (la 7, .inr (2, [.ref (aa 7), .int (nI ((L7).length))])), (aa 7, .inl (gI g, 4096, .inl (aN (ovr (L7) (G7))))), (h1, .inl (gI g, 12, .inl (aN sr)))]) E h [9] [0, 1, 2, 3, 4, 5, 6, 7, 8, 10] [0, 1, 2, 3, 4, 5, 6, 7, 8, 10, 9] (va_runV (As := []) (rest := [.int (nI ((n ||| (hf n)) ||| (tf n)))]) E.1 (k_X0_selfAttackers l g h0 h1 h2 pr sf  _) c_9 (q_preV E h [9] rfl rfl (C := RX0) (T := TX0) (N := 4) 0 rfl 9 rfl) rfl rfl hl.1 rfl (lv_room (Nat.le_of_ble_eq_true rfl)) dX1_judge_86 ⟨Nat.zero_le _, Nat.zero_le _⟩) rfl rfl rfl (by decide) rfl (fun _ => rfl) (fun r17 _ H locs hr17 h => ?_)
          subst hr17
          refine q_or E dX1_judge_89 ?_
          refine lv_iload_n E.1.1 E.1.2.1 dX1_judge_90 rfl (lv_at hl 2 rfl) ?_
          refine q_ne E (tgt := 102) (by omega) (by omega) dX1_judge_91 (by decide) (fun hb91 => ?_) (fun hb91 => ?_)
          · skip
            rw [beq_false_of_ne hb91] at hL
            -- world at the end: [(p0, .inr (1, [.ref (la 0), .ref (la 1), .ref (la 2), .ref (la 3), .ref (la 4), .ref (la 5), .ref (la 6), .ref (la 7), .ref hh, .ref tt])), (hh, .inl (gI g, 4096, .inl (aN hf))), (tt, .inl (gI g, 4096, .inl (aN tf))), (la 0, .inr (2, [.ref (aa 0), .int (nI ((L0).length))])), (aa 0, .inl (gI g, 4096, .inl (aN (ovr (L0) (G0))))), (la 3, .inr (2, [.ref (aa 3), .int (nI ((L3).length))])), (aa 3, .inl (gI g, 4096, .inl (aN (ovr (L3) (G3))))), (la 7, .inr (2, [.ref (aa 7), .int (nI ((L7).length))])), (aa 7, .inl (gI g, 4096, .inl (aN (ovr (L7) (G7))))), (h0, .inr (0, [.ref h1, .ref h2, .int (nI pr), .int (nI sf)])), (h1, .inl (gI g, 12, .inl (aN sr)))]
            exact hend _ _ _ _ () (by rw [hC, hS, hL]; exact h) dX1_judge_102 trivial
          · skip
            rw [beq_iff_eq.mpr hb91] at hL
            refine lv_aload_n E.1.1 E.1.2.1 dX1_judge_94 rfl (lv_at hl 3 rfl) ?_
            refine q_get E h (C := RX1) (T := TX1) (N := 10) 1 rfl c_4 0 rfl 7 (by decide) c_11 (v := .ref (la 7)) rfl dX1_judge_95 ?_
            refine lv_iload_n E.1.1 E.1.2.1 dX1_judge_98 rfl (lv_at hl 5 rfl) ?_
            refine q_kv (w2 := fun _ => [(p0, .inr (1, [.ref (la 0), .ref (la 1), .ref (la 2), .ref (la 3), .ref (la 4), .ref (la 5), .ref (la 6), .ref (la 7), .ref hh, .ref tt])), (hh, .inl (gI g, 4096, .inl (aN hf))), (tt, .inl (gI g, 4096, .inl (aN tf))), (la 0, .inr (2, [.ref (aa 0), .int (nI ((L0).length))])), (aa 0, .inl (gI g, 4096, .inl (aN (ovr (L0) (G0))))), (la 3, .inr (2, [.ref (aa 3), .int (nI ((L3).length))])), (aa 3, .inl (gI g, 4096, .inl (aN (ovr (L3) (G3))))), ((la 7), .inr (2, [.ref (aa 7), .int (nI ((L7 ++ [n]).length))])), ((aa 7), .inl (gI g, 4096, .inl (aN (ovr (L7 ++ [n]) G7)))), (h0, .inr (0, [.ref h1, .ref h2, .int (nI pr), .int (nI sf)])), (h1, .inl (gI g, 12, .inl (aN sr)))]) (wr := [(p0, .inr (1, [.ref (la 0), .ref (la 1), .ref (la 2), .ref (la 3), .ref (la 4), .ref (la 5), .ref (la 6), .ref (la 7), .ref hh, .ref tt])), (hh, .inl (gI g, 4096, .inl (aN hf))), (tt, .inl (gI g, 4096, .inl (aN tf))), (la 0, .inr (2, [.ref (aa 0), .int (nI ((L0).length))])), (aa 0, .inl (gI g, 4096, .inl (aN (ovr (L0) (G0))))), (la 3, .inr (2, [.ref (aa 3), .int (nI ((L3).length))])), (aa 3, .inl (gI g, 4096, .inl (aN (ovr (L3) (G3))))), (h0, .inr (0, [.ref h1, .ref h2, .int (nI pr), .int (nI sf)])), (h1, .inl (gI g, 12, .inl (aN sr)))]) E h [7, 8] [0, 1, 2, 3, 4, 5, 6, 9, 10] [0, 1, 2, 3, 4, 5, 6, 9, 10, 7, 8] (va_runV (As := [.int (nI n)]) (rest := []) E.1 (k_X2_add l g (la 7) (aa 7) L7 G7 n (by omega) _) c_12 (q_preV E h [7, 8] rfl rfl (C := RX2) (T := TX2) (N := 2) 2 rfl 7 rfl) rfl rfl hl.1 rfl (lv_room (Nat.le_of_ble_eq_true rfl)) dX1_judge_99 ⟨Nat.zero_le _, Nat.zero_le _⟩) rfl rfl rfl (by decide) rfl (fun _ => rfl) (fun _ H locs _ h => ?_)
            -- world at the end: [(p0, .inr (1, [.ref (la 0), .ref (la 1), .ref (la 2), .ref (la 3), .ref (la 4), .ref (la 5), .ref (la 6), .ref (la 7), .ref hh, .ref tt])), (hh, .inl (gI g, 4096, .inl (aN hf))), (tt, .inl (gI g, 4096, .inl (aN tf))), (la 0, .inr (2, [.ref (aa 0), .int (nI ((L0).length))])), (aa 0, .inl (gI g, 4096, .inl (aN (ovr (L0) (G0))))), (la 3, .inr (2, [.ref (aa 3), .int (nI ((L3).length))])), (aa 3, .inl (gI g, 4096, .inl (aN (ovr (L3) (G3))))), ((la 7), .inr (2, [.ref (aa 7), .int (nI ((L7 ++ [n]).length))])), ((aa 7), .inl (gI g, 4096, .inl (aN (ovr (L7 ++ [n]) G7)))), (h0, .inr (0, [.ref h1, .ref h2, .int (nI pr), .int (nI sf)])), (h1, .inl (gI g, 12, .inl (aN sr)))]
            exact hend _ _ _ _ () (by rw [hC, hS, hL]; exact h) dX1_judge_102 trivial
        · skip
          rw [beq_iff_eq.mpr hb67] at hS
          refine lv_aload_n E.1.1 E.1.2.1 dX1_judge_70 rfl (lv_at hl 3 rfl) ?_
          refine q_get E h (C := RX1) (T := TX1) (N := 10) 1 rfl c_4 0 rfl 3 (by decide) c_13 (v := .ref (la 3)) rfl dX1_judge_71 ?_
          refine lv_iload_n E.1.1 E.1.2.1 dX1_judge_74 rfl (lv_at hl 5 rfl) ?_
          refine q_kv (w2 := fun _ => [(p0, .inr (1, [.ref (la 0), .ref (la 1), .ref (la 2), .ref (la 3), .ref (la 4), .ref (la 5), .ref (la 6), .ref (la 7), .ref hh, .ref tt])), (hh, .inl (gI g, 4096, .inl (aN hf))), (tt, .inl (gI g, 4096, .inl (aN tf))), (la 0, .inr (2, [.ref (aa 0), .int (nI ((L0).length))])), (aa 0, .inl (gI g, 4096, .inl (aN (ovr (L0) (G0))))), ((la 3), .inr (2, [.ref (aa 3), .int (nI ((L3 ++ [n]).length))])), ((aa 3), .inl (gI g, 4096, .inl (aN (ovr (L3 ++ [n]) G3)))), (la 7, .inr (2, [.ref (aa 7), .int (nI ((L7).length))])), (aa 7, .inl (gI g, 4096, .inl (aN (ovr (L7) (G7))))), (h0, .inr (0, [.ref h1, .ref h2, .int (nI pr), .int (nI sf)])), (h1, .inl (gI g, 12, .inl (aN sr)))]) (wr := [(p0, .inr (1, [.ref (la 0), .ref (la 1), .ref (la 2), .ref (la 3), .ref (la 4), .ref (la 5), .ref (la 6), .ref (la 7), .ref hh, .ref tt])), (hh, .inl (gI g, 4096, .inl (aN hf))), (tt, .inl (gI g, 4096, .inl (aN tf))), (la 0, .inr (2, [.ref (aa 0), .int (nI ((L0).length))])), (aa 0, .inl (gI g, 4096, .inl (aN (ovr (L0) (G0))))), (la 7, .inr (2, [.ref (aa 7), .int (nI ((L7).length))])), (aa 7, .inl (gI g, 4096, .inl (aN (ovr (L7) (G7))))), (h0, .inr (0, [.ref h1, .ref h2, .int (nI pr), .int (nI sf)])), (h1, .inl (gI g, 12, .inl (aN sr)))]) E h [5, 6] [0, 1, 2, 3, 4, 7, 8, 9, 10] [0, 1, 2, 3, 4, 9, 10, 5, 6, 7, 8] (va_runV (As := [.int (nI n)]) (rest := []) E.1 (k_X2_add l g (la 3) (aa 3) L3 G3 n (by omega) _) c_12 (q_preV E h [5, 6] rfl rfl (C := RX2) (T := TX2) (N := 2) 2 rfl 5 rfl) rfl rfl hl.1 rfl (lv_room (Nat.le_of_ble_eq_true rfl)) dX1_judge_75 ⟨Nat.zero_le _, Nat.zero_le _⟩) rfl rfl rfl (by decide) rfl (fun _ => rfl) (fun _ H locs _ h => ?_)
          refine lv_iload_n E.1.1 E.1.2.1 dX1_judge_78 rfl (lv_at hl 5 rfl) ?_
          refine lv_iload E.1.1 E.1.2.1 dX1_judge_79 (lv_at hl 1 rfl) ?_
          refine q_or E dX1_judge_81 ?_
          refine lv_iload E.1.1 E.1.2.1 dX1_judge_82 (lv_at hl 0 rfl) ?_
          refine q_or E dX1_judge_84 ?_
          refine lv_aload_n E.1.1 E.1.2.1 dX1_judge_85 rfl (lv_at hl 4 rfl) ?_
          refine q_ki (w2 := fun _ => [(p0, .inr (1, [.ref (la 0), .ref (la 1), .ref (la 2), .ref (la 3), .ref (la 4), .ref (la 5), .ref (la 6), .ref (la 7), .ref hh, .ref tt])), (hh, .inl (gI g, 4096, .inl (aN hf))), (tt, .inl (gI g, 4096, .inl (aN tf))), (la 0, .inr (2, [.ref (aa 0), .int (nI ((L0).length))])), (aa 0, .inl (gI g, 4096, .inl (aN (ovr (L0) (G0))))), ((la 3), .inr (2, [.ref (aa 3), .int (nI ((L3 ++ [n]).length))])), ((aa 3), .inl (gI g, 4096, .inl (aN (ovr (L3 ++ [n]) G3)))), (la 7, .inr (2, [.ref (aa 7), .int (nI ((L7).length))])), (aa 7, .inl (gI g, 4096, .inl (aN (ovr (L7) (G7))))), (h0, .inr (0, [.ref h1, .ref h2, .int (nI pr), .int (nI sf)])), (h1, .inl (gI g, 12, .inl (aN sr)))]) (wr := [(p0, .inr (1, [.ref (la 0), .ref (la 1), .ref (la 2), .ref (la 3), .ref (la 4), .ref (la 5), .ref (la 6), .ref (la 7), .ref hh, .ref tt])), (hh, .inl (gI g, 4096, .inl (aN hf))), (tt, .inl (gI g, 4096, .inl (aN tf))), (la 0, .inr (2, [.ref (aa 0), .int (nI ((L0).length))])), (aa 0, .inl (gI g, 4096, .inl (aN (ovr (L0) (G0))))), ((la 3), .inr (2, [.ref (aa 3), .int (nI ((L3 ++ [n]).length))])), ((aa 3), .inl (gI g, 4096, .inl (aN (ovr (L3 ++ [n]) G3)))), (la 7, .inr (2, [.ref (aa 7), .int (nI ((L7).length))])), (aa 7, .inl (gI g, 4096, .inl (aN (ovr (L7) (G7))))), (h1, .inl (gI g, 12, .inl (aN sr)))]) E h [9] [0, 1, 2, 3, 4, 5, 6, 7, 8, 10] [0, 1, 2, 3, 4, 5, 6, 7, 8, 10, 9] (va_runV (As := []) (rest := [.int (nI ((n ||| (hf n)) ||| (tf n)))]) E.1 (k_X0_selfAttackers l g h0 h1 h2 pr sf  _) c_9 (q_preV E h [9] rfl rfl (C := RX0) (T := TX0) (N := 4) 0 rfl 9 rfl) rfl rfl hl.1 rfl (lv_room (Nat.le_of_ble_eq_true rfl)) dX1_judge_86 ⟨Nat.zero_le _, Nat.zero_le _⟩) rfl rfl rfl (by decide) rfl (fun _ => rfl) (fun r18 _ H locs hr18 h => ?_)
          subst hr18
          refine q_or E dX1_judge_89 ?_
          refine lv_iload_n E.1.1 E.1.2.1 dX1_judge_90 rfl (lv_at hl 2 rfl) ?_
          refine q_ne E (tgt := 102) (by omega) (by omega) dX1_judge_91 (by decide) (fun hb91 => ?_) (fun hb91 => ?_)
          · skip
            rw [beq_false_of_ne hb91] at hL
            -- world at the end: [(p0, .inr (1, [.ref (la 0), .ref (la 1), .ref (la 2), .ref (la 3), .ref (la 4), .ref (la 5), .ref (la 6), .ref (la 7), .ref hh, .ref tt])), (hh, .inl (gI g, 4096, .inl (aN hf))), (tt, .inl (gI g, 4096, .inl (aN tf))), (la 0, .inr (2, [.ref (aa 0), .int (nI ((L0).length))])), (aa 0, .inl (gI g, 4096, .inl (aN (ovr (L0) (G0))))), ((la 3), .inr (2, [.ref (aa 3), .int (nI ((L3 ++ [n]).length))])), ((aa 3), .inl (gI g, 4096, .inl (aN (ovr (L3 ++ [n]) G3)))), (la 7, .inr (2, [.ref (aa 7), .int (nI ((L7).length))])), (aa 7, .inl (gI g, 4096, .inl (aN (ovr (L7) (G7))))), (h0, .inr (0, [.ref h1, .ref h2, .int (nI pr), .int (nI sf)])), (h1, .inl (gI g, 12, .inl (aN sr)))]
            exact hend _ _ _ _ () (by rw [hC, hS, hL]; exact h) dX1_judge_102 trivial
          · skip
            rw [beq_iff_eq.mpr hb91] at hL
            refine lv_aload_n E.1.1 E.1.2.1 dX1_judge_94 rfl (lv_at hl 3 rfl) ?_
            refine q_get E h (C := RX1) (T := TX1) (N := 10) 1 rfl c_4 0 rfl 7 (by decide) c_11 (v := .ref (la 7)) rfl dX1_judge_95 ?_
            refine lv_iload_n E.1.1 E.1.2.1 dX1_judge_98 rfl (lv_at hl 5 rfl) ?_
            refine q_kv (w2 := fun _ => [(p0, .inr (1, [.ref (la 0), .ref (la 1), .ref (la 2), .ref (la 3), .ref (la 4), .ref (la 5), .ref (la 6), .ref (la 7), .ref hh, .ref tt])), (hh, .inl (gI g, 4096, .inl (aN hf))), (tt, .inl (gI g, 4096, .inl (aN tf))), (la 0, .inr (2, [.ref (aa 0), .int (nI ((L0).length))])), (aa 0, .inl (gI g, 4096, .inl (aN (ovr (L0) (G0))))), ((la 3), .inr (2, [.ref (aa 3), .int (nI ((L3 ++ [n]).length))])), ((aa 3), .inl (gI g, 4096, .inl (aN (ovr (L3 ++ [n]) G3)))), ((la 7), .inr (2, [.ref (aa 7), .int (nI ((L7 ++ [n]).length))])), ((aa 7), .inl (gI g, 4096, .inl (aN (ovr (L7 ++ [n]) G7)))), (h0, .inr (0, [.ref h1, .ref h2, .int (nI pr), .int (nI sf)])), (h1, .inl (gI g, 12, .inl (aN sr)))]) (wr := [(p0, .inr (1, [.ref (la 0), .ref (la 1), .ref (la 2), .ref (la 3), .ref (la 4), .ref (la 5), .ref (la 6), .ref (la 7), .ref hh, .ref tt])), (hh, .inl (gI g, 4096, .inl (aN hf))), (tt, .inl (gI g, 4096, .inl (aN tf))), (la 0, .inr (2, [.ref (aa 0), .int (nI ((L0).length))])), (aa 0, .inl (gI g, 4096, .inl (aN (ovr (L0) (G0))))), ((la 3), .inr (2, [.ref (aa 3), .int (nI ((L3 ++ [n]).length))])), ((aa 3), .inl (gI g, 4096, .inl (aN (ovr (L3 ++ [n]) G3)))), (h0, .inr (0, [.ref h1, .ref h2, .int (nI pr), .int (nI sf)])), (h1, .inl (gI g, 12, .inl (aN sr)))]) E h [7, 8] [0, 1, 2, 3, 4, 5, 6, 9, 10] [0, 1, 2, 3, 4, 5, 6, 9, 10, 7, 8] (va_runV (As := [.int (nI n)]) (rest := []) E.1 (k_X2_add l g (la 7) (aa 7) L7 G7 n (by omega) _) c_12 (q_preV E h [7, 8] rfl rfl (C := RX2) (T := TX2) (N := 2) 2 rfl 7 rfl) rfl rfl hl.1 rfl (lv_room (Nat.le_of_ble_eq_true rfl)) dX1_judge_99 ⟨Nat.zero_le _, Nat.zero_le _⟩) rfl rfl rfl (by decide) rfl (fun _ => rfl) (fun _ H locs _ h => ?_)
            -- world at the end: [(p0, .inr (1, [.ref (la 0), .ref (la 1), .ref (la 2), .ref (la 3), .ref (la 4), .ref (la 5), .ref (la 6), .ref (la 7), .ref hh, .ref tt])), (hh, .inl (gI g, 4096, .inl (aN hf))), (tt, .inl (gI g, 4096, .inl (aN tf))), (la 0, .inr (2, [.ref (aa 0), .int (nI ((L0).length))])), (aa 0, .inl (gI g, 4096, .inl (aN (ovr (L0) (G0))))), ((la 3), .inr (2, [.ref (aa 3), .int (nI ((L3 ++ [n]).length))])), ((aa 3), .inl (gI g, 4096, .inl (aN (ovr (L3 ++ [n]) G3)))), ((la 7), .inr (2, [.ref (aa 7), .int (nI ((L7 ++ [n]).length))])), ((aa 7), .inl (gI g, 4096, .inl (aN (ovr (L7 ++ [n]) G7)))), (h0, .inr (0, [.ref h1, .ref h2, .int (nI pr), .int (nI sf)])), (h1, .inl (gI g, 12, .inl (aN sr)))]
            exact hend _ _ _ _ () (by rw [hC, hS, hL]; exact h) dX1_judge_102 trivial
      · skip
        rw [hb40, hb51, beq_self_eq_true, beq_self_eq_true] at hC
        refine lv_aload_n E.1.1 E.1.2.1 dX1_judge_54 rfl (lv_at hl 3 rfl) ?_
        refine q_get E h (C := RX1) (T := TX1) (N := 10) 1 rfl c_4 0 rfl 0 (by decide) c_19 (v := .ref (la 0)) rfl dX1_judge_55 ?_
        refine lv_iload_n E.1.1 E.1.2.1 dX1_judge_58 rfl (lv_at hl 5 rfl) ?_
        refine q_kv (w2 := fun _ => [(p0, .inr (1, [.ref (la 0), .ref (la 1), .ref (la 2), .ref (la 3), .ref (la 4), .ref (la 5), .ref (la 6), .ref (la 7), .ref hh, .ref tt])), (hh, .inl (gI g, 4096, .inl (aN hf))), (tt, .inl (gI g, 4096, .inl (aN tf))), ((la 0), .inr (2, [.ref (aa 0), .int (nI ((L0 ++ [n]).length))])), ((aa 0), .inl (gI g, 4096, .inl (aN (ovr (L0 ++ [n]) G0)))), (la 3, .inr (2, [.ref (aa 3), .int (nI ((L3).length))])), (aa 3, .inl (gI g, 4096, .inl (aN (ovr (L3) (G3))))), (la 7, .inr (2, [.ref (aa 7), .int (nI ((L7).length))])), (aa 7, .inl (gI g, 4096, .inl (aN (ovr (L7) (G7))))), (h0, .inr (0, [.ref h1, .ref h2, .int (nI pr), .int (nI sf)])), (h1, .inl (gI g, 12, .inl (aN sr)))]) (wr := [(p0, .inr (1, [.ref (la 0), .ref (la 1), .ref (la 2), .ref (la 3), .ref (la 4), .ref (la 5), .ref (la 6), .ref (la 7), .ref hh, .ref tt])), (hh, .inl (gI g, 4096, .inl (aN hf))), (tt, .inl (gI g, 4096, .inl (aN tf))), (la 3, .inr (2, [.ref (aa 3), .int (nI ((L3).length))])), (aa 3, .inl (gI g, 4096, .inl (aN (ovr (L3) (G3))))), (la 7, .inr (2, [.ref (aa 7), .int (nI ((L7).length))])), (aa 7, .inl (gI g, 4096, .inl (aN (ovr (L7) (G7))))), (h0, .inr (0, [.ref h1, .ref h2, .int (nI pr), .int (nI sf)])), (h1, .inl (gI g, 12, .inl (aN sr)))]) E h [3, 4] [0, 1, 2, 5, 6, 7, 8, 9, 10] [0, 1, 2, 9, 10, 3, 4, 5, 6, 7, 8] (va_runV (As := [.int (nI n)]) (rest := []) E.1 (k_X2_add l g (la 0) (aa 0) L0 G0 n (by omega) _) c_12 (q_preV E h [3, 4] rfl rfl (C := RX2) (T := TX2) (N := 2) 2 rfl 3 rfl) rfl rfl hl.1 rfl (lv_room (Nat.le_of_ble_eq_true rfl)) dX1_judge_59 ⟨Nat.zero_le _, Nat.zero_le _⟩) rfl rfl rfl (by decide) rfl (fun _ => rfl) (fun _ H locs _ h => ?_)
        refine lv_iload_n E.1.1 E.1.2.1 dX1_judge_62 rfl (lv_at hl 5 rfl) ?_
        refine lv_iload E.1.1 E.1.2.1 dX1_judge_63 (lv_at hl 1 rfl) ?_
        refine q_or E dX1_judge_65 ?_
        refine lv_iload_n E.1.1 E.1.2.1 dX1_judge_66 rfl (lv_at hl 2 rfl) ?_
        refine q_ne E (tgt := 78) (by omega) (by omega) dX1_judge_67 (by decide) (fun hb67 => ?_) (fun hb67 => ?_)
        · skip
          rw [beq_false_of_ne hb67] at hS
          refine lv_iload_n E.1.1 E.1.2.1 dX1_judge_78 rfl (lv_at hl 5 rfl) ?_
          refine lv_iload E.1.1 E.1.2.1 dX1_judge_79 (lv_at hl 1 rfl) ?_
          refine q_or E dX1_judge_81 ?_
          refine lv_iload E.1.1 E.1.2.1 dX1_judge_82 (lv_at hl 0 rfl) ?_
          refine q_or E dX1_judge_84 ?_
          refine lv_aload_n E.1.1 E.1.2.1 dX1_judge_85 rfl (lv_at hl 4 rfl) ?_
          refine q_ki (w2 := fun _ => [(p0, .inr (1, [.ref (la 0), .ref (la 1), .ref (la 2), .ref (la 3), .ref (la 4), .ref (la 5), .ref (la 6), .ref (la 7), .ref hh, .ref tt])), (hh, .inl (gI g, 4096, .inl (aN hf))), (tt, .inl (gI g, 4096, .inl (aN tf))), ((la 0), .inr (2, [.ref (aa 0), .int (nI ((L0 ++ [n]).length))])), ((aa 0), .inl (gI g, 4096, .inl (aN (ovr (L0 ++ [n]) G0)))), (la 3, .inr (2, [.ref (aa 3), .int (nI ((L3).length))])), (aa 3, .inl (gI g, 4096, .inl (aN (ovr (L3) (G3))))), (la 7, .inr (2, [.ref (aa 7), .int (nI ((L7).length))])), (aa 7, .inl (gI g, 4096, .inl (aN (ovr (L7) (G7))))), (h0, .inr (0, [.ref h1, .ref h2, .int (nI pr), .int (nI sf)])), (h1, .inl (gI g, 12, .inl (aN sr)))]) (wr := [(p0, .inr (1, [.ref (la 0), .ref (la 1), .ref (la 2), .ref (la 3), .ref (la 4), .ref (la 5), .ref (la 6), .ref (la 7), .ref hh, .ref tt])), (hh, .inl (gI g, 4096, .inl (aN hf))), (tt, .inl (gI g, 4096, .inl (aN tf))), ((la 0), .inr (2, [.ref (aa 0), .int (nI ((L0 ++ [n]).length))])), ((aa 0), .inl (gI g, 4096, .inl (aN (ovr (L0 ++ [n]) G0)))), (la 3, .inr (2, [.ref (aa 3), .int (nI ((L3).length))])), (aa 3, .inl (gI g, 4096, .inl (aN (ovr (L3) (G3))))), (la 7, .inr (2, [.ref (aa 7), .int (nI ((L7).length))])), (aa 7, .inl (gI g, 4096, .inl (aN (ovr (L7) (G7))))), (h1, .inl (gI g, 12, .inl (aN sr)))]) E h [9] [0, 1, 2, 3, 4, 5, 6, 7, 8, 10] [0, 1, 2, 3, 4, 5, 6, 7, 8, 10, 9] (va_runV (As := []) (rest := [.int (nI ((n ||| (hf n)) ||| (tf n)))]) E.1 (k_X0_selfAttackers l g h0 h1 h2 pr sf  _) c_9 (q_preV E h [9] rfl rfl (C := RX0) (T := TX0) (N := 4) 0 rfl 9 rfl) rfl rfl hl.1 rfl (lv_room (Nat.le_of_ble_eq_true rfl)) dX1_judge_86 ⟨Nat.zero_le _, Nat.zero_le _⟩) rfl rfl rfl (by decide) rfl (fun _ => rfl) (fun r20 _ H locs hr20 h => ?_)
          subst hr20
          refine q_or E dX1_judge_89 ?_
          refine lv_iload_n E.1.1 E.1.2.1 dX1_judge_90 rfl (lv_at hl 2 rfl) ?_
          refine q_ne E (tgt := 102) (by omega) (by omega) dX1_judge_91 (by decide) (fun hb91 => ?_) (fun hb91 => ?_)
          · skip
            rw [beq_false_of_ne hb91] at hL
            -- world at the end: [(p0, .inr (1, [.ref (la 0), .ref (la 1), .ref (la 2), .ref (la 3), .ref (la 4), .ref (la 5), .ref (la 6), .ref (la 7), .ref hh, .ref tt])), (hh, .inl (gI g, 4096, .inl (aN hf))), (tt, .inl (gI g, 4096, .inl (aN tf))), ((la 0), .inr (2, [.ref (aa 0), .int (nI ((L0 ++ [n]).length))])), ((aa 0), .inl (gI g, 4096, .inl (aN (ovr (L0 ++ [n]) G0)))), (la 3, .inr (2, [.ref (aa 3), .int (nI ((L3).length))])), (aa 3, .inl (gI g, 4096, .inl (aN (ovr (L3) (G3))))), (la 7, .inr (2, [.ref (aa 7), .int (nI ((L7).length))])), (aa 7, .inl (gI g, 4096, .inl (aN (ovr (L7) (G7))))), (h0, .inr (0, [.ref h1, .ref h2, .int (nI pr), .int (nI sf)])), (h1, .inl (gI g, 12, .inl (aN sr)))]
            exact hend _ _ _ _ () (by rw [hC, hS, hL]; exact h) dX1_judge_102 trivial
          · skip
            rw [beq_iff_eq.mpr hb91] at hL
            refine lv_aload_n E.1.1 E.1.2.1 dX1_judge_94 rfl (lv_at hl 3 rfl) ?_
            refine q_get E h (C := RX1) (T := TX1) (N := 10) 1 rfl c_4 0 rfl 7 (by decide) c_11 (v := .ref (la 7)) rfl dX1_judge_95 ?_
            refine lv_iload_n E.1.1 E.1.2.1 dX1_judge_98 rfl (lv_at hl 5 rfl) ?_
            refine q_kv (w2 := fun _ => [(p0, .inr (1, [.ref (la 0), .ref (la 1), .ref (la 2), .ref (la 3), .ref (la 4), .ref (la 5), .ref (la 6), .ref (la 7), .ref hh, .ref tt])), (hh, .inl (gI g, 4096, .inl (aN hf))), (tt, .inl (gI g, 4096, .inl (aN tf))), ((la 0), .inr (2, [.ref (aa 0), .int (nI ((L0 ++ [n]).length))])), ((aa 0), .inl (gI g, 4096, .inl (aN (ovr (L0 ++ [n]) G0)))), (la 3, .inr (2, [.ref (aa 3), .int (nI ((L3).length))])), (aa 3, .inl (gI g, 4096, .inl (aN (ovr (L3) (G3))))), ((la 7), .inr (2, [.ref (aa 7), .int (nI ((L7 ++ [n]).length))])), ((aa 7), .inl (gI g, 4096, .inl (aN (ovr (L7 ++ [n]) G7)))), (h0, .inr (0, [.ref h1, .ref h2, .int (nI pr), .int (nI sf)])), (h1, .inl (gI g, 12, .inl (aN sr)))]) (wr := [(p0, .inr (1, [.ref (la 0), .ref (la 1), .ref (la 2), .ref (la 3), .ref (la 4), .ref (la 5), .ref (la 6), .ref (la 7), .ref hh, .ref tt])), (hh, .inl (gI g, 4096, .inl (aN hf))), (tt, .inl (gI g, 4096, .inl (aN tf))), ((la 0), .inr (2, [.ref (aa 0), .int (nI ((L0 ++ [n]).length))])), ((aa 0), .inl (gI g, 4096, .inl (aN (ovr (L0 ++ [n]) G0)))), (la 3, .inr (2, [.ref (aa 3), .int (nI ((L3).length))])), (aa 3, .inl (gI g, 4096, .inl (aN (ovr (L3) (G3))))), (h0, .inr (0, [.ref h1, .ref h2, .int (nI pr), .int (nI sf)])), (h1, .inl (gI g, 12, .inl (aN sr)))]) E h [7, 8] [0, 1, 2, 3, 4, 5, 6, 9, 10] [0, 1, 2, 3, 4, 5, 6, 9, 10, 7, 8] (va_runV (As := [.int (nI n)]) (rest := []) E.1 (k_X2_add l g (la 7) (aa 7) L7 G7 n (by omega) _) c_12 (q_preV E h [7, 8] rfl rfl (C := RX2) (T := TX2) (N := 2) 2 rfl 7 rfl) rfl rfl hl.1 rfl (lv_room (Nat.le_of_ble_eq_true rfl)) dX1_judge_99 ⟨Nat.zero_le _, Nat.zero_le _⟩) rfl rfl rfl (by decide) rfl (fun _ => rfl) (fun _ H locs _ h => ?_)
            -- world at the end: [(p0, .inr (1, [.ref (la 0), .ref (la 1), .ref (la 2), .ref (la 3), .ref (la 4), .ref (la 5), .ref (la 6), .ref (la 7), .ref hh, .ref tt])), (hh, .inl (gI g, 4096, .inl (aN hf))), (tt, .inl (gI g, 4096, .inl (aN tf))), ((la 0), .inr (2, [.ref (aa 0), .int (nI ((L0 ++ [n]).length))])), ((aa 0), .inl (gI g, 4096, .inl (aN (ovr (L0 ++ [n]) G0)))), (la 3, .inr (2, [.ref (aa 3), .int (nI ((L3).length))])), (aa 3, .inl (gI g, 4096, .inl (aN (ovr (L3) (G3))))), ((la 7), .inr (2, [.ref (aa 7), .int (nI ((L7 ++ [n]).length))])), ((aa 7), .inl (gI g, 4096, .inl (aN (ovr (L7 ++ [n]) G7)))), (h0, .inr (0, [.ref h1, .ref h2, .int (nI pr), .int (nI sf)])), (h1, .inl (gI g, 12, .inl (aN sr)))]
            exact hend _ _ _ _ () (by rw [hC, hS, hL]; exact h) dX1_judge_102 trivial
        · skip
          rw [beq_iff_eq.mpr hb67] at hS
          refine lv_aload_n E.1.1 E.1.2.1 dX1_judge_70 rfl (lv_at hl 3 rfl) ?_
          refine q_get E h (C := RX1) (T := TX1) (N := 10) 1 rfl c_4 0 rfl 3 (by decide) c_13 (v := .ref (la 3)) rfl dX1_judge_71 ?_
          refine lv_iload_n E.1.1 E.1.2.1 dX1_judge_74 rfl (lv_at hl 5 rfl) ?_
          refine q_kv (w2 := fun _ => [(p0, .inr (1, [.ref (la 0), .ref (la 1), .ref (la 2), .ref (la 3), .ref (la 4), .ref (la 5), .ref (la 6), .ref (la 7), .ref hh, .ref tt])), (hh, .inl (gI g, 4096, .inl (aN hf))), (tt, .inl (gI g, 4096, .inl (aN tf))), ((la 0), .inr (2, [.ref (aa 0), .int (nI ((L0 ++ [n]).length))])), ((aa 0), .inl (gI g, 4096, .inl (aN (ovr (L0 ++ [n]) G0)))), ((la 3), .inr (2, [.ref (aa 3), .int (nI ((L3 ++ [n]).length))])), ((aa 3), .inl (gI g, 4096, .inl (aN (ovr (L3 ++ [n]) G3)))), (la 7, .inr (2, [.ref (aa 7), .int (nI ((L7).length))])), (aa 7, .inl (gI g, 4096, .inl (aN (ovr (L7) (G7))))), (h0, .inr (0, [.ref h1, .ref h2, .int (nI pr), .int (nI sf)])), (h1, .inl (gI g, 12, .inl (aN sr)))]) (wr := [(p0, .inr (1, [.ref (la 0), .ref (la 1), .ref (la 2), .ref (la 3), .ref (la 4), .ref (la 5), .ref (la 6), .ref (la 7), .ref hh, .ref tt])), (hh, .inl (gI g, 4096, .inl (aN hf))), (tt, .inl (gI g, 4096, .inl (aN tf))), ((la 0), .inr (2, [.ref (aa 0), .int (nI ((L0 ++ [n]).length))])), ((aa 0), .inl (gI g, 4096, .inl (aN (ovr (L0 ++ [n]) G0)))), (la 7, .inr (2, [.ref (aa 7), .int (nI ((L7).length))])), (aa 7, .inl (gI g, 4096, .inl (aN (ovr (L7) (G7))))), (h0, .inr (0, [.ref h1, .ref h2, .int (nI pr), .int (nI sf)])), (h1, .inl (gI g, 12, .inl (aN sr)))]) E h [5, 6] [0, 1, 2, 3, 4, 7, 8, 9, 10] [0, 1, 2, 3, 4, 9, 10, 5, 6, 7, 8] (va_runV (As := [.int (nI n)]) (rest := []) E.1 (k_X2_add l g (la 3) (aa 3) L3 G3 n (by omega) _) c_12 (q_preV E h [5, 6] rfl rfl (C := RX2) (T := TX2) (N := 2) 2 rfl 5 rfl) rfl rfl hl.1 rfl (lv_room (Nat.le_of_ble_eq_true rfl)) dX1_judge_75 ⟨Nat.zero_le _, Nat.zero_le _⟩) rfl rfl rfl (by decide) rfl (fun _ => rfl) (fun _ H locs _ h => ?_)
          refine lv_iload_n E.1.1 E.1.2.1 dX1_judge_78 rfl (lv_at hl 5 rfl) ?_
          refine lv_iload E.1.1 E.1.2.1 dX1_judge_79 (lv_at hl 1 rfl) ?_
          refine q_or E dX1_judge_81 ?_
          refine lv_iload E.1.1 E.1.2.1 dX1_judge_82 (lv_at hl 0 rfl) ?_
          refine q_or E dX1_judge_84 ?_
          refine lv_aload_n E.1.1 E.1.2.1 dX1_judge_85 rfl (lv_at hl 4 rfl) ?_
          refine q_ki (w2 := fun _ => [(p0, .inr (1, [.ref (la 0), .ref (la 1), .ref (la 2), .ref (la 3), .ref (la 4), .ref (la 5), .ref (la 6), .ref (la 7), .ref hh, .ref tt])), (hh, .inl (gI g, 4096, .inl (aN hf))), (tt, .inl (gI g, 4096, .inl (aN tf))), ((la 0), .inr (2, [.ref (aa 0), .int (nI ((L0 ++ [n]).length))])), ((aa 0), .inl (gI g, 4096, .inl (aN (ovr (L0 ++ [n]) G0)))), ((la 3), .inr (2, [.ref (aa 3), .int (nI ((L3 ++ [n]).length))])), ((aa 3), .inl (gI g, 4096, .inl (aN (ovr (L3 ++ [n]) G3)))), (la 7, .inr (2, [.ref (aa 7), .int (nI ((L7).length))])), (aa 7, .inl (gI g, 4096, .inl (aN (ovr (L7) (G7))))), (h0, .inr (0, [.ref h1, .ref h2, .int (nI pr), .int (nI sf)])), (h1, .inl (gI g, 12, .inl (aN sr)))]) (wr := [(p0, .inr (1, [.ref (la 0), .ref (la 1), .ref (la 2), .ref (la 3), .ref (la 4), .ref (la 5), .ref (la 6), .ref (la 7), .ref hh, .ref tt])), (hh, .inl (gI g, 4096, .inl (aN hf))), (tt, .inl (gI g, 4096, .inl (aN tf))), ((la 0), .inr (2, [.ref (aa 0), .int (nI ((L0 ++ [n]).length))])), ((aa 0), .inl (gI g, 4096, .inl (aN (ovr (L0 ++ [n]) G0)))), ((la 3), .inr (2, [.ref (aa 3), .int (nI ((L3 ++ [n]).length))])), ((aa 3), .inl (gI g, 4096, .inl (aN (ovr (L3 ++ [n]) G3)))), (la 7, .inr (2, [.ref (aa 7), .int (nI ((L7).length))])), (aa 7, .inl (gI g, 4096, .inl (aN (ovr (L7) (G7))))), (h1, .inl (gI g, 12, .inl (aN sr)))]) E h [9] [0, 1, 2, 3, 4, 5, 6, 7, 8, 10] [0, 1, 2, 3, 4, 5, 6, 7, 8, 10, 9] (va_runV (As := []) (rest := [.int (nI ((n ||| (hf n)) ||| (tf n)))]) E.1 (k_X0_selfAttackers l g h0 h1 h2 pr sf  _) c_9 (q_preV E h [9] rfl rfl (C := RX0) (T := TX0) (N := 4) 0 rfl 9 rfl) rfl rfl hl.1 rfl (lv_room (Nat.le_of_ble_eq_true rfl)) dX1_judge_86 ⟨Nat.zero_le _, Nat.zero_le _⟩) rfl rfl rfl (by decide) rfl (fun _ => rfl) (fun r21 _ H locs hr21 h => ?_)
          subst hr21
          refine q_or E dX1_judge_89 ?_
          refine lv_iload_n E.1.1 E.1.2.1 dX1_judge_90 rfl (lv_at hl 2 rfl) ?_
          refine q_ne E (tgt := 102) (by omega) (by omega) dX1_judge_91 (by decide) (fun hb91 => ?_) (fun hb91 => ?_)
          · skip
            rw [beq_false_of_ne hb91] at hL
            -- world at the end: [(p0, .inr (1, [.ref (la 0), .ref (la 1), .ref (la 2), .ref (la 3), .ref (la 4), .ref (la 5), .ref (la 6), .ref (la 7), .ref hh, .ref tt])), (hh, .inl (gI g, 4096, .inl (aN hf))), (tt, .inl (gI g, 4096, .inl (aN tf))), ((la 0), .inr (2, [.ref (aa 0), .int (nI ((L0 ++ [n]).length))])), ((aa 0), .inl (gI g, 4096, .inl (aN (ovr (L0 ++ [n]) G0)))), ((la 3), .inr (2, [.ref (aa 3), .int (nI ((L3 ++ [n]).length))])), ((aa 3), .inl (gI g, 4096, .inl (aN (ovr (L3 ++ [n]) G3)))), (la 7, .inr (2, [.ref (aa 7), .int (nI ((L7).length))])), (aa 7, .inl (gI g, 4096, .inl (aN (ovr (L7) (G7))))), (h0, .inr (0, [.ref h1, .ref h2, .int (nI pr), .int (nI sf)])), (h1, .inl (gI g, 12, .inl (aN sr)))]
            exact hend _ _ _ _ () (by rw [hC, hS, hL]; exact h) dX1_judge_102 trivial
          · skip
            rw [beq_iff_eq.mpr hb91] at hL
            refine lv_aload_n E.1.1 E.1.2.1 dX1_judge_94 rfl (lv_at hl 3 rfl) ?_
            refine q_get E h (C := RX1) (T := TX1) (N := 10) 1 rfl c_4 0 rfl 7 (by decide) c_11 (v := .ref (la 7)) rfl dX1_judge_95 ?_
            refine lv_iload_n E.1.1 E.1.2.1 dX1_judge_98 rfl (lv_at hl 5 rfl) ?_
            refine q_kv (w2 := fun _ => [(p0, .inr (1, [.ref (la 0), .ref (la 1), .ref (la 2), .ref (la 3), .ref (la 4), .ref (la 5), .ref (la 6), .ref (la 7), .ref hh, .ref tt])), (hh, .inl (gI g, 4096, .inl (aN hf))), (tt, .inl (gI g, 4096, .inl (aN tf))), ((la 0), .inr (2, [.ref (aa 0), .int (nI ((L0 ++ [n]).length))])), ((aa 0), .inl (gI g, 4096, .inl (aN (ovr (L0 ++ [n]) G0)))), ((la 3), .inr (2, [.ref (aa 3), .int (nI ((L3 ++ [n]).length))])), ((aa 3), .inl (gI g, 4096, .inl (aN (ovr (L3 ++ [n]) G3)))), ((la 7), .inr (2, [.ref (aa 7), .int (nI ((L7 ++ [n]).length))])), ((aa 7), .inl (gI g, 4096, .inl (aN (ovr (L7 ++ [n]) G7)))), (h0, .inr (0, [.ref h1, .ref h2, .int (nI pr), .int (nI sf)])), (h1, .inl (gI g, 12, .inl (aN sr)))]) (wr := [(p0, .inr (1, [.ref (la 0), .ref (la 1), .ref (la 2), .ref (la 3), .ref (la 4), .ref (la 5), .ref (la 6), .ref (la 7), .ref hh, .ref tt])), (hh, .inl (gI g, 4096, .inl (aN hf))), (tt, .inl (gI g, 4096, .inl (aN tf))), ((la 0), .inr (2, [.ref (aa 0), .int (nI ((L0 ++ [n]).length))])), ((aa 0), .inl (gI g, 4096, .inl (aN (ovr (L0 ++ [n]) G0)))), ((la 3), .inr (2, [.ref (aa 3), .int (nI ((L3 ++ [n]).length))])), ((aa 3), .inl (gI g, 4096, .inl (aN (ovr (L3 ++ [n]) G3)))), (h0, .inr (0, [.ref h1, .ref h2, .int (nI pr), .int (nI sf)])), (h1, .inl (gI g, 12, .inl (aN sr)))]) E h [7, 8] [0, 1, 2, 3, 4, 5, 6, 9, 10] [0, 1, 2, 3, 4, 5, 6, 9, 10, 7, 8] (va_runV (As := [.int (nI n)]) (rest := []) E.1 (k_X2_add l g (la 7) (aa 7) L7 G7 n (by omega) _) c_12 (q_preV E h [7, 8] rfl rfl (C := RX2) (T := TX2) (N := 2) 2 rfl 7 rfl) rfl rfl hl.1 rfl (lv_room (Nat.le_of_ble_eq_true rfl)) dX1_judge_99 ⟨Nat.zero_le _, Nat.zero_le _⟩) rfl rfl rfl (by decide) rfl (fun _ => rfl) (fun _ H locs _ h => ?_)
            -- world at the end: [(p0, .inr (1, [.ref (la 0), .ref (la 1), .ref (la 2), .ref (la 3), .ref (la 4), .ref (la 5), .ref (la 6), .ref (la 7), .ref hh, .ref tt])), (hh, .inl (gI g, 4096, .inl (aN hf))), (tt, .inl (gI g, 4096, .inl (aN tf))), ((la 0), .inr (2, [.ref (aa 0), .int (nI ((L0 ++ [n]).length))])), ((aa 0), .inl (gI g, 4096, .inl (aN (ovr (L0 ++ [n]) G0)))), ((la 3), .inr (2, [.ref (aa 3), .int (nI ((L3 ++ [n]).length))])), ((aa 3), .inl (gI g, 4096, .inl (aN (ovr (L3 ++ [n]) G3)))), ((la 7), .inr (2, [.ref (aa 7), .int (nI ((L7 ++ [n]).length))])), ((aa 7), .inl (gI g, 4096, .inl (aN (ovr (L7 ++ [n]) G7)))), (h0, .inr (0, [.ref h1, .ref h2, .int (nI pr), .int (nI sf)])), (h1, .inl (gI g, 12, .inl (aN sr)))]
            exact hend _ _ _ _ () (by rw [hC, hS, hL]; exact h) dX1_judge_102 trivial
  · skip
    have hC : jC sr pr hf tf n = false := j_n hb29 _
    have hS : jS pr hf n = false := j_n hb29 _
    have hL : jL pr sf hf tf n = false := j_n hb29 _
    -- world at the end: [(p0, .inr (1, [.ref (la 0), .ref (la 1), .ref (la 2), .ref (la 3), .ref (la 4), .ref (la 5), .ref (la 6), .ref (la 7), .ref hh, .ref tt])), (hh, .inl (gI g, 4096, .inl (aN hf))), (tt, .inl (gI g, 4096, .inl (aN tf))), (la 0, .inr (2, [.ref (aa 0), .int (nI ((L0).length))])), (aa 0, .inl (gI g, 4096, .inl (aN (ovr (L0) (G0))))), (la 3, .inr (2, [.ref (aa 3), .int (nI ((L3).length))])), (aa 3, .inl (gI g, 4096, .inl (aN (ovr (L3) (G3))))), (la 7, .inr (2, [.ref (aa 7), .int (nI ((L7).length))])), (aa 7, .inl (gI g, 4096, .inl (aN (ovr (L7) (G7))))), (h0, .inr (0, [.ref h1, .ref h2, .int (nI pr), .int (nI sf)])), (h1, .inl (gI g, 12, .inl (aN sr)))]
    exact hend _ _ _ _ () (by rw [hC, hS, hL]; exact h) dX1_judge_32 trivial
