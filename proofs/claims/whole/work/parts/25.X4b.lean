/-! the reference: raise, put, findRanges -/
set_option maxHeartbeats 4000000 in
set_option maxRecDepth 100000 in
theorem k_X4_raise (l : Launch) (g : GK) (m0 mw ma mc mf mr mt mar mbe mou : Nat) (th cnt pr tol : Nat) (kn : Bool) (ar be : Nat → Bool) (hcnt : cnt ≤ 12) : CV (S := Unit) l g yX4_raise wsX4_raise { frames := 1, cells := 0, slots := 0, locals := 21 } [.ref m0] [(m0, .inr (4, [.int (nI th), .int (nI cnt), .ref mw, .int (nI pr), .ref ma, .int (nI tol), .int (nI kn.toNat), .ref mc, .ref mf, .ref mr, .ref mt, .ref mar, .ref mbe, .ref mou])), (mar, .inl (gZ g, 4096, .inl (aB ar))), (mbe, .inl (gZ g, 4096, .inl (aB be)))] (fun _ => True) (fun _ => [(m0, .inr (4, [.int (nI th), .int (nI cnt), .ref mw, .int (nI pr), .ref ma, .int (nI tol), .int (nI kn.toNat), .ref mc, .ref mf, .ref mr, .ref mt, .ref mar, .ref mbe, .ref mou])), (mar, .inl (gZ g, 4096, .inl (aB ar))), (mbe, .inl (gZ g, 4096, .inl (aB (beR ar cnt be 0))))]) := by
  refine q_ofV (own := RX4) (by decide) rfl rfl (Nat.le_of_ble_eq_true rfl) ?_
  intro p e s m below meth c A Q args E hmn h hend ls hl
  have hl : lv_has ls 3 [(0, .ref m0)] := hl
  have c_1 := E.1.2.2.2.2 (.fieldLink RX4 47 "DebateSolverModel" "many" "I") (by decide +kernel)
  have c_2 := (by decide +kernel : ∀ w ∈ wsX40, w ∈ wsX4_raise)
  have c_3 := E.1.2.2.2.2 (.fieldLink RX4 36 "DebateSolverModel" "areBelow" "[Z") (by decide +kernel)
  have c_4 := cwS (R := { frames := 1, cells := 0, slots := 0, locals := 21 }) (rm := { frames := 0, cells := 0, slots := 0, locals := 0 }) (mc := 0) (ms := 0) 2 E.1.2.2.2.2 gX4_raise_X4_has rfl rfl rfl (by decide +kernel) ⟨Nat.le_of_ble_eq_true rfl, Nat.le_of_ble_eq_true rfl⟩
  have c_6 := E.1.2.2.2.2 (.fieldLink RX4 32 "DebateSolverModel" "are" "[Z") (by decide +kernel)
  have hp12 := cnt_p12 hcnt
  have hp0 : 0 < 2 ^ cnt := Nat.two_pow_pos cnt
  refine q_ic E 1 dX4_raise_0 (by decide) ?_
  refine lv_aload_n E.1.1 E.1.2.1 dX4_raise_1 rfl (lv_at hl 0 rfl) ?_
  refine q_get E h (C := RX4) (T := TX4) (N := 14) 4 rfl c_2 0 rfl 1 (by decide) c_1 (v := .int (nI cnt)) rfl dX4_raise_2 ?_
  refine q_shl1 E (by first | omega | assumption | exact srO_in | exact tgO_out hpc | exact srO_lt _ _ | exact tgO_lt _ _ | exact srO_lt _ | exact tgO_lt _ | exact pr12 hcnt hpc) dX4_raise_5 ?_
  refine q_ic E 1 dX4_raise_6 (by decide) ?_
  refine q_sub E (by exact hp0) dX4_raise_7 ?_
  refine lv_istore_n (lv' := [(1, .int (nI ((2 ^ cnt) - 1))), (0, .ref m0)]) E.1.1 E.1.2.1 dX4_raise_8 rfl hl (by decide) rfl (fun ls hl => ?_)
  have lp9 : ∀ (fu : Nat) (j : Nat), j < fu → (j ≤ 2 ^ cnt) → ∀ (y9_1 : Int32), y9_1 = jI j → ∀ (w9_mbe : Nat → Bool), w9_mbe = beR ar cnt be j → ∀ (H : Heap) (locs : List Loc), qH g A s [(m0, .inr (4, [.int (nI th), .int (nI cnt), .ref mw, .int (nI pr), .ref ma, .int (nI tol), .int (nI kn.toNat), .ref mc, .ref mf, .ref mr, .ref mt, .ref mar, .ref mbe, .ref mou])), (mar, .inl (gZ g, 4096, .inl (aB ar))), (mbe, .inl (gZ g, 4096, .inl (aB w9_mbe)))] H locs → ∀ ls : Array Slot, lv_has ls 3 [(0, .ref m0), (1, .int y9_1)] → W p l e { frames := 1, cells := 0, slots := 0, locals := 21 } s m args below meth c H locs 0 0 Q (F0 m 9 ls []) := by
    intro fu
    induction fu with
    | zero => intro j hfu; exact absurd hfu (Nat.not_lt_zero _)
    | succ fu ih9 =>
      intro j hfu hj y9_1 ey9_1 w9_mbe ew9_mbe H locs h ls hl
      subst ey9_1 ew9_mbe
      refine lv_iload_n E.1.1 E.1.2.1 dX4_raise_9 rfl (lv_at hl 1 rfl) ?_
      refine lv_if_lt (tgt := 96) E.1.1 E.1.2.1 dX4_raise_10 (by decide) (fun hb10 => ?_) (fun hb10 => ?_)
      · skip
        obtain rfl : j = 0 := (jI_neg (show j < 2147483648 by omega)).mp hb10
        -- world at the end: [(m0, .inr (4, [.int (nI th), .int (nI cnt), .ref mw, .int (nI pr), .ref ma, .int (nI tol), .int (nI kn.toNat), .ref mc, .ref mf, .ref mr, .ref mt, .ref mar, .ref mbe, .ref mou])), (mar, .inl (gZ g, 4096, .inl (aB ar))), (mbe, .inl (gZ g, 4096, .inl (aB (beR ar cnt be j))))]
        exact hend _ _ _ _ () h dX4_raise_96 trivial
      · skip
        obtain ⟨j1, rfl⟩ : ∃ j1, j = j1 + 1 := ⟨j - 1, by have := (not_congr (jI_neg (show j < 2147483648 by omega))).mp hb10; omega⟩
        have hl : lv_has ls 3 [(0, .ref m0), (1, .int (nI j1))] := hl
        refine lv_aload_n E.1.1 E.1.2.1 dX4_raise_13 rfl (lv_at hl 0 rfl) ?_
        refine q_get E h (C := RX4) (T := TX4) (N := 14) 4 rfl c_2 0 rfl 12 (by decide) c_3 (v := .ref mbe) rfl dX4_raise_14 ?_
        refine lv_iload_n E.1.1 E.1.2.1 dX4_raise_17 rfl (lv_at hl 1 rfl) ?_
        refine q_ic E 0 dX4_raise_18 (by decide) ?_
        refine q_top (w := .int (nI (false : Bool).toNat)) rfl ?_
        refine q_zast E h 2 (f := (beR ar cnt be (j1 + 1))) rfl (by first | omega | assumption | exact srO_in | exact tgO_out hpc | exact srO_lt _ _ | exact tgO_lt _ _ | exact srO_lt _ | exact tgO_lt _ | exact pr12 hcnt hpc) (by decide) dX4_raise_19 (w2 := [(m0, .inr (4, [.int (nI th), .int (nI cnt), .ref mw, .int (nI pr), .ref ma, .int (nI tol), .int (nI kn.toNat), .ref mc, .ref mf, .ref mr, .ref mt, .ref mar, .ref mbe, .ref mou])), (mar, .inl (gZ g, 4096, .inl (aB ar))), (mbe, .inl (gZ g, 4096, .inl (aB (updB (beR ar cnt be (j1 + 1)) j1 false))))]) rfl (fun H locs h => ?_)
        refine q_ic E 0 dX4_raise_20 (by decide) ?_
        refine lv_istore_n (lv' := [(2, .int (nI 0)), (0, .ref m0), (1, .int (nI j1))]) E.1.1 E.1.2.1 dX4_raise_21 rfl hl (by decide) rfl (fun ls hl => ?_)
        have lp22 : ∀ (fu : Nat) (k : Nat), cnt - k < fu → (k ≤ cnt) → ∀ (w22_mbe : Nat → Bool), w22_mbe = updB (beR ar cnt be (j1 + 1)) j1 (anyU (blwS ar cnt j1) k) → ∀ (H : Heap) (locs : List Loc), qH g A s [(m0, .inr (4, [.int (nI th), .int (nI cnt), .ref mw, .int (nI pr), .ref ma, .int (nI tol), .int (nI kn.toNat), .ref mc, .ref mf, .ref mr, .ref mt, .ref mar, .ref mbe, .ref mou])), (mar, .inl (gZ g, 4096, .inl (aB ar))), (mbe, .inl (gZ g, 4096, .inl (aB w22_mbe)))] H locs → ∀ ls : Array Slot, lv_has ls 3 [(0, .ref m0), (1, .int (nI j1)), (2, .int (nI k))] → W p l e { frames := 1, cells := 0, slots := 0, locals := 21 } s m args below meth c H locs 0 0 Q (F0 m 22 ls []) := by
          intro fu
          induction fu with
          | zero => intro k hfu; exact absurd hfu (Nat.not_lt_zero _)
          | succ fu ih22 =>
            intro k hfu hk w22_mbe ew22_mbe H locs h ls hl
            subst ew22_mbe
            refine lv_iload_n E.1.1 E.1.2.1 dX4_raise_22 rfl (lv_at hl 2 rfl) ?_
            refine lv_aload_n E.1.1 E.1.2.1 dX4_raise_23 rfl (lv_at hl 0 rfl) ?_
            refine q_get E h (C := RX4) (T := TX4) (N := 14) 4 rfl c_2 0 rfl 1 (by decide) c_1 (v := .int (nI cnt)) rfl dX4_raise_24 ?_
            refine q_ge E (tgt := 90) (by first | omega | assumption | exact srO_in | exact tgO_out hpc | exact srO_lt _ _ | exact tgO_lt _ _ | exact srO_lt _ | exact tgO_lt _ | exact pr12 hcnt hpc) (by first | omega | assumption | exact srO_in | exact tgO_out hpc | exact srO_lt _ _ | exact tgO_lt _ _ | exact srO_lt _ | exact tgO_lt _ | exact pr12 hcnt hpc) dX4_raise_27 (by decide) (fun hb27 => ?_) (fun hb27 => ?_)
            · skip
              refine lv_iinc (v := nI j1 + (-1)) (lv' := [(1, .int (nI j1 + (-1))), (0, .ref m0), (2, .int (nI k))]) E.1.1 E.1.2.1 dX4_raise_90 hl (k := 1) rfl rfl (by decide) rfl (fun ls hl => ?_)
              refine q_go E (tgt := 9) dX4_raise_93 (by decide) ?_
              exact ih9  j1 (by omega) (by omega) _ (by exact jI_pred) _ (by rw [show k = cnt by omega]; exact beR_step (by omega)) _ _ h _ (lv_sub hl [1, 0] rfl)
            · skip
              refine lv_iload_n E.1.1 E.1.2.1 dX4_raise_30 rfl (lv_at hl 1 rfl) ?_
              refine lv_iload_n E.1.1 E.1.2.1 dX4_raise_31 rfl (lv_at hl 2 rfl) ?_
              refine q_ki (w2 := fun _ => [(m0, .inr (4, [.int (nI th), .int (nI cnt), .ref mw, .int (nI pr), .ref ma, .int (nI tol), .int (nI kn.toNat), .ref mc, .ref mf, .ref mr, .ref mt, .ref mar, .ref mbe, .ref mou])), (mar, .inl (gZ g, 4096, .inl (aB ar))), (mbe, .inl (gZ g, 4096, .inl (aB (updB (beR ar cnt be (j1 + 1)) j1 (anyU (blwS ar cnt j1) k)))))]) (wr := [(m0, .inr (4, [.int (nI th), .int (nI cnt), .ref mw, .int (nI pr), .ref ma, .int (nI tol), .int (nI kn.toNat), .ref mc, .ref mf, .ref mr, .ref mt, .ref mar, .ref mbe, .ref mou])), (mar, .inl (gZ g, 4096, .inl (aB ar))), (mbe, .inl (gZ g, 4096, .inl (aB (updB (beR ar cnt be (j1 + 1)) j1 (anyU (blwS ar cnt j1) k)))))]) E h [] [0, 1, 2] [0, 1, 2] (va_runS (As := [.int (nI j1), .int (nI k)]) (rest := []) E.1 (k_X4_has l g j1 k (by first | omega | assumption | exact srO_in | exact tgO_out hpc | exact srO_lt _ _ | exact tgO_lt _ _ | exact srO_lt _ | exact tgO_lt _ | exact pr12 hcnt hpc) (by first | omega | assumption | exact srO_in | exact tgO_out hpc | exact srO_lt _ _ | exact tgO_lt _ _ | exact srO_lt _ | exact tgO_lt _ | exact pr12 hcnt hpc) _) c_4 (q_preS E h [] rfl rfl) rfl rfl hl.1 rfl (lv_room (Nat.le_of_ble_eq_true rfl)) dX4_raise_32 ⟨Nat.zero_le _, Nat.zero_le _⟩) rfl rfl rfl (by decide) rfl (fun _ => rfl) (fun r5 _ H locs hr5 h => ?_)
              subst hr5
              refine q_bne E (tgt := 84) dX4_raise_35 (by decide) (fun hb35 => ?_) (fun hb35 => ?_)
              · skip
                have hv : anyU (blwS ar cnt j1) (k + 1) = anyU (blwS ar cnt j1) k := by simp [anyU, blwS, hb35]
                refine q_inc E (lv' := [(2, .int (nI (k + 1))), (0, .ref m0), (1, .int (nI j1))]) hl dX4_raise_84 (k := 2) rfl (by decide) rfl (fun ls hl => ?_)
                refine q_go E (tgt := 22) dX4_raise_87 (by decide) ?_
                exact ih22  (k + 1) (by omega) (by omega) _ (by first | (rw [updB_twice, hv]) | (rw [hv])) _ _ h _ (lv_sub hl [1, 2, 0] rfl)
              · skip
                refine lv_aload_n E.1.1 E.1.2.1 dX4_raise_38 rfl (lv_at hl 0 rfl) ?_
                refine q_get E h (C := RX4) (T := TX4) (N := 14) 4 rfl c_2 0 rfl 12 (by decide) c_3 (v := .ref mbe) rfl dX4_raise_39 ?_
                refine lv_iload_n E.1.1 E.1.2.1 dX4_raise_42 rfl (lv_at hl 1 rfl) ?_
                refine lv_aload_n E.1.1 E.1.2.1 dX4_raise_43 rfl (lv_at hl 0 rfl) ?_
                refine q_get E h (C := RX4) (T := TX4) (N := 14) 4 rfl c_2 0 rfl 12 (by decide) c_3 (v := .ref mbe) rfl dX4_raise_44 ?_
                refine lv_iload_n E.1.1 E.1.2.1 dX4_raise_47 rfl (lv_at hl 1 rfl) ?_
                refine q_zald E h 2 (f := (updB (beR ar cnt be (j1 + 1)) j1 (anyU (blwS ar cnt j1) k))) rfl (by first | omega | assumption | exact srO_in | exact tgO_out hpc | exact srO_lt _ _ | exact tgO_lt _ _ | exact srO_lt _ | exact tgO_lt _ | exact pr12 hcnt hpc) (by decide) dX4_raise_48 ?_
                refine q_top (w := .int (nI (anyU (blwS ar cnt j1) k).toNat)) (congrArg (fun z => Value.int (nI (Bool.toNat z))) (updB_same _ _ _)) ?_
                refine q_bne E (tgt := 78) dX4_raise_49 (by decide) (fun hb49 => ?_) (fun hb49 => ?_)
                · skip
                  have hv : anyU (blwS ar cnt j1) (k + 1) = true := by simp [anyU, hb49]
                  refine q_ic E 1 dX4_raise_78 (by decide) ?_
                  refine q_go E (tgt := 83) dX4_raise_79 (by decide) ?_
                  refine q_top (w := .int (nI (true : Bool).toNat)) rfl ?_
                  refine q_zast E h 2 (f := (updB (beR ar cnt be (j1 + 1)) j1 (anyU (blwS ar cnt j1) k))) rfl (by first | omega | assumption | exact srO_in | exact tgO_out hpc | exact srO_lt _ _ | exact tgO_lt _ _ | exact srO_lt _ | exact tgO_lt _ | exact pr12 hcnt hpc) (by decide) dX4_raise_83 (w2 := [(m0, .inr (4, [.int (nI th), .int (nI cnt), .ref mw, .int (nI pr), .ref ma, .int (nI tol), .int (nI kn.toNat), .ref mc, .ref mf, .ref mr, .ref mt, .ref mar, .ref mbe, .ref mou])), (mar, .inl (gZ g, 4096, .inl (aB ar))), (mbe, .inl (gZ g, 4096, .inl (aB (updB (updB (beR ar cnt be (j1 + 1)) j1 (anyU (blwS ar cnt j1) k)) j1 true))))]) rfl (fun H locs h => ?_)
                  refine q_inc E (lv' := [(2, .int (nI (k + 1))), (0, .ref m0), (1, .int (nI j1))]) hl dX4_raise_84 (k := 2) rfl (by decide) rfl (fun ls hl => ?_)
                  refine q_go E (tgt := 22) dX4_raise_87 (by decide) ?_
                  exact ih22  (k + 1) (by omega) (by omega) _ (by first | (rw [updB_twice, hv]) | (rw [hv])) _ _ h _ (lv_sub hl [1, 2, 0] rfl)
                · skip
                  refine lv_aload_n E.1.1 E.1.2.1 dX4_raise_52 rfl (lv_at hl 0 rfl) ?_
                  refine q_get E h (C := RX4) (T := TX4) (N := 14) 4 rfl c_2 0 rfl 11 (by decide) c_6 (v := .ref mar) rfl dX4_raise_53 ?_
                  refine lv_iload_n E.1.1 E.1.2.1 dX4_raise_56 rfl (lv_at hl 1 rfl) ?_
                  refine q_ic E 1 dX4_raise_57 (by decide) ?_
                  refine lv_iload_n E.1.1 E.1.2.1 dX4_raise_58 rfl (lv_at hl 2 rfl) ?_
                  refine q_shl1 E (by first | omega | assumption | exact srO_in | exact tgO_out hpc | exact srO_lt _ _ | exact tgO_lt _ _ | exact srO_lt _ | exact tgO_lt _ | exact pr12 hcnt hpc) dX4_raise_59 ?_
                  refine q_or E dX4_raise_60 ?_
                  refine q_zald E h 1 (f := ar) rfl (by exact Nat.lt_of_lt_of_le (or_bit_lt (show j1 < 2 ^ cnt by omega) (by omega)) hp12) (by decide) dX4_raise_61 ?_
                  refine q_bne E (tgt := 78) dX4_raise_62 (by decide) (fun hb62 => ?_) (fun hb62 => ?_)
                  · skip
                    have hv : anyU (blwS ar cnt j1) (k + 1) = true := by simp [anyU, blwS, hb35, hb62]
                    refine q_ic E 1 dX4_raise_78 (by decide) ?_
                    refine q_go E (tgt := 83) dX4_raise_79 (by decide) ?_
                    refine q_top (w := .int (nI (true : Bool).toNat)) rfl ?_
                    refine q_zast E h 2 (f := (updB (beR ar cnt be (j1 + 1)) j1 (anyU (blwS ar cnt j1) k))) rfl (by first | omega | assumption | exact srO_in | exact tgO_out hpc | exact srO_lt _ _ | exact tgO_lt _ _ | exact srO_lt _ | exact tgO_lt _ | exact pr12 hcnt hpc) (by decide) dX4_raise_83 (w2 := [(m0, .inr (4, [.int (nI th), .int (nI cnt), .ref mw, .int (nI pr), .ref ma, .int (nI tol), .int (nI kn.toNat), .ref mc, .ref mf, .ref mr, .ref mt, .ref mar, .ref mbe, .ref mou])), (mar, .inl (gZ g, 4096, .inl (aB ar))), (mbe, .inl (gZ g, 4096, .inl (aB (updB (updB (beR ar cnt be (j1 + 1)) j1 (anyU (blwS ar cnt j1) k)) j1 true))))]) rfl (fun H locs h => ?_)
                    refine q_inc E (lv' := [(2, .int (nI (k + 1))), (0, .ref m0), (1, .int (nI j1))]) hl dX4_raise_84 (k := 2) rfl (by decide) rfl (fun ls hl => ?_)
                    refine q_go E (tgt := 22) dX4_raise_87 (by decide) ?_
                    exact ih22  (k + 1) (by omega) (by omega) _ (by first | (rw [updB_twice, hv]) | (rw [hv])) _ _ h _ (lv_sub hl [1, 2, 0] rfl)
                  · skip
                    refine lv_aload_n E.1.1 E.1.2.1 dX4_raise_65 rfl (lv_at hl 0 rfl) ?_
                    refine q_get E h (C := RX4) (T := TX4) (N := 14) 4 rfl c_2 0 rfl 12 (by decide) c_3 (v := .ref mbe) rfl dX4_raise_66 ?_
                    refine lv_iload_n E.1.1 E.1.2.1 dX4_raise_69 rfl (lv_at hl 1 rfl) ?_
                    refine q_ic E 1 dX4_raise_70 (by decide) ?_
                    refine lv_iload_n E.1.1 E.1.2.1 dX4_raise_71 rfl (lv_at hl 2 rfl) ?_
                    refine q_shl1 E (by first | omega | assumption | exact srO_in | exact tgO_out hpc | exact srO_lt _ _ | exact tgO_lt _ _ | exact srO_lt _ | exact tgO_lt _ | exact pr12 hcnt hpc) dX4_raise_72 ?_
                    refine q_or E dX4_raise_73 ?_
                    refine q_zald E h 2 (f := (updB (beR ar cnt be (j1 + 1)) j1 (anyU (blwS ar cnt j1) k))) rfl (by exact Nat.lt_of_lt_of_le (or_bit_lt (show j1 < 2 ^ cnt by omega) (by omega)) hp12) (by decide) dX4_raise_74 ?_
                    refine q_top (w := .int (nI (blw ar (2 ^ cnt) (j1 ||| 2 ^ k)).toNat)) (congrArg (fun z => Value.int (nI (Bool.toNat z))) (beR_at (by omega) (by omega) hb35)) ?_
                    refine q_beq E (tgt := 82) dX4_raise_75 (by decide) (fun hb75 => ?_) (fun hb75 => ?_)
                    · skip
                      have hv : anyU (blwS ar cnt j1) (k + 1) = false := by simp [anyU, blwS, hb35, hb49, hb62, hb75]
                      refine q_ic E 0 dX4_raise_82 (by decide) ?_
                      refine q_top (w := .int (nI (false : Bool).toNat)) rfl ?_
                      refine q_zast E h 2 (f := (updB (beR ar cnt be (j1 + 1)) j1 (anyU (blwS ar cnt j1) k))) rfl (by first | omega | assumption | exact srO_in | exact tgO_out hpc | exact srO_lt _ _ | exact tgO_lt _ _ | exact srO_lt _ | exact tgO_lt _ | exact pr12 hcnt hpc) (by decide) dX4_raise_83 (w2 := [(m0, .inr (4, [.int (nI th), .int (nI cnt), .ref mw, .int (nI pr), .ref ma, .int (nI tol), .int (nI kn.toNat), .ref mc, .ref mf, .ref mr, .ref mt, .ref mar, .ref mbe, .ref mou])), (mar, .inl (gZ g, 4096, .inl (aB ar))), (mbe, .inl (gZ g, 4096, .inl (aB (updB (updB (beR ar cnt be (j1 + 1)) j1 (anyU (blwS ar cnt j1) k)) j1 false))))]) rfl (fun H locs h => ?_)
                      refine q_inc E (lv' := [(2, .int (nI (k + 1))), (0, .ref m0), (1, .int (nI j1))]) hl dX4_raise_84 (k := 2) rfl (by decide) rfl (fun ls hl => ?_)
                      refine q_go E (tgt := 22) dX4_raise_87 (by decide) ?_
                      exact ih22  (k + 1) (by omega) (by omega) _ (by first | (rw [updB_twice, hv]) | (rw [hv])) _ _ h _ (lv_sub hl [1, 2, 0] rfl)
                    · skip
                      have hv : anyU (blwS ar cnt j1) (k + 1) = true := by simp [anyU, blwS, hb35, hb75]
                      refine q_ic E 1 dX4_raise_78 (by decide) ?_
                      refine q_go E (tgt := 83) dX4_raise_79 (by decide) ?_
                      refine q_top (w := .int (nI (true : Bool).toNat)) rfl ?_
                      refine q_zast E h 2 (f := (updB (beR ar cnt be (j1 + 1)) j1 (anyU (blwS ar cnt j1) k))) rfl (by first | omega | assumption | exact srO_in | exact tgO_out hpc | exact srO_lt _ _ | exact tgO_lt _ _ | exact srO_lt _ | exact tgO_lt _ | exact pr12 hcnt hpc) (by decide) dX4_raise_83 (w2 := [(m0, .inr (4, [.int (nI th), .int (nI cnt), .ref mw, .int (nI pr), .ref ma, .int (nI tol), .int (nI kn.toNat), .ref mc, .ref mf, .ref mr, .ref mt, .ref mar, .ref mbe, .ref mou])), (mar, .inl (gZ g, 4096, .inl (aB ar))), (mbe, .inl (gZ g, 4096, .inl (aB (updB (updB (beR ar cnt be (j1 + 1)) j1 (anyU (blwS ar cnt j1) k)) j1 true))))]) rfl (fun H locs h => ?_)
                      refine q_inc E (lv' := [(2, .int (nI (k + 1))), (0, .ref m0), (1, .int (nI j1))]) hl dX4_raise_84 (k := 2) rfl (by decide) rfl (fun ls hl => ?_)
                      refine q_go E (tgt := 22) dX4_raise_87 (by decide) ?_
                      exact ih22  (k + 1) (by omega) (by omega) _ (by first | (rw [updB_twice, hv]) | (rw [hv])) _ _ h _ (lv_sub hl [1, 2, 0] rfl)
        exact lp22 ((cnt - 0) + 1) 0 (Nat.lt_succ_self _) (by omega) _ rfl _ _ h _ (lv_sub hl [1, 2, 0] rfl)
  exact lp9 ((2 ^ cnt) + 1) (2 ^ cnt) (Nat.lt_succ_self _) (by omega) _ (by exact jI_pos hp0) _ (by exact (beR_top ar cnt be).symm) _ _ h _ (lv_sub hl [1, 0] rfl)

set_option maxHeartbeats 4000000 in
set_option maxRecDepth 100000 in
theorem k_X4_put_ (l : Launch) (g : GK) (m0 mw ma mc mf mr mt mar mbe mou : Nat) (th cnt pr tol : Nat) (kn : Bool) (L : Nat → List Nat) (c0 f0 : Nat → Nat) (kd v : Nat) (hk : kd < 7) (hln : (L kd).length < 4096) : CV (S := Unit) l g yX4_put_ wsX4_put_ { frames := 0, cells := 0, slots := 0, locals := 0 } [.ref m0, .int (nI kd), .int (nI v)] [(m0, .inr (4, [.int (nI th), .int (nI cnt), .ref mw, .int (nI pr), .ref ma, .int (nI tol), .int (nI kn.toNat), .ref mc, .ref mf, .ref mr, .ref mt, .ref mar, .ref mbe, .ref mou])), (mc, .inl (gI g, 7, .inl (aN (csF L c0)))), (mf, .inl (gI g, 28672, .inl (aN (fdF L f0))))] (fun _ => True) (fun _ => [(m0, .inr (4, [.int (nI th), .int (nI cnt), .ref mw, .int (nI pr), .ref ma, .int (nI tol), .int (nI kn.toNat), .ref mc, .ref mf, .ref mr, .ref mt, .ref mar, .ref mbe, .ref mou])), (mc, .inl (gI g, 7, .inl (aN (csF (updL L kd v) c0)))), (mf, .inl (gI g, 28672, .inl (aN (fdF (updL L kd v) f0))))]) := by
  refine q_ofV (own := RX4) (by decide) rfl rfl (Nat.le_of_ble_eq_true rfl) ?_
  intro p e s m below meth c A Q args E hmn h hend ls hl
  have hl : lv_has ls 3 [(0, .ref m0), (1, .int (nI kd)), (2, .int (nI v))] := hl
  have c_1 := E.1.2.2.2.2 (.fieldLink RX4 23 "DebateSolverModel" "found" "[I") (by decide +kernel)
  have c_2 := (by decide +kernel : ∀ w ∈ wsX40, w ∈ wsX4_put_)
  have c_3 := E.1.2.2.2.2 (.fieldLink RX4 20 "DebateSolverModel" "counts" "[I") (by decide +kernel)
  refine lv_aload_n E.1.1 E.1.2.1 dX4_put__0 rfl (lv_at hl 0 rfl) ?_
  refine q_get E h (C := RX4) (T := TX4) (N := 14) 4 rfl c_2 0 rfl 8 (by decide) c_1 (v := .ref mf) rfl dX4_put__1 ?_
  refine q_si E 4096 dX4_put__4 (by decide) ?_
  refine lv_iload_n E.1.1 E.1.2.1 dX4_put__7 rfl (lv_at hl 1 rfl) ?_
  refine q_mul E dX4_put__8 ?_
  refine lv_aload_n E.1.1 E.1.2.1 dX4_put__9 rfl (lv_at hl 0 rfl) ?_
  refine q_get E h (C := RX4) (T := TX4) (N := 14) 4 rfl c_2 0 rfl 7 (by decide) c_3 (v := .ref mc) rfl dX4_put__10 ?_
  refine lv_iload_n E.1.1 E.1.2.1 dX4_put__13 rfl (lv_at hl 1 rfl) ?_
  refine q_iald E h 1 (f := (csF L c0)) rfl (by first | omega | assumption | exact srO_in | exact tgO_out hpc | exact srO_lt _ _ | exact tgO_lt _ _ | exact srO_lt _ | exact tgO_lt _ | exact pr12 hcnt hpc) (by decide) dX4_put__14 ?_
  refine q_top (w := .int (nI ((L kd).length))) (congrArg (fun z => Value.int (nI z)) (csF_at hk)) ?_
  refine q_add E dX4_put__15 ?_
  refine lv_iload_n E.1.1 E.1.2.1 dX4_put__16 rfl (lv_at hl 2 rfl) ?_
  refine q_iast E h 2 (f := (fdF L f0)) rfl (by first | omega | assumption | exact srO_in | exact tgO_out hpc | exact srO_lt _ _ | exact tgO_lt _ _ | exact srO_lt _ | exact tgO_lt _ | exact pr12 hcnt hpc) (by decide) dX4_put__17 (w2 := [(m0, .inr (4, [.int (nI th), .int (nI cnt), .ref mw, .int (nI pr), .ref ma, .int (nI tol), .int (nI kn.toNat), .ref mc, .ref mf, .ref mr, .ref mt, .ref mar, .ref mbe, .ref mou])), (mc, .inl (gI g, 7, .inl (aN (csF L c0)))), (mf, .inl (gI g, 28672, .inl (aN (updN (fdF L f0) ((4096 * kd) + ((L kd).length)) v))))]) rfl (fun H locs h => ?_)
  rw [fdF_put hk hln] at h
  refine lv_aload_n E.1.1 E.1.2.1 dX4_put__18 rfl (lv_at hl 0 rfl) ?_
  refine q_get E h (C := RX4) (T := TX4) (N := 14) 4 rfl c_2 0 rfl 7 (by decide) c_3 (v := .ref mc) rfl dX4_put__19 ?_
  refine lv_iload_n E.1.1 E.1.2.1 dX4_put__22 rfl (lv_at hl 1 rfl) ?_
  refine lv_dup2_11 E.1.1 E.1.2.1 dX4_put__23 rfl rfl ?_
  refine q_iald E h 1 (f := (csF L c0)) rfl (by first | omega | assumption | exact srO_in | exact tgO_out hpc | exact srO_lt _ _ | exact tgO_lt _ _ | exact srO_lt _ | exact tgO_lt _ | exact pr12 hcnt hpc) (by decide) dX4_put__24 ?_
  refine q_ic E 1 dX4_put__25 (by decide) ?_
  refine q_add E dX4_put__26 ?_
  refine q_iast E h 1 (f := (csF L c0)) rfl (by first | omega | assumption | exact srO_in | exact tgO_out hpc | exact srO_lt _ _ | exact tgO_lt _ _ | exact srO_lt _ | exact tgO_lt _ | exact pr12 hcnt hpc) (by decide) dX4_put__27 (w2 := [(m0, .inr (4, [.int (nI th), .int (nI cnt), .ref mw, .int (nI pr), .ref ma, .int (nI tol), .int (nI kn.toNat), .ref mc, .ref mf, .ref mr, .ref mt, .ref mar, .ref mbe, .ref mou])), (mc, .inl (gI g, 7, .inl (aN (updN (csF L c0) kd (((csF L c0) kd) + 1))))), (mf, .inl (gI g, 28672, .inl (aN (fdF (updL L kd v) f0))))]) rfl (fun H locs h => ?_)
  rw [csF_put hk] at h
  -- world at the end: [(m0, .inr (4, [.int (nI th), .int (nI cnt), .ref mw, .int (nI pr), .ref ma, .int (nI tol), .int (nI kn.toNat), .ref mc, .ref mf, .ref mr, .ref mt, .ref mar, .ref mbe, .ref mou])), (mc, .inl (gI g, 7, .inl (aN (csF (updL L kd v) c0)))), (mf, .inl (gI g, 28672, .inl (aN (fdF (updL L kd v) f0))))]
  exact hend _ _ _ _ () h dX4_put__28 trivial

set_option maxHeartbeats 4000000 in
set_option maxRecDepth 100000 in
theorem k_X4_findRanges (l : Launch) (g : GK) (m0 mw ma mc mf mr mt mar mbe mou : Nat) (th cnt pr tol : Nat) (kn : Bool) (sr tg fr to_ : Nat → Nat) (L : Nat → List Nat) (c0 f0 : Nat → Nat) (ar be : Nat → Bool) (kd : Nat) (t : Bool) (hcnt : cnt ≤ 12) (hpc : pr < 2 ^ cnt) (hz : ∀ j, cnt ≤ j → tg j = 0) (hsr : ∀ k, sr k < 4096) (htg : ∀ k, tg k < 4096) (hss : ∀ k, ldf (sr k) pr = 0) (htc : ∀ k, tg k < 2 ^ cnt) (hkd : kd < 7) (hL : L kd = []) : CV (S := Unit) l g yX4_findRanges wsX4_findRanges { frames := 4, cells := 0, slots := 0, locals := 89 } [.ref m0, .int (nI kd), .int (nI t.toNat)] [(m0, .inr (4, [.int (nI th), .int (nI cnt), .ref mw, .int (nI pr), .ref ma, .int (nI tol), .int (nI kn.toNat), .ref mc, .ref mf, .ref mr, .ref mt, .ref mar, .ref mbe, .ref mou])), (mr, .inl (gI g, 12, .inl (aN (ovA cnt sr fr)))), (mt, .inl (gI g, 12, .inl (aN (ovA cnt tg to_)))), (mc, .inl (gI g, 7, .inl (aN (csF L c0)))), (mf, .inl (gI g, 28672, .inl (aN (fdF L f0)))), (mar, .inl (gZ g, 4096, .inl (aB ar))), (mbe, .inl (gZ g, 4096, .inl (aB be)))] (fun _ => True) (fun _ => [(m0, .inr (4, [.int (nI th), .int (nI cnt), .ref mw, .int (nI pr), .ref ma, .int (nI tol), .int (nI kn.toNat), .ref mc, .ref mf, .ref mr, .ref mt, .ref mar, .ref mbe, .ref mou])), (mr, .inl (gI g, 12, .inl (aN (ovA cnt sr fr)))), (mt, .inl (gI g, 12, .inl (aN (ovA cnt tg to_)))), (mc, .inl (gI g, 7, .inl (aN (csF (setL L kd (sel (mR sr tg pr cnt t) (2 ^ cnt))) c0)))), (mf, .inl (gI g, 28672, .inl (aN (fdF (setL L kd (sel (mR sr tg pr cnt t) (2 ^ cnt))) f0)))), (mar, .inl (gZ g, 4096, .inl (aB (ovB (2 ^ cnt) (rgA sr tg pr t (2 ^ cnt)) ar)))), (mbe, .inl (gZ g, 4096, .inl (aB (beR (ovB (2 ^ cnt) (rgA sr tg pr t (2 ^ cnt)) ar) cnt be 0))))]) := by
  refine q_ofV (own := RX4) (by decide) rfl rfl (Nat.le_of_ble_eq_true rfl) ?_
  intro p e s m below meth c A Q args E hmn h hend ls hl
  have hl : lv_has ls 5 [(0, .ref m0), (1, .int (nI kd)), (2, .int (nI t.toNat))] := hl
  have c_1 := E.1.2.2.2.2 (.fieldLink RX4 47 "DebateSolverModel" "many" "I") (by decide +kernel)
  have c_2 := (by decide +kernel : ∀ w ∈ wsX40, w ∈ wsX4_findRanges)
  have c_3 := cwV (R := { frames := 4, cells := 0, slots := 0, locals := 89 }) (rm := { frames := 1, cells := 0, slots := 0, locals := 21 }) (mc := 0) (ms := 0) 0 E.1.2.2.2.2 gX4_findRanges_X4_raise rfl rfl rfl (by decide +kernel) ⟨Nat.le_of_ble_eq_true rfl, Nat.le_of_ble_eq_true rfl⟩
  have c_4 := E.1.2.2.2.2 (.fieldLink RX4 62 "DebateSolverModel" "in" "I") (by decide +kernel)
  have c_5 := cwV (R := { frames := 4, cells := 0, slots := 0, locals := 89 }) (rm := { frames := 2, cells := 0, slots := 0, locals := 44 }) (mc := 0) (ms := 0) 1 E.1.2.2.2.2 gX4_findRanges_X4_isFreeSet rfl rfl rfl (by decide +kernel) ⟨Nat.le_of_ble_eq_true rfl, Nat.le_of_ble_eq_true rfl⟩
  have c_7 := E.1.2.2.2.2 (.fieldLink RX4 36 "DebateSolverModel" "areBelow" "[Z") (by decide +kernel)
  have c_8 := cwV (R := { frames := 4, cells := 0, slots := 0, locals := 89 }) (rm := { frames := 1, cells := 0, slots := 0, locals := 21 }) (mc := 0) (ms := 0) 1 E.1.2.2.2.2 gX4_findRanges_X4_hit rfl rfl rfl (by decide +kernel) ⟨Nat.le_of_ble_eq_true rfl, Nat.le_of_ble_eq_true rfl⟩
  have c_10 := cwV (R := { frames := 4, cells := 0, slots := 0, locals := 89 }) (rm := { frames := 0, cells := 0, slots := 0, locals := 0 }) (mc := 0) (ms := 0) 2 E.1.2.2.2.2 gX4_findRanges_X4_put_ rfl rfl rfl (by decide +kernel) ⟨Nat.le_of_ble_eq_true rfl, Nat.le_of_ble_eq_true rfl⟩
  have c_11 := cwV (R := { frames := 4, cells := 0, slots := 0, locals := 89 }) (rm := { frames := 3, cells := 0, slots := 0, locals := 68 }) (mc := 0) (ms := 0) 1 E.1.2.2.2.2 gX4_findRanges_X4_isAdmissibleSet rfl rfl rfl (by decide +kernel) ⟨Nat.le_of_ble_eq_true rfl, Nat.le_of_ble_eq_true rfl⟩
  have c_15 := E.1.2.2.2.2 (.fieldLink RX4 32 "DebateSolverModel" "are" "[Z") (by decide +kernel)
  have hp12 := cnt_p12 hcnt
  refine q_ic E 0 dX4_findRanges_0 (by decide) ?_
  refine lv_istore_n (lv' := [(3, .int (nI 0)), (0, .ref m0), (1, .int (nI kd)), (2, .int (nI t.toNat))]) E.1.1 E.1.2.1 dX4_findRanges_1 rfl hl (by decide) rfl (fun ls hl => ?_)
  have lp2 : ∀ (fu : Nat) (k : Nat), 2 ^ cnt - k < fu → (k ≤ 2 ^ cnt) → ∀ (w2_mar : Nat → Bool), w2_mar = ovB k (rgA sr tg pr t 0) ar → ∀ (H : Heap) (locs : List Loc), qH g A s [(m0, .inr (4, [.int (nI th), .int (nI cnt), .ref mw, .int (nI pr), .ref ma, .int (nI tol), .int (nI kn.toNat), .ref mc, .ref mf, .ref mr, .ref mt, .ref mar, .ref mbe, .ref mou])), (mr, .inl (gI g, 12, .inl (aN (ovA cnt sr fr)))), (mt, .inl (gI g, 12, .inl (aN (ovA cnt tg to_)))), (mc, .inl (gI g, 7, .inl (aN (csF L c0)))), (mf, .inl (gI g, 28672, .inl (aN (fdF L f0)))), (mar, .inl (gZ g, 4096, .inl (aB w2_mar))), (mbe, .inl (gZ g, 4096, .inl (aB be)))] H locs → ∀ ls : Array Slot, lv_has ls 5 [(0, .ref m0), (1, .int (nI kd)), (2, .int (nI t.toNat)), (3, .int (nI k))] → W p l e { frames := 4, cells := 0, slots := 0, locals := 89 } s m args below meth c H locs 0 0 Q (F0 m 2 ls []) := by
    intro fu
    induction fu with
    | zero => intro k hfu; exact absurd hfu (Nat.not_lt_zero _)
    | succ fu ih2 =>
      intro k hfu hk w2_mar ew2_mar H locs h ls hl
      subst ew2_mar
      refine lv_iload_n E.1.1 E.1.2.1 dX4_findRanges_2 rfl (lv_at hl 3 rfl) ?_
      refine q_ic E 1 dX4_findRanges_3 (by decide) ?_
      refine lv_aload_n E.1.1 E.1.2.1 dX4_findRanges_4 rfl (lv_at hl 0 rfl) ?_
      refine q_get E h (C := RX4) (T := TX4) (N := 14) 4 rfl c_2 0 rfl 1 (by decide) c_1 (v := .int (nI cnt)) rfl dX4_findRanges_5 ?_
      refine q_shl1 E (by first | omega | assumption | exact srO_in | exact tgO_out hpc | exact srO_lt _ _ | exact tgO_lt _ _ | exact srO_lt _ | exact tgO_lt _ | exact pr12 hcnt hpc) dX4_findRanges_8 ?_
      refine q_ge E (tgt := 25) (by first | omega | assumption | exact srO_in | exact tgO_out hpc | exact srO_lt _ _ | exact tgO_lt _ _ | exact srO_lt _ | exact tgO_lt _ | exact pr12 hcnt hpc) (by first | omega | assumption | exact srO_in | exact tgO_out hpc | exact srO_lt _ _ | exact tgO_lt _ _ | exact srO_lt _ | exact tgO_lt _ | exact pr12 hcnt hpc) dX4_findRanges_9 (by decide) (fun hb9 => ?_) (fun hb9 => ?_)
      · skip
        refine q_ic E 0 dX4_findRanges_25 (by decide) ?_
        refine lv_istore_n (lv' := [(3, .int (nI 0)), (0, .ref m0), (1, .int (nI kd)), (2, .int (nI t.toNat))]) E.1.1 E.1.2.1 dX4_findRanges_26 rfl hl (by decide) rfl (fun ls hl => ?_)
        have lp27 : ∀ (fu : Nat) (k2 : Nat), 2 ^ cnt - k2 < fu → (k2 ≤ 2 ^ cnt) → ∀ (w27_mar : Nat → Bool), w27_mar = ovB (2 ^ cnt) (rgA sr tg pr t k2) ar → ∀ (H : Heap) (locs : List Loc), qH g A s [(m0, .inr (4, [.int (nI th), .int (nI cnt), .ref mw, .int (nI pr), .ref ma, .int (nI tol), .int (nI kn.toNat), .ref mc, .ref mf, .ref mr, .ref mt, .ref mar, .ref mbe, .ref mou])), (mr, .inl (gI g, 12, .inl (aN (ovA cnt sr fr)))), (mt, .inl (gI g, 12, .inl (aN (ovA cnt tg to_)))), (mc, .inl (gI g, 7, .inl (aN (csF L c0)))), (mf, .inl (gI g, 28672, .inl (aN (fdF L f0)))), (mar, .inl (gZ g, 4096, .inl (aB w27_mar))), (mbe, .inl (gZ g, 4096, .inl (aB be)))] H locs → ∀ ls : Array Slot, lv_has ls 5 [(0, .ref m0), (1, .int (nI kd)), (2, .int (nI t.toNat)), (3, .int (nI k2))] → W p l e { frames := 4, cells := 0, slots := 0, locals := 89 } s m args below meth c H locs 0 0 Q (F0 m 27 ls []) := by
          intro fu
          induction fu with
          | zero => intro k2 hfu; exact absurd hfu (Nat.not_lt_zero _)
          | succ fu ih27 =>
            intro k2 hfu hk2 w27_mar ew27_mar H locs h ls hl
            subst ew27_mar
            refine lv_iload_n E.1.1 E.1.2.1 dX4_findRanges_27 rfl (lv_at hl 3 rfl) ?_
            refine q_ic E 1 dX4_findRanges_28 (by decide) ?_
            refine lv_aload_n E.1.1 E.1.2.1 dX4_findRanges_29 rfl (lv_at hl 0 rfl) ?_
            refine q_get E h (C := RX4) (T := TX4) (N := 14) 4 rfl c_2 0 rfl 1 (by decide) c_1 (v := .int (nI cnt)) rfl dX4_findRanges_30 ?_
            refine q_shl1 E (by first | omega | assumption | exact srO_in | exact tgO_out hpc | exact srO_lt _ _ | exact tgO_lt _ _ | exact srO_lt _ | exact tgO_lt _ | exact pr12 hcnt hpc) dX4_findRanges_33 ?_
            refine q_ge E (tgt := 90) (by first | omega | assumption | exact srO_in | exact tgO_out hpc | exact srO_lt _ _ | exact tgO_lt _ _ | exact srO_lt _ | exact tgO_lt _ | exact pr12 hcnt hpc) (by first | omega | assumption | exact srO_in | exact tgO_out hpc | exact srO_lt _ _ | exact tgO_lt _ _ | exact srO_lt _ | exact tgO_lt _ | exact pr12 hcnt hpc) dX4_findRanges_34 (by decide) (fun hb34 => ?_) (fun hb34 => ?_)
            · skip
              rw [show k2 = 2 ^ cnt by omega] at h
              refine lv_aload_n E.1.1 E.1.2.1 dX4_findRanges_90 rfl (lv_at hl 0 rfl) ?_
              refine q_kv (w2 := fun _ => [(m0, .inr (4, [.int (nI th), .int (nI cnt), .ref mw, .int (nI pr), .ref ma, .int (nI tol), .int (nI kn.toNat), .ref mc, .ref mf, .ref mr, .ref mt, .ref mar, .ref mbe, .ref mou])), (mr, .inl (gI g, 12, .inl (aN (ovA cnt sr fr)))), (mt, .inl (gI g, 12, .inl (aN (ovA cnt tg to_)))), (mc, .inl (gI g, 7, .inl (aN (csF L c0)))), (mf, .inl (gI g, 28672, .inl (aN (fdF L f0)))), (mar, .inl (gZ g, 4096, .inl (aB (ovB (2 ^ cnt) (rgA sr tg pr t (2 ^ cnt)) ar)))), (mbe, .inl (gZ g, 4096, .inl (aB (beR (ovB (2 ^ cnt) (rgA sr tg pr t (2 ^ cnt)) ar) cnt be 0))))]) (wr := [(mr, .inl (gI g, 12, .inl (aN (ovA cnt sr fr)))), (mt, .inl (gI g, 12, .inl (aN (ovA cnt tg to_)))), (mc, .inl (gI g, 7, .inl (aN (csF L c0)))), (mf, .inl (gI g, 28672, .inl (aN (fdF L f0))))]) E h [0, 5, 6] [1, 2, 3, 4] [4, 0, 1, 2, 3, 5, 6] (va_runV (As := []) (rest := []) E.1 (k_X4_raise l g m0 mw ma mc mf mr mt mar mbe mou th cnt pr tol kn (ovB (2 ^ cnt) (rgA sr tg pr t (2 ^ cnt)) ar) be (by first | omega | assumption | exact srO_in | exact tgO_out hpc | exact srO_lt _ _ | exact tgO_lt _ _ | exact srO_lt _ | exact tgO_lt _ | exact pr12 hcnt hpc) _) c_3 (q_preV E h [0, 5, 6] rfl rfl (C := RX4) (T := TX4) (N := 14) 4 rfl 0 rfl) rfl rfl hl.1 rfl (lv_room (Nat.le_of_ble_eq_true rfl)) dX4_findRanges_91 ⟨Nat.zero_le _, Nat.zero_le _⟩) rfl rfl rfl (by decide) rfl (fun _ => rfl) (fun _ H locs _ h => ?_)
              refine q_ic E 0 dX4_findRanges_94 (by decide) ?_
              refine lv_istore_n (lv' := [(3, .int (nI 0)), (0, .ref m0), (1, .int (nI kd)), (2, .int (nI t.toNat))]) E.1.1 E.1.2.1 dX4_findRanges_95 rfl hl (by decide) rfl (fun ls hl => ?_)
              have lp96 : ∀ (fu : Nat) (k3 : Nat), 2 ^ cnt - k3 < fu → (k3 ≤ 2 ^ cnt) → ∀ (w96_mc : Nat → Nat), w96_mc = csF (setL L kd (sel (mR sr tg pr cnt t) (k3))) c0 → ∀ (w96_mf : Nat → Nat), w96_mf = fdF (setL L kd (sel (mR sr tg pr cnt t) (k3))) f0 → ∀ (H : Heap) (locs : List Loc), qH g A s [(m0, .inr (4, [.int (nI th), .int (nI cnt), .ref mw, .int (nI pr), .ref ma, .int (nI tol), .int (nI kn.toNat), .ref mc, .ref mf, .ref mr, .ref mt, .ref mar, .ref mbe, .ref mou])), (mr, .inl (gI g, 12, .inl (aN (ovA cnt sr fr)))), (mt, .inl (gI g, 12, .inl (aN (ovA cnt tg to_)))), (mc, .inl (gI g, 7, .inl (aN w96_mc))), (mf, .inl (gI g, 28672, .inl (aN w96_mf))), (mar, .inl (gZ g, 4096, .inl (aB (ovB (2 ^ cnt) (rgA sr tg pr t (2 ^ cnt)) ar)))), (mbe, .inl (gZ g, 4096, .inl (aB (beR (ovB (2 ^ cnt) (rgA sr tg pr t (2 ^ cnt)) ar) cnt be 0))))] H locs → ∀ ls : Array Slot, lv_has ls 5 [(0, .ref m0), (1, .int (nI kd)), (2, .int (nI t.toNat)), (3, .int (nI k3))] → W p l e { frames := 4, cells := 0, slots := 0, locals := 89 } s m args below meth c H locs 0 0 Q (F0 m 96 ls []) := by
                intro fu
                induction fu with
                | zero => intro k3 hfu; exact absurd hfu (Nat.not_lt_zero _)
                | succ fu ih96 =>
                  intro k3 hfu hk3 w96_mc ew96_mc w96_mf ew96_mf H locs h ls hl
                  subst ew96_mc ew96_mf
                  refine lv_iload_n E.1.1 E.1.2.1 dX4_findRanges_96 rfl (lv_at hl 3 rfl) ?_
                  refine q_ic E 1 dX4_findRanges_97 (by decide) ?_
                  refine lv_aload_n E.1.1 E.1.2.1 dX4_findRanges_98 rfl (lv_at hl 0 rfl) ?_
                  refine q_get E h (C := RX4) (T := TX4) (N := 14) 4 rfl c_2 0 rfl 1 (by decide) c_1 (v := .int (nI cnt)) rfl dX4_findRanges_99 ?_
                  refine q_shl1 E (by first | omega | assumption | exact srO_in | exact tgO_out hpc | exact srO_lt _ _ | exact tgO_lt _ _ | exact srO_lt _ | exact tgO_lt _ | exact pr12 hcnt hpc) dX4_findRanges_102 ?_
                  refine q_ge E (tgt := 179) (by first | omega | assumption | exact srO_in | exact tgO_out hpc | exact srO_lt _ _ | exact tgO_lt _ _ | exact srO_lt _ | exact tgO_lt _ | exact pr12 hcnt hpc) (by first | omega | assumption | exact srO_in | exact tgO_out hpc | exact srO_lt _ _ | exact tgO_lt _ _ | exact srO_lt _ | exact tgO_lt _ | exact pr12 hcnt hpc) dX4_findRanges_103 (by decide) (fun hb103 => ?_) (fun hb103 => ?_)
                  · skip
                    -- world at the end: [(m0, .inr (4, [.int (nI th), .int (nI cnt), .ref mw, .int (nI pr), .ref ma, .int (nI tol), .int (nI kn.toNat), .ref mc, .ref mf, .ref mr, .ref mt, .ref mar, .ref mbe, .ref mou])), (mr, .inl (gI g, 12, .inl (aN (ovA cnt sr fr)))), (mt, .inl (gI g, 12, .inl (aN (ovA cnt tg to_)))), (mc, .inl (gI g, 7, .inl (aN (csF (setL L kd (sel (mR sr tg pr cnt t) (k3))) c0)))), (mf, .inl (gI g, 28672, .inl (aN (fdF (setL L kd (sel (mR sr tg pr cnt t) (k3))) f0)))), (mar, .inl (gZ g, 4096, .inl (aB (ovB (2 ^ cnt) (rgA sr tg pr t (2 ^ cnt)) ar)))), (mbe, .inl (gZ g, 4096, .inl (aB (beR (ovB (2 ^ cnt) (rgA sr tg pr t (2 ^ cnt)) ar) cnt be 0))))]
                    exact hend _ _ _ _ () (by rw [show k3 = 2 ^ cnt by omega] at h; exact h) dX4_findRanges_179 trivial
                  · skip
                    have hr : k3 ||| hit tg k3 < 2 ^ cnt := Nat.or_lt_two_pow hb103 (hit_ltc htc)
                    refine lv_iload_n E.1.1 E.1.2.1 dX4_findRanges_106 rfl (lv_at hl 3 rfl) ?_
                    refine lv_aload_n E.1.1 E.1.2.1 dX4_findRanges_107 rfl (lv_at hl 0 rfl) ?_
                    refine q_get E h (C := RX4) (T := TX4) (N := 14) 4 rfl c_2 0 rfl 3 (by decide) c_4 (v := .int (nI pr)) rfl dX4_findRanges_108 ?_
                    refine q_im1 E dX4_findRanges_111 ?_
                    refine q_xor E dX4_findRanges_112 ?_
                    refine q_andn E dX4_findRanges_113 ?_
                    refine q_ne0 E (tgt := 144) (by exact Nat.lt_of_le_of_lt (ldf_le _ _) (by omega)) dX4_findRanges_114 (by decide) (fun hb114 => ?_) (fun hb114 => ?_)
                    · skip
                      have hq : rgQ sr tg pr t k3 = false := by unfold rgQ; rw [beq_false_of_ne hb114]; rfl
                      have hm : mR sr tg pr cnt t k3 = false := by unfold mR; rw [hq]; rfl
                      refine q_ic E 0 dX4_findRanges_144 (by decide) ?_
                      refine lv_istore (lv' := [(4, .int (nI 0)), (0, .ref m0), (1, .int (nI kd)), (2, .int (nI t.toNat)), (3, .int (nI k3))]) E.1.1 E.1.2.1 dX4_findRanges_145 hl (by decide) rfl (fun ls hl => ?_)
                      refine lv_iload E.1.1 E.1.2.1 dX4_findRanges_147 (lv_at hl 0 rfl) ?_
                      refine q_eq0 E (tgt := 173) (by decide) dX4_findRanges_149 (by decide) (fun hb149 => ?_) (fun hb149 => ?_)
                      · skip
                        refine q_inc E (lv' := [(3, .int (nI (k3 + 1))), (4, .int (nI 0)), (0, .ref m0), (1, .int (nI kd)), (2, .int (nI t.toNat))]) hl dX4_findRanges_173 (k := 4) rfl (by decide) rfl (fun ls hl => ?_)
                        refine q_go E (tgt := 96) dX4_findRanges_176 (by decide) ?_
                        exact ih96  (k3 + 1) (by omega) (by omega) _ (by first | exact congrArg (fun z => csF (setL L kd z) c0) (adl_f hm).symm | (rw [updL_set]; exact congrArg (fun z => csF (setL L kd z) c0) (adl_t hm).symm)) _ (by first | exact congrArg (fun z => fdF (setL L kd z) f0) (adl_f hm).symm | (rw [updL_set]; exact congrArg (fun z => fdF (setL L kd z) f0) (adl_t hm).symm)) _ _ h _ (lv_sub hl [2, 3, 4, 0] rfl)
                      · exact absurd hb149 (by decide)
                    · skip
                      refine lv_iload_n E.1.1 E.1.2.1 dX4_findRanges_117 rfl (lv_at hl 2 rfl) ?_
                      refine q_beq E (tgt := 132) dX4_findRanges_118 (by decide) (fun hb118 => ?_) (fun hb118 => ?_)
                      · skip
                        refine lv_aload_n E.1.1 E.1.2.1 dX4_findRanges_132 rfl (lv_at hl 0 rfl) ?_
                        refine lv_iload_n E.1.1 E.1.2.1 dX4_findRanges_133 rfl (lv_at hl 3 rfl) ?_
                        refine q_ki (w2 := fun _ => [(m0, .inr (4, [.int (nI th), .int (nI cnt), .ref mw, .int (nI pr), .ref ma, .int (nI tol), .int (nI kn.toNat), .ref mc, .ref mf, .ref mr, .ref mt, .ref mar, .ref mbe, .ref mou])), (mr, .inl (gI g, 12, .inl (aN (ovA cnt sr fr)))), (mt, .inl (gI g, 12, .inl (aN (ovA cnt tg to_)))), (mc, .inl (gI g, 7, .inl (aN (csF (setL L kd (sel (mR sr tg pr cnt t) (k3))) c0)))), (mf, .inl (gI g, 28672, .inl (aN (fdF (setL L kd (sel (mR sr tg pr cnt t) (k3))) f0)))), (mar, .inl (gZ g, 4096, .inl (aB (ovB (2 ^ cnt) (rgA sr tg pr t (2 ^ cnt)) ar)))), (mbe, .inl (gZ g, 4096, .inl (aB (beR (ovB (2 ^ cnt) (rgA sr tg pr t (2 ^ cnt)) ar) cnt be 0))))]) (wr := [(mr, .inl (gI g, 12, .inl (aN (ovA cnt sr fr)))), (mc, .inl (gI g, 7, .inl (aN (csF (setL L kd (sel (mR sr tg pr cnt t) (k3))) c0)))), (mf, .inl (gI g, 28672, .inl (aN (fdF (setL L kd (sel (mR sr tg pr cnt t) (k3))) f0)))), (mar, .inl (gZ g, 4096, .inl (aB (ovB (2 ^ cnt) (rgA sr tg pr t (2 ^ cnt)) ar)))), (mbe, .inl (gZ g, 4096, .inl (aB (beR (ovB (2 ^ cnt) (rgA sr tg pr t (2 ^ cnt)) ar) cnt be 0))))]) E h [0, 2] [1, 3, 4, 5, 6] [5, 0, 6, 1, 2, 3, 4] (va_runV (As := [.int (nI k3)]) (rest := []) E.1 (k_X4_isFreeSet l g m0 mw ma mc mf mr mt mar mbe mou th cnt pr tol kn tg to_ k3 (by first | omega | assumption | exact srO_in | exact tgO_out hpc | exact srO_lt _ _ | exact tgO_lt _ _ | exact srO_lt _ | exact tgO_lt _ | exact pr12 hcnt hpc) (by first | omega | assumption | exact srO_in | exact tgO_out hpc | exact srO_lt _ _ | exact tgO_lt _ _ | exact srO_lt _ | exact tgO_lt _ | exact pr12 hcnt hpc) (by first | omega | assumption | exact srO_in | exact tgO_out hpc | exact srO_lt _ _ | exact tgO_lt _ _ | exact srO_lt _ | exact tgO_lt _ | exact pr12 hcnt hpc) _) c_5 (q_preV E h [0, 2] rfl rfl (C := RX4) (T := TX4) (N := 14) 4 rfl 0 rfl) rfl rfl hl.1 rfl (lv_room (Nat.le_of_ble_eq_true rfl)) dX4_findRanges_134 ⟨Nat.zero_le _, Nat.zero_le _⟩) rfl rfl rfl (by decide) rfl (fun _ => rfl) (fun r6 _ H locs hr6 h => ?_)
                        subst hr6
                        refine q_beq E (tgt := 144) dX4_findRanges_137 (by decide) (fun hb137 => ?_) (fun hb137 => ?_)
                        · skip
                          have hq : rgQ sr tg pr t k3 = false := by unfold rgQ; rw [hb118, if_neg (by decide), show frQ tg k3 = false from hb137, Bool.and_false]
                          have hm : mR sr tg pr cnt t k3 = false := by unfold mR; rw [hq]; rfl
                          refine q_ic E 0 dX4_findRanges_144 (by decide) ?_
                          refine lv_istore (lv' := [(4, .int (nI 0)), (0, .ref m0), (1, .int (nI kd)), (2, .int (nI t.toNat)), (3, .int (nI k3))]) E.1.1 E.1.2.1 dX4_findRanges_145 hl (by decide) rfl (fun ls hl => ?_)
                          refine lv_iload E.1.1 E.1.2.1 dX4_findRanges_147 (lv_at hl 0 rfl) ?_
                          refine q_eq0 E (tgt := 173) (by decide) dX4_findRanges_149 (by decide) (fun hb149 => ?_) (fun hb149 => ?_)
                          · skip
                            refine q_inc E (lv' := [(3, .int (nI (k3 + 1))), (4, .int (nI 0)), (0, .ref m0), (1, .int (nI kd)), (2, .int (nI t.toNat))]) hl dX4_findRanges_173 (k := 4) rfl (by decide) rfl (fun ls hl => ?_)
                            refine q_go E (tgt := 96) dX4_findRanges_176 (by decide) ?_
                            exact ih96  (k3 + 1) (by omega) (by omega) _ (by first | exact congrArg (fun z => csF (setL L kd z) c0) (adl_f hm).symm | (rw [updL_set]; exact congrArg (fun z => csF (setL L kd z) c0) (adl_t hm).symm)) _ (by first | exact congrArg (fun z => fdF (setL L kd z) f0) (adl_f hm).symm | (rw [updL_set]; exact congrArg (fun z => fdF (setL L kd z) f0) (adl_t hm).symm)) _ _ h _ (lv_sub hl [2, 3, 4, 0] rfl)
                          · exact absurd hb149 (by decide)
                        · skip
                          have hq : rgQ sr tg pr t k3 = true := by unfold rgQ; rw [hb118, if_neg (by decide), show frQ tg k3 = true from hb137, hb114]; rfl
                          refine q_ic E 1 dX4_findRanges_140 (by decide) ?_
                          refine q_go E (tgt := 145) dX4_findRanges_141 (by decide) ?_
                          refine lv_istore (lv' := [(4, .int (nI 1)), (0, .ref m0), (1, .int (nI kd)), (2, .int (nI t.toNat)), (3, .int (nI k3))]) E.1.1 E.1.2.1 dX4_findRanges_145 hl (by decide) rfl (fun ls hl => ?_)
                          refine lv_iload E.1.1 E.1.2.1 dX4_findRanges_147 (lv_at hl 0 rfl) ?_
                          refine q_eq0 E (tgt := 173) (by decide) dX4_findRanges_149 (by decide) (fun hb149 => ?_) (fun hb149 => ?_)
                          · exact absurd hb149 (by decide)
                          · skip
                            refine lv_aload_n E.1.1 E.1.2.1 dX4_findRanges_152 rfl (lv_at hl 1 rfl) ?_
                            refine q_get E h (C := RX4) (T := TX4) (N := 14) 4 rfl c_2 0 rfl 12 (by decide) c_7 (v := .ref mbe) rfl dX4_findRanges_153 ?_
                            refine lv_iload_n E.1.1 E.1.2.1 dX4_findRanges_156 rfl (lv_at hl 4 rfl) ?_
                            refine lv_aload_n E.1.1 E.1.2.1 dX4_findRanges_157 rfl (lv_at hl 1 rfl) ?_
                            refine lv_iload_n E.1.1 E.1.2.1 dX4_findRanges_158 rfl (lv_at hl 4 rfl) ?_
                            refine q_ki (w2 := fun _ => [(m0, .inr (4, [.int (nI th), .int (nI cnt), .ref mw, .int (nI pr), .ref ma, .int (nI tol), .int (nI kn.toNat), .ref mc, .ref mf, .ref mr, .ref mt, .ref mar, .ref mbe, .ref mou])), (mr, .inl (gI g, 12, .inl (aN (ovA cnt sr fr)))), (mt, .inl (gI g, 12, .inl (aN (ovA cnt tg to_)))), (mc, .inl (gI g, 7, .inl (aN (csF (setL L kd (sel (mR sr tg pr cnt t) (k3))) c0)))), (mf, .inl (gI g, 28672, .inl (aN (fdF (setL L kd (sel (mR sr tg pr cnt t) (k3))) f0)))), (mar, .inl (gZ g, 4096, .inl (aB (ovB (2 ^ cnt) (rgA sr tg pr t (2 ^ cnt)) ar)))), (mbe, .inl (gZ g, 4096, .inl (aB (beR (ovB (2 ^ cnt) (rgA sr tg pr t (2 ^ cnt)) ar) cnt be 0))))]) (wr := [(mr, .inl (gI g, 12, .inl (aN (ovA cnt sr fr)))), (mc, .inl (gI g, 7, .inl (aN (csF (setL L kd (sel (mR sr tg pr cnt t) (k3))) c0)))), (mf, .inl (gI g, 28672, .inl (aN (fdF (setL L kd (sel (mR sr tg pr cnt t) (k3))) f0)))), (mar, .inl (gZ g, 4096, .inl (aB (ovB (2 ^ cnt) (rgA sr tg pr t (2 ^ cnt)) ar)))), (mbe, .inl (gZ g, 4096, .inl (aB (beR (ovB (2 ^ cnt) (rgA sr tg pr t (2 ^ cnt)) ar) cnt be 0))))]) E h [0, 2] [1, 3, 4, 5, 6] [5, 0, 6, 1, 2, 3, 4] (va_runV (As := [.int (nI k3)]) (rest := [.int (nI k3), .ref mbe]) E.1 (k_X4_hit l g m0 mw ma mc mf mr mt mar mbe mou th cnt pr tol kn tg to_ k3 (by first | omega | assumption | exact srO_in | exact tgO_out hpc | exact srO_lt _ _ | exact tgO_lt _ _ | exact srO_lt _ | exact tgO_lt _ | exact pr12 hcnt hpc) (by first | omega | assumption | exact srO_in | exact tgO_out hpc | exact srO_lt _ _ | exact tgO_lt _ _ | exact srO_lt _ | exact tgO_lt _ | exact pr12 hcnt hpc) (by first | omega | assumption | exact srO_in | exact tgO_out hpc | exact srO_lt _ _ | exact tgO_lt _ _ | exact srO_lt _ | exact tgO_lt _ | exact pr12 hcnt hpc) _) c_8 (q_preV E h [0, 2] rfl rfl (C := RX4) (T := TX4) (N := 14) 4 rfl 0 rfl) rfl rfl hl.1 rfl (lv_room (Nat.le_of_ble_eq_true rfl)) dX4_findRanges_159 ⟨Nat.zero_le _, Nat.zero_le _⟩) rfl rfl rfl (by decide) rfl (fun _ => rfl) (fun r9 _ H locs hr9 h => ?_)
                            subst hr9
                            refine q_or E dX4_findRanges_162 ?_
                            refine q_zald E h 6 (f := (beR (ovB (2 ^ cnt) (rgA sr tg pr t (2 ^ cnt)) ar) cnt be 0)) rfl (by first | omega | assumption | exact srO_in | exact tgO_out hpc | exact srO_lt _ _ | exact tgO_lt _ _ | exact srO_lt _ | exact tgO_lt _ | exact pr12 hcnt hpc) (by decide) dX4_findRanges_163 ?_
                            refine q_top (w := .int (nI (blw (rgA sr tg pr t (2 ^ cnt)) (2 ^ cnt) (k3 ||| hit tg k3)).toNat)) (congrArg (fun z => Value.int (nI (Bool.toNat z))) ((beR_0at hr).trans ovB_blw)) ?_
                            refine q_bne E (tgt := 173) dX4_findRanges_164 (by decide) (fun hb164 => ?_) (fun hb164 => ?_)
                            · skip
                              have hm : mR sr tg pr cnt t k3 = false := by unfold mR; rw [hb164, Bool.not_true, Bool.and_false]
                              refine q_inc E (lv' := [(3, .int (nI (k3 + 1))), (4, .int (nI 1)), (0, .ref m0), (1, .int (nI kd)), (2, .int (nI t.toNat))]) hl dX4_findRanges_173 (k := 4) rfl (by decide) rfl (fun ls hl => ?_)
                              refine q_go E (tgt := 96) dX4_findRanges_176 (by decide) ?_
                              exact ih96  (k3 + 1) (by omega) (by omega) _ (by first | exact congrArg (fun z => csF (setL L kd z) c0) (adl_f hm).symm | (rw [updL_set]; exact congrArg (fun z => csF (setL L kd z) c0) (adl_t hm).symm)) _ (by first | exact congrArg (fun z => fdF (setL L kd z) f0) (adl_f hm).symm | (rw [updL_set]; exact congrArg (fun z => fdF (setL L kd z) f0) (adl_t hm).symm)) _ _ h _ (lv_sub hl [2, 3, 4, 0] rfl)
                            · skip
                              have hm : mR sr tg pr cnt t k3 = true := by unfold mR; rw [hq, hb164]; rfl
                              refine lv_aload_n E.1.1 E.1.2.1 dX4_findRanges_167 rfl (lv_at hl 1 rfl) ?_
                              refine lv_iload_n E.1.1 E.1.2.1 dX4_findRanges_168 rfl (lv_at hl 2 rfl) ?_
                              refine lv_iload_n E.1.1 E.1.2.1 dX4_findRanges_169 rfl (lv_at hl 4 rfl) ?_
                              refine q_kv (w2 := fun _ => [(m0, .inr (4, [.int (nI th), .int (nI cnt), .ref mw, .int (nI pr), .ref ma, .int (nI tol), .int (nI kn.toNat), .ref mc, .ref mf, .ref mr, .ref mt, .ref mar, .ref mbe, .ref mou])), (mr, .inl (gI g, 12, .inl (aN (ovA cnt sr fr)))), (mt, .inl (gI g, 12, .inl (aN (ovA cnt tg to_)))), (mc, .inl (gI g, 7, .inl (aN (csF (updL (setL L kd (sel (mR sr tg pr cnt t) (k3))) kd k3) c0)))), (mf, .inl (gI g, 28672, .inl (aN (fdF (updL (setL L kd (sel (mR sr tg pr cnt t) (k3))) kd k3) f0)))), (mar, .inl (gZ g, 4096, .inl (aB (ovB (2 ^ cnt) (rgA sr tg pr t (2 ^ cnt)) ar)))), (mbe, .inl (gZ g, 4096, .inl (aB (beR (ovB (2 ^ cnt) (rgA sr tg pr t (2 ^ cnt)) ar) cnt be 0))))]) (wr := [(mr, .inl (gI g, 12, .inl (aN (ovA cnt sr fr)))), (mt, .inl (gI g, 12, .inl (aN (ovA cnt tg to_)))), (mar, .inl (gZ g, 4096, .inl (aB (ovB (2 ^ cnt) (rgA sr tg pr t (2 ^ cnt)) ar)))), (mbe, .inl (gZ g, 4096, .inl (aB (beR (ovB (2 ^ cnt) (rgA sr tg pr t (2 ^ cnt)) ar) cnt be 0))))]) E h [0, 3, 4] [1, 2, 5, 6] [4, 0, 1, 5, 6, 2, 3] (va_runV (As := [.int (nI kd), .int (nI k3)]) (rest := []) E.1 (k_X4_put_ l g m0 mw ma mc mf mr mt mar mbe mou th cnt pr tol kn (setL L kd (sel (mR sr tg pr cnt t) (k3))) c0 f0 kd k3 (by first | omega | assumption | exact srO_in | exact tgO_out hpc | exact srO_lt _ _ | exact tgO_lt _ _ | exact srO_lt _ | exact tgO_lt _ | exact pr12 hcnt hpc) (by unfold setL; rw [if_pos rfl]; exact Nat.lt_of_le_of_lt (sel_len _ _) (by omega)) _) c_10 (q_preV E h [0, 3, 4] rfl rfl (C := RX4) (T := TX4) (N := 14) 4 rfl 0 rfl) rfl rfl hl.1 rfl (lv_room (Nat.le_of_ble_eq_true rfl)) dX4_findRanges_170 ⟨Nat.zero_le _, Nat.zero_le _⟩) rfl rfl rfl (by decide) rfl (fun _ => rfl) (fun _ H locs _ h => ?_)
                              refine q_inc E (lv' := [(3, .int (nI (k3 + 1))), (4, .int (nI 1)), (0, .ref m0), (1, .int (nI kd)), (2, .int (nI t.toNat))]) hl dX4_findRanges_173 (k := 4) rfl (by decide) rfl (fun ls hl => ?_)
                              refine q_go E (tgt := 96) dX4_findRanges_176 (by decide) ?_
                              exact ih96  (k3 + 1) (by omega) (by omega) _ (by first | exact congrArg (fun z => csF (setL L kd z) c0) (adl_f hm).symm | (rw [updL_set]; exact congrArg (fun z => csF (setL L kd z) c0) (adl_t hm).symm)) _ (by first | exact congrArg (fun z => fdF (setL L kd z) f0) (adl_f hm).symm | (rw [updL_set]; exact congrArg (fun z => fdF (setL L kd z) f0) (adl_t hm).symm)) _ _ h _ (lv_sub hl [2, 3, 4, 0] rfl)
                      · skip
                        refine lv_aload_n E.1.1 E.1.2.1 dX4_findRanges_121 rfl (lv_at hl 0 rfl) ?_
                        refine lv_iload_n E.1.1 E.1.2.1 dX4_findRanges_122 rfl (lv_at hl 3 rfl) ?_
                        refine q_ki (w2 := fun _ => [(m0, .inr (4, [.int (nI th), .int (nI cnt), .ref mw, .int (nI pr), .ref ma, .int (nI tol), .int (nI kn.toNat), .ref mc, .ref mf, .ref mr, .ref mt, .ref mar, .ref mbe, .ref mou])), (mr, .inl (gI g, 12, .inl (aN (ovA cnt sr fr)))), (mt, .inl (gI g, 12, .inl (aN (ovA cnt tg to_)))), (mc, .inl (gI g, 7, .inl (aN (csF (setL L kd (sel (mR sr tg pr cnt t) (k3))) c0)))), (mf, .inl (gI g, 28672, .inl (aN (fdF (setL L kd (sel (mR sr tg pr cnt t) (k3))) f0)))), (mar, .inl (gZ g, 4096, .inl (aB (ovB (2 ^ cnt) (rgA sr tg pr t (2 ^ cnt)) ar)))), (mbe, .inl (gZ g, 4096, .inl (aB (beR (ovB (2 ^ cnt) (rgA sr tg pr t (2 ^ cnt)) ar) cnt be 0))))]) (wr := [(mc, .inl (gI g, 7, .inl (aN (csF (setL L kd (sel (mR sr tg pr cnt t) (k3))) c0)))), (mf, .inl (gI g, 28672, .inl (aN (fdF (setL L kd (sel (mR sr tg pr cnt t) (k3))) f0)))), (mar, .inl (gZ g, 4096, .inl (aB (ovB (2 ^ cnt) (rgA sr tg pr t (2 ^ cnt)) ar)))), (mbe, .inl (gZ g, 4096, .inl (aB (beR (ovB (2 ^ cnt) (rgA sr tg pr t (2 ^ cnt)) ar) cnt be 0))))]) E h [0, 1, 2] [3, 4, 5, 6] [4, 5, 6, 0, 1, 2, 3] (va_runV (As := [.int (nI k3)]) (rest := []) E.1 (k_X4_isAdmissibleSet l g m0 mw ma mc mf mr mt mar mbe mou th cnt pr tol kn sr tg fr to_ k3 (by first | omega | assumption | exact srO_in | exact tgO_out hpc | exact srO_lt _ _ | exact tgO_lt _ _ | exact srO_lt _ | exact tgO_lt _ | exact pr12 hcnt hpc) (by first | omega | assumption | exact srO_in | exact tgO_out hpc | exact srO_lt _ _ | exact tgO_lt _ _ | exact srO_lt _ | exact tgO_lt _ | exact pr12 hcnt hpc) (by first | omega | assumption | exact srO_in | exact tgO_out hpc | exact srO_lt _ _ | exact tgO_lt _ _ | exact srO_lt _ | exact tgO_lt _ | exact pr12 hcnt hpc) (by first | omega | assumption | exact srO_in | exact tgO_out hpc | exact srO_lt _ _ | exact tgO_lt _ _ | exact srO_lt _ | exact tgO_lt _ | exact pr12 hcnt hpc) (by first | omega | assumption | exact srO_in | exact tgO_out hpc | exact srO_lt _ _ | exact tgO_lt _ _ | exact srO_lt _ | exact tgO_lt _ | exact pr12 hcnt hpc) (by first | omega | assumption | exact srO_in | exact tgO_out hpc | exact srO_lt _ _ | exact tgO_lt _ _ | exact srO_lt _ | exact tgO_lt _ | exact pr12 hcnt hpc) (by first | omega | assumption | exact srO_in | exact tgO_out hpc | exact srO_lt _ _ | exact tgO_lt _ _ | exact srO_lt _ | exact tgO_lt _ | exact pr12 hcnt hpc) _) c_11 (q_preV E h [0, 1, 2] rfl rfl (C := RX4) (T := TX4) (N := 14) 4 rfl 0 rfl) rfl rfl hl.1 rfl (lv_room (Nat.le_of_ble_eq_true rfl)) dX4_findRanges_123 ⟨Nat.zero_le _, Nat.zero_le _⟩) rfl rfl rfl (by decide) rfl (fun _ => rfl) (fun r12 _ H locs hr12 h => ?_)
                        subst hr12
                        refine q_beq E (tgt := 144) dX4_findRanges_126 (by decide) (fun hb126 => ?_) (fun hb126 => ?_)
                        · skip
                          have hq : rgQ sr tg pr t k3 = false := by unfold rgQ; rw [hb118, if_pos rfl, show adQ sr tg pr k3 = false from hb126, Bool.and_false]
                          have hm : mR sr tg pr cnt t k3 = false := by unfold mR; rw [hq]; rfl
                          refine q_ic E 0 dX4_findRanges_144 (by decide) ?_
                          refine lv_istore (lv' := [(4, .int (nI 0)), (0, .ref m0), (1, .int (nI kd)), (2, .int (nI t.toNat)), (3, .int (nI k3))]) E.1.1 E.1.2.1 dX4_findRanges_145 hl (by decide) rfl (fun ls hl => ?_)
                          refine lv_iload E.1.1 E.1.2.1 dX4_findRanges_147 (lv_at hl 0 rfl) ?_
                          refine q_eq0 E (tgt := 173) (by decide) dX4_findRanges_149 (by decide) (fun hb149 => ?_) (fun hb149 => ?_)
                          · skip
                            refine q_inc E (lv' := [(3, .int (nI (k3 + 1))), (4, .int (nI 0)), (0, .ref m0), (1, .int (nI kd)), (2, .int (nI t.toNat))]) hl dX4_findRanges_173 (k := 4) rfl (by decide) rfl (fun ls hl => ?_)
                            refine q_go E (tgt := 96) dX4_findRanges_176 (by decide) ?_
                            exact ih96  (k3 + 1) (by omega) (by omega) _ (by first | exact congrArg (fun z => csF (setL L kd z) c0) (adl_f hm).symm | (rw [updL_set]; exact congrArg (fun z => csF (setL L kd z) c0) (adl_t hm).symm)) _ (by first | exact congrArg (fun z => fdF (setL L kd z) f0) (adl_f hm).symm | (rw [updL_set]; exact congrArg (fun z => fdF (setL L kd z) f0) (adl_t hm).symm)) _ _ h _ (lv_sub hl [2, 3, 4, 0] rfl)
                          · exact absurd hb149 (by decide)
                        · skip
                          have hq : rgQ sr tg pr t k3 = true := by unfold rgQ; rw [hb118, if_pos rfl, show adQ sr tg pr k3 = true from hb126, hb114]; rfl
                          refine q_go E (tgt := 140) dX4_findRanges_129 (by decide) ?_
                          refine q_ic E 1 dX4_findRanges_140 (by decide) ?_
                          refine q_go E (tgt := 145) dX4_findRanges_141 (by decide) ?_
                          refine lv_istore (lv' := [(4, .int (nI 1)), (0, .ref m0), (1, .int (nI kd)), (2, .int (nI t.toNat)), (3, .int (nI k3))]) E.1.1 E.1.2.1 dX4_findRanges_145 hl (by decide) rfl (fun ls hl => ?_)
                          refine lv_iload E.1.1 E.1.2.1 dX4_findRanges_147 (lv_at hl 0 rfl) ?_
                          refine q_eq0 E (tgt := 173) (by decide) dX4_findRanges_149 (by decide) (fun hb149 => ?_) (fun hb149 => ?_)
                          · exact absurd hb149 (by decide)
                          · skip
                            refine lv_aload_n E.1.1 E.1.2.1 dX4_findRanges_152 rfl (lv_at hl 1 rfl) ?_
                            refine q_get E h (C := RX4) (T := TX4) (N := 14) 4 rfl c_2 0 rfl 12 (by decide) c_7 (v := .ref mbe) rfl dX4_findRanges_153 ?_
                            refine lv_iload_n E.1.1 E.1.2.1 dX4_findRanges_156 rfl (lv_at hl 4 rfl) ?_
                            refine lv_aload_n E.1.1 E.1.2.1 dX4_findRanges_157 rfl (lv_at hl 1 rfl) ?_
                            refine lv_iload_n E.1.1 E.1.2.1 dX4_findRanges_158 rfl (lv_at hl 4 rfl) ?_
                            refine q_ki (w2 := fun _ => [(m0, .inr (4, [.int (nI th), .int (nI cnt), .ref mw, .int (nI pr), .ref ma, .int (nI tol), .int (nI kn.toNat), .ref mc, .ref mf, .ref mr, .ref mt, .ref mar, .ref mbe, .ref mou])), (mr, .inl (gI g, 12, .inl (aN (ovA cnt sr fr)))), (mt, .inl (gI g, 12, .inl (aN (ovA cnt tg to_)))), (mc, .inl (gI g, 7, .inl (aN (csF (setL L kd (sel (mR sr tg pr cnt t) (k3))) c0)))), (mf, .inl (gI g, 28672, .inl (aN (fdF (setL L kd (sel (mR sr tg pr cnt t) (k3))) f0)))), (mar, .inl (gZ g, 4096, .inl (aB (ovB (2 ^ cnt) (rgA sr tg pr t (2 ^ cnt)) ar)))), (mbe, .inl (gZ g, 4096, .inl (aB (beR (ovB (2 ^ cnt) (rgA sr tg pr t (2 ^ cnt)) ar) cnt be 0))))]) (wr := [(mr, .inl (gI g, 12, .inl (aN (ovA cnt sr fr)))), (mc, .inl (gI g, 7, .inl (aN (csF (setL L kd (sel (mR sr tg pr cnt t) (k3))) c0)))), (mf, .inl (gI g, 28672, .inl (aN (fdF (setL L kd (sel (mR sr tg pr cnt t) (k3))) f0)))), (mar, .inl (gZ g, 4096, .inl (aB (ovB (2 ^ cnt) (rgA sr tg pr t (2 ^ cnt)) ar)))), (mbe, .inl (gZ g, 4096, .inl (aB (beR (ovB (2 ^ cnt) (rgA sr tg pr t (2 ^ cnt)) ar) cnt be 0))))]) E h [0, 2] [1, 3, 4, 5, 6] [5, 0, 6, 1, 2, 3, 4] (va_runV (As := [.int (nI k3)]) (rest := [.int (nI k3), .ref mbe]) E.1 (k_X4_hit l g m0 mw ma mc mf mr mt mar mbe mou th cnt pr tol kn tg to_ k3 (by first | omega | assumption | exact srO_in | exact tgO_out hpc | exact srO_lt _ _ | exact tgO_lt _ _ | exact srO_lt _ | exact tgO_lt _ | exact pr12 hcnt hpc) (by first | omega | assumption | exact srO_in | exact tgO_out hpc | exact srO_lt _ _ | exact tgO_lt _ _ | exact srO_lt _ | exact tgO_lt _ | exact pr12 hcnt hpc) (by first | omega | assumption | exact srO_in | exact tgO_out hpc | exact srO_lt _ _ | exact tgO_lt _ _ | exact srO_lt _ | exact tgO_lt _ | exact pr12 hcnt hpc) _) c_8 (q_preV E h [0, 2] rfl rfl (C := RX4) (T := TX4) (N := 14) 4 rfl 0 rfl) rfl rfl hl.1 rfl (lv_room (Nat.le_of_ble_eq_true rfl)) dX4_findRanges_159 ⟨Nat.zero_le _, Nat.zero_le _⟩) rfl rfl rfl (by decide) rfl (fun _ => rfl) (fun r13 _ H locs hr13 h => ?_)
                            subst hr13
                            refine q_or E dX4_findRanges_162 ?_
                            refine q_zald E h 6 (f := (beR (ovB (2 ^ cnt) (rgA sr tg pr t (2 ^ cnt)) ar) cnt be 0)) rfl (by first | omega | assumption | exact srO_in | exact tgO_out hpc | exact srO_lt _ _ | exact tgO_lt _ _ | exact srO_lt _ | exact tgO_lt _ | exact pr12 hcnt hpc) (by decide) dX4_findRanges_163 ?_
                            refine q_top (w := .int (nI (blw (rgA sr tg pr t (2 ^ cnt)) (2 ^ cnt) (k3 ||| hit tg k3)).toNat)) (congrArg (fun z => Value.int (nI (Bool.toNat z))) ((beR_0at hr).trans ovB_blw)) ?_
                            refine q_bne E (tgt := 173) dX4_findRanges_164 (by decide) (fun hb164 => ?_) (fun hb164 => ?_)
                            · skip
                              have hm : mR sr tg pr cnt t k3 = false := by unfold mR; rw [hb164, Bool.not_true, Bool.and_false]
                              refine q_inc E (lv' := [(3, .int (nI (k3 + 1))), (4, .int (nI 1)), (0, .ref m0), (1, .int (nI kd)), (2, .int (nI t.toNat))]) hl dX4_findRanges_173 (k := 4) rfl (by decide) rfl (fun ls hl => ?_)
                              refine q_go E (tgt := 96) dX4_findRanges_176 (by decide) ?_
                              exact ih96  (k3 + 1) (by omega) (by omega) _ (by first | exact congrArg (fun z => csF (setL L kd z) c0) (adl_f hm).symm | (rw [updL_set]; exact congrArg (fun z => csF (setL L kd z) c0) (adl_t hm).symm)) _ (by first | exact congrArg (fun z => fdF (setL L kd z) f0) (adl_f hm).symm | (rw [updL_set]; exact congrArg (fun z => fdF (setL L kd z) f0) (adl_t hm).symm)) _ _ h _ (lv_sub hl [2, 3, 4, 0] rfl)
                            · skip
                              have hm : mR sr tg pr cnt t k3 = true := by unfold mR; rw [hq, hb164]; rfl
                              refine lv_aload_n E.1.1 E.1.2.1 dX4_findRanges_167 rfl (lv_at hl 1 rfl) ?_
                              refine lv_iload_n E.1.1 E.1.2.1 dX4_findRanges_168 rfl (lv_at hl 2 rfl) ?_
                              refine lv_iload_n E.1.1 E.1.2.1 dX4_findRanges_169 rfl (lv_at hl 4 rfl) ?_
                              refine q_kv (w2 := fun _ => [(m0, .inr (4, [.int (nI th), .int (nI cnt), .ref mw, .int (nI pr), .ref ma, .int (nI tol), .int (nI kn.toNat), .ref mc, .ref mf, .ref mr, .ref mt, .ref mar, .ref mbe, .ref mou])), (mr, .inl (gI g, 12, .inl (aN (ovA cnt sr fr)))), (mt, .inl (gI g, 12, .inl (aN (ovA cnt tg to_)))), (mc, .inl (gI g, 7, .inl (aN (csF (updL (setL L kd (sel (mR sr tg pr cnt t) (k3))) kd k3) c0)))), (mf, .inl (gI g, 28672, .inl (aN (fdF (updL (setL L kd (sel (mR sr tg pr cnt t) (k3))) kd k3) f0)))), (mar, .inl (gZ g, 4096, .inl (aB (ovB (2 ^ cnt) (rgA sr tg pr t (2 ^ cnt)) ar)))), (mbe, .inl (gZ g, 4096, .inl (aB (beR (ovB (2 ^ cnt) (rgA sr tg pr t (2 ^ cnt)) ar) cnt be 0))))]) (wr := [(mr, .inl (gI g, 12, .inl (aN (ovA cnt sr fr)))), (mt, .inl (gI g, 12, .inl (aN (ovA cnt tg to_)))), (mar, .inl (gZ g, 4096, .inl (aB (ovB (2 ^ cnt) (rgA sr tg pr t (2 ^ cnt)) ar)))), (mbe, .inl (gZ g, 4096, .inl (aB (beR (ovB (2 ^ cnt) (rgA sr tg pr t (2 ^ cnt)) ar) cnt be 0))))]) E h [0, 3, 4] [1, 2, 5, 6] [4, 0, 1, 5, 6, 2, 3] (va_runV (As := [.int (nI kd), .int (nI k3)]) (rest := []) E.1 (k_X4_put_ l g m0 mw ma mc mf mr mt mar mbe mou th cnt pr tol kn (setL L kd (sel (mR sr tg pr cnt t) (k3))) c0 f0 kd k3 (by first | omega | assumption | exact srO_in | exact tgO_out hpc | exact srO_lt _ _ | exact tgO_lt _ _ | exact srO_lt _ | exact tgO_lt _ | exact pr12 hcnt hpc) (by unfold setL; rw [if_pos rfl]; exact Nat.lt_of_le_of_lt (sel_len _ _) (by omega)) _) c_10 (q_preV E h [0, 3, 4] rfl rfl (C := RX4) (T := TX4) (N := 14) 4 rfl 0 rfl) rfl rfl hl.1 rfl (lv_room (Nat.le_of_ble_eq_true rfl)) dX4_findRanges_170 ⟨Nat.zero_le _, Nat.zero_le _⟩) rfl rfl rfl (by decide) rfl (fun _ => rfl) (fun _ H locs _ h => ?_)
                              refine q_inc E (lv' := [(3, .int (nI (k3 + 1))), (4, .int (nI 1)), (0, .ref m0), (1, .int (nI kd)), (2, .int (nI t.toNat))]) hl dX4_findRanges_173 (k := 4) rfl (by decide) rfl (fun ls hl => ?_)
                              refine q_go E (tgt := 96) dX4_findRanges_176 (by decide) ?_
                              exact ih96  (k3 + 1) (by omega) (by omega) _ (by first | exact congrArg (fun z => csF (setL L kd z) c0) (adl_f hm).symm | (rw [updL_set]; exact congrArg (fun z => csF (setL L kd z) c0) (adl_t hm).symm)) _ (by first | exact congrArg (fun z => fdF (setL L kd z) f0) (adl_f hm).symm | (rw [updL_set]; exact congrArg (fun z => fdF (setL L kd z) f0) (adl_t hm).symm)) _ _ h _ (lv_sub hl [2, 3, 4, 0] rfl)
              exact lp96 ((2 ^ cnt - 0) + 1) 0 (Nat.lt_succ_self _) (by omega) _ (by exact congrArg (fun z => csF z c0) (setL_nil hL).symm) _ (by exact congrArg (fun z => fdF z f0) (setL_nil hL).symm) _ _ h _ (lv_sub hl [1, 2, 3, 0] rfl)
            · skip
              have hr : k2 ||| hit tg k2 < 2 ^ cnt := Nat.or_lt_two_pow hb34 (hit_ltc htc)
              refine lv_iload_n E.1.1 E.1.2.1 dX4_findRanges_37 rfl (lv_at hl 3 rfl) ?_
              refine lv_aload_n E.1.1 E.1.2.1 dX4_findRanges_38 rfl (lv_at hl 0 rfl) ?_
              refine q_get E h (C := RX4) (T := TX4) (N := 14) 4 rfl c_2 0 rfl 3 (by decide) c_4 (v := .int (nI pr)) rfl dX4_findRanges_39 ?_
              refine q_im1 E dX4_findRanges_42 ?_
              refine q_xor E dX4_findRanges_43 ?_
              refine q_andn E dX4_findRanges_44 ?_
              refine q_ne0 E (tgt := 84) (by exact Nat.lt_of_le_of_lt (ldf_le _ _) (by omega)) dX4_findRanges_45 (by decide) (fun hb45 => ?_) (fun hb45 => ?_)
              · skip
                have hq : rgQ sr tg pr t k2 = false := by unfold rgQ; rw [beq_false_of_ne hb45]; rfl
                refine q_inc E (lv' := [(3, .int (nI (k2 + 1))), (0, .ref m0), (1, .int (nI kd)), (2, .int (nI t.toNat))]) hl dX4_findRanges_84 (k := 3) rfl (by decide) rfl (fun ls hl => ?_)
                refine q_go E (tgt := 27) dX4_findRanges_87 (by decide) ?_
                exact ih27  (k2 + 1) (by omega) (by omega) _ (by first | exact congrArg (fun z => ovB (2 ^ cnt) z ar) (rgA_no hq).symm | exact rgA_yes hq hr) _ _ h _ (lv_sub hl [1, 2, 3, 0] rfl)
              · skip
                refine lv_iload_n E.1.1 E.1.2.1 dX4_findRanges_48 rfl (lv_at hl 2 rfl) ?_
                refine q_beq E (tgt := 63) dX4_findRanges_49 (by decide) (fun hb49 => ?_) (fun hb49 => ?_)
                · skip
                  refine lv_aload_n E.1.1 E.1.2.1 dX4_findRanges_63 rfl (lv_at hl 0 rfl) ?_
                  refine lv_iload_n E.1.1 E.1.2.1 dX4_findRanges_64 rfl (lv_at hl 3 rfl) ?_
                  refine q_ki (w2 := fun _ => [(m0, .inr (4, [.int (nI th), .int (nI cnt), .ref mw, .int (nI pr), .ref ma, .int (nI tol), .int (nI kn.toNat), .ref mc, .ref mf, .ref mr, .ref mt, .ref mar, .ref mbe, .ref mou])), (mr, .inl (gI g, 12, .inl (aN (ovA cnt sr fr)))), (mt, .inl (gI g, 12, .inl (aN (ovA cnt tg to_)))), (mc, .inl (gI g, 7, .inl (aN (csF L c0)))), (mf, .inl (gI g, 28672, .inl (aN (fdF L f0)))), (mar, .inl (gZ g, 4096, .inl (aB (ovB (2 ^ cnt) (rgA sr tg pr t k2) ar)))), (mbe, .inl (gZ g, 4096, .inl (aB be)))]) (wr := [(mr, .inl (gI g, 12, .inl (aN (ovA cnt sr fr)))), (mc, .inl (gI g, 7, .inl (aN (csF L c0)))), (mf, .inl (gI g, 28672, .inl (aN (fdF L f0)))), (mar, .inl (gZ g, 4096, .inl (aB (ovB (2 ^ cnt) (rgA sr tg pr t k2) ar)))), (mbe, .inl (gZ g, 4096, .inl (aB be)))]) E h [0, 2] [1, 3, 4, 5, 6] [5, 0, 6, 1, 2, 3, 4] (va_runV (As := [.int (nI k2)]) (rest := []) E.1 (k_X4_isFreeSet l g m0 mw ma mc mf mr mt mar mbe mou th cnt pr tol kn tg to_ k2 (by first | omega | assumption | exact srO_in | exact tgO_out hpc | exact srO_lt _ _ | exact tgO_lt _ _ | exact srO_lt _ | exact tgO_lt _ | exact pr12 hcnt hpc) (by first | omega | assumption | exact srO_in | exact tgO_out hpc | exact srO_lt _ _ | exact tgO_lt _ _ | exact srO_lt _ | exact tgO_lt _ | exact pr12 hcnt hpc) (by first | omega | assumption | exact srO_in | exact tgO_out hpc | exact srO_lt _ _ | exact tgO_lt _ _ | exact srO_lt _ | exact tgO_lt _ | exact pr12 hcnt hpc) _) c_5 (q_preV E h [0, 2] rfl rfl (C := RX4) (T := TX4) (N := 14) 4 rfl 0 rfl) rfl rfl hl.1 rfl (lv_room (Nat.le_of_ble_eq_true rfl)) dX4_findRanges_65 ⟨Nat.zero_le _, Nat.zero_le _⟩) rfl rfl rfl (by decide) rfl (fun _ => rfl) (fun r14 _ H locs hr14 h => ?_)
                  subst hr14
                  refine q_beq E (tgt := 84) dX4_findRanges_68 (by decide) (fun hb68 => ?_) (fun hb68 => ?_)
                  · skip
                    have hq : rgQ sr tg pr t k2 = false := by unfold rgQ; rw [hb49, if_neg (by decide), show frQ tg k2 = false from hb68, Bool.and_false]
                    refine q_inc E (lv' := [(3, .int (nI (k2 + 1))), (0, .ref m0), (1, .int (nI kd)), (2, .int (nI t.toNat))]) hl dX4_findRanges_84 (k := 3) rfl (by decide) rfl (fun ls hl => ?_)
                    refine q_go E (tgt := 27) dX4_findRanges_87 (by decide) ?_
                    exact ih27  (k2 + 1) (by omega) (by omega) _ (by first | exact congrArg (fun z => ovB (2 ^ cnt) z ar) (rgA_no hq).symm | exact rgA_yes hq hr) _ _ h _ (lv_sub hl [1, 2, 3, 0] rfl)
                  · skip
                    have hq : rgQ sr tg pr t k2 = true := by unfold rgQ; rw [hb49, if_neg (by decide), show frQ tg k2 = true from hb68, hb45]; rfl
                    refine lv_aload_n E.1.1 E.1.2.1 dX4_findRanges_71 rfl (lv_at hl 0 rfl) ?_
                    refine q_get E h (C := RX4) (T := TX4) (N := 14) 4 rfl c_2 0 rfl 11 (by decide) c_15 (v := .ref mar) rfl dX4_findRanges_72 ?_
                    refine lv_iload_n E.1.1 E.1.2.1 dX4_findRanges_75 rfl (lv_at hl 3 rfl) ?_
                    refine lv_aload_n E.1.1 E.1.2.1 dX4_findRanges_76 rfl (lv_at hl 0 rfl) ?_
                    refine lv_iload_n E.1.1 E.1.2.1 dX4_findRanges_77 rfl (lv_at hl 3 rfl) ?_
                    refine q_ki (w2 := fun _ => [(m0, .inr (4, [.int (nI th), .int (nI cnt), .ref mw, .int (nI pr), .ref ma, .int (nI tol), .int (nI kn.toNat), .ref mc, .ref mf, .ref mr, .ref mt, .ref mar, .ref mbe, .ref mou])), (mr, .inl (gI g, 12, .inl (aN (ovA cnt sr fr)))), (mt, .inl (gI g, 12, .inl (aN (ovA cnt tg to_)))), (mc, .inl (gI g, 7, .inl (aN (csF L c0)))), (mf, .inl (gI g, 28672, .inl (aN (fdF L f0)))), (mar, .inl (gZ g, 4096, .inl (aB (ovB (2 ^ cnt) (rgA sr tg pr t k2) ar)))), (mbe, .inl (gZ g, 4096, .inl (aB be)))]) (wr := [(mr, .inl (gI g, 12, .inl (aN (ovA cnt sr fr)))), (mc, .inl (gI g, 7, .inl (aN (csF L c0)))), (mf, .inl (gI g, 28672, .inl (aN (fdF L f0)))), (mar, .inl (gZ g, 4096, .inl (aB (ovB (2 ^ cnt) (rgA sr tg pr t k2) ar)))), (mbe, .inl (gZ g, 4096, .inl (aB be)))]) E h [0, 2] [1, 3, 4, 5, 6] [5, 0, 6, 1, 2, 3, 4] (va_runV (As := [.int (nI k2)]) (rest := [.int (nI k2), .ref mar]) E.1 (k_X4_hit l g m0 mw ma mc mf mr mt mar mbe mou th cnt pr tol kn tg to_ k2 (by first | omega | assumption | exact srO_in | exact tgO_out hpc | exact srO_lt _ _ | exact tgO_lt _ _ | exact srO_lt _ | exact tgO_lt _ | exact pr12 hcnt hpc) (by first | omega | assumption | exact srO_in | exact tgO_out hpc | exact srO_lt _ _ | exact tgO_lt _ _ | exact srO_lt _ | exact tgO_lt _ | exact pr12 hcnt hpc) (by first | omega | assumption | exact srO_in | exact tgO_out hpc | exact srO_lt _ _ | exact tgO_lt _ _ | exact srO_lt _ | exact tgO_lt _ | exact pr12 hcnt hpc) _) c_8 (q_preV E h [0, 2] rfl rfl (C := RX4) (T := TX4) (N := 14) 4 rfl 0 rfl) rfl rfl hl.1 rfl (lv_room (Nat.le_of_ble_eq_true rfl)) dX4_findRanges_78 ⟨Nat.zero_le _, Nat.zero_le _⟩) rfl rfl rfl (by decide) rfl (fun _ => rfl) (fun r16 _ H locs hr16 h => ?_)
                    subst hr16
                    refine q_or E dX4_findRanges_81 ?_
                    refine q_ic E 1 dX4_findRanges_82 (by decide) ?_
                    refine q_top (w := .int (nI (true : Bool).toNat)) rfl ?_
                    refine q_zast E h 5 (f := (ovB (2 ^ cnt) (rgA sr tg pr t k2) ar)) rfl (by first | omega | assumption | exact srO_in | exact tgO_out hpc | exact srO_lt _ _ | exact tgO_lt _ _ | exact srO_lt _ | exact tgO_lt _ | exact pr12 hcnt hpc) (by decide) dX4_findRanges_83 (w2 := [(m0, .inr (4, [.int (nI th), .int (nI cnt), .ref mw, .int (nI pr), .ref ma, .int (nI tol), .int (nI kn.toNat), .ref mc, .ref mf, .ref mr, .ref mt, .ref mar, .ref mbe, .ref mou])), (mr, .inl (gI g, 12, .inl (aN (ovA cnt sr fr)))), (mt, .inl (gI g, 12, .inl (aN (ovA cnt tg to_)))), (mc, .inl (gI g, 7, .inl (aN (csF L c0)))), (mf, .inl (gI g, 28672, .inl (aN (fdF L f0)))), (mar, .inl (gZ g, 4096, .inl (aB (updB (ovB (2 ^ cnt) (rgA sr tg pr t k2) ar) (k2 ||| (hit tg k2)) true)))), (mbe, .inl (gZ g, 4096, .inl (aB be)))]) rfl (fun H locs h => ?_)
                    refine q_inc E (lv' := [(3, .int (nI (k2 + 1))), (0, .ref m0), (1, .int (nI kd)), (2, .int (nI t.toNat))]) hl dX4_findRanges_84 (k := 3) rfl (by decide) rfl (fun ls hl => ?_)
                    refine q_go E (tgt := 27) dX4_findRanges_87 (by decide) ?_
                    exact ih27  (k2 + 1) (by omega) (by omega) _ (by first | exact congrArg (fun z => ovB (2 ^ cnt) z ar) (rgA_no hq).symm | exact rgA_yes hq hr) _ _ h _ (lv_sub hl [1, 2, 3, 0] rfl)
                · skip
                  refine lv_aload_n E.1.1 E.1.2.1 dX4_findRanges_52 rfl (lv_at hl 0 rfl) ?_
                  refine lv_iload_n E.1.1 E.1.2.1 dX4_findRanges_53 rfl (lv_at hl 3 rfl) ?_
                  refine q_ki (w2 := fun _ => [(m0, .inr (4, [.int (nI th), .int (nI cnt), .ref mw, .int (nI pr), .ref ma, .int (nI tol), .int (nI kn.toNat), .ref mc, .ref mf, .ref mr, .ref mt, .ref mar, .ref mbe, .ref mou])), (mr, .inl (gI g, 12, .inl (aN (ovA cnt sr fr)))), (mt, .inl (gI g, 12, .inl (aN (ovA cnt tg to_)))), (mc, .inl (gI g, 7, .inl (aN (csF L c0)))), (mf, .inl (gI g, 28672, .inl (aN (fdF L f0)))), (mar, .inl (gZ g, 4096, .inl (aB (ovB (2 ^ cnt) (rgA sr tg pr t k2) ar)))), (mbe, .inl (gZ g, 4096, .inl (aB be)))]) (wr := [(mc, .inl (gI g, 7, .inl (aN (csF L c0)))), (mf, .inl (gI g, 28672, .inl (aN (fdF L f0)))), (mar, .inl (gZ g, 4096, .inl (aB (ovB (2 ^ cnt) (rgA sr tg pr t k2) ar)))), (mbe, .inl (gZ g, 4096, .inl (aB be)))]) E h [0, 1, 2] [3, 4, 5, 6] [4, 5, 6, 0, 1, 2, 3] (va_runV (As := [.int (nI k2)]) (rest := []) E.1 (k_X4_isAdmissibleSet l g m0 mw ma mc mf mr mt mar mbe mou th cnt pr tol kn sr tg fr to_ k2 (by first | omega | assumption | exact srO_in | exact tgO_out hpc | exact srO_lt _ _ | exact tgO_lt _ _ | exact srO_lt _ | exact tgO_lt _ | exact pr12 hcnt hpc) (by first | omega | assumption | exact srO_in | exact tgO_out hpc | exact srO_lt _ _ | exact tgO_lt _ _ | exact srO_lt _ | exact tgO_lt _ | exact pr12 hcnt hpc) (by first | omega | assumption | exact srO_in | exact tgO_out hpc | exact srO_lt _ _ | exact tgO_lt _ _ | exact srO_lt _ | exact tgO_lt _ | exact pr12 hcnt hpc) (by first | omega | assumption | exact srO_in | exact tgO_out hpc | exact srO_lt _ _ | exact tgO_lt _ _ | exact srO_lt _ | exact tgO_lt _ | exact pr12 hcnt hpc) (by first | omega | assumption | exact srO_in | exact tgO_out hpc | exact srO_lt _ _ | exact tgO_lt _ _ | exact srO_lt _ | exact tgO_lt _ | exact pr12 hcnt hpc) (by first | omega | assumption | exact srO_in | exact tgO_out hpc | exact srO_lt _ _ | exact tgO_lt _ _ | exact srO_lt _ | exact tgO_lt _ | exact pr12 hcnt hpc) (by first | omega | assumption | exact srO_in | exact tgO_out hpc | exact srO_lt _ _ | exact tgO_lt _ _ | exact srO_lt _ | exact tgO_lt _ | exact pr12 hcnt hpc) _) c_11 (q_preV E h [0, 1, 2] rfl rfl (C := RX4) (T := TX4) (N := 14) 4 rfl 0 rfl) rfl rfl hl.1 rfl (lv_room (Nat.le_of_ble_eq_true rfl)) dX4_findRanges_54 ⟨Nat.zero_le _, Nat.zero_le _⟩) rfl rfl rfl (by decide) rfl (fun _ => rfl) (fun r17 _ H locs hr17 h => ?_)
                  subst hr17
                  refine q_beq E (tgt := 84) dX4_findRanges_57 (by decide) (fun hb57 => ?_) (fun hb57 => ?_)
                  · skip
                    have hq : rgQ sr tg pr t k2 = false := by unfold rgQ; rw [hb49, if_pos rfl, show adQ sr tg pr k2 = false from hb57, Bool.and_false]
                    refine q_inc E (lv' := [(3, .int (nI (k2 + 1))), (0, .ref m0), (1, .int (nI kd)), (2, .int (nI t.toNat))]) hl dX4_findRanges_84 (k := 3) rfl (by decide) rfl (fun ls hl => ?_)
                    refine q_go E (tgt := 27) dX4_findRanges_87 (by decide) ?_
                    exact ih27  (k2 + 1) (by omega) (by omega) _ (by first | exact congrArg (fun z => ovB (2 ^ cnt) z ar) (rgA_no hq).symm | exact rgA_yes hq hr) _ _ h _ (lv_sub hl [1, 2, 3, 0] rfl)
                  · skip
                    have hq : rgQ sr tg pr t k2 = true := by unfold rgQ; rw [hb49, if_pos rfl, show adQ sr tg pr k2 = true from hb57, hb45]; rfl
                    refine q_go E (tgt := 71) dX4_findRanges_60 (by decide) ?_
                    refine lv_aload_n E.1.1 E.1.2.1 dX4_findRanges_71 rfl (lv_at hl 0 rfl) ?_
                    refine q_get E h (C := RX4) (T := TX4) (N := 14) 4 rfl c_2 0 rfl 11 (by decide) c_15 (v := .ref mar) rfl dX4_findRanges_72 ?_
                    refine lv_iload_n E.1.1 E.1.2.1 dX4_findRanges_75 rfl (lv_at hl 3 rfl) ?_
                    refine lv_aload_n E.1.1 E.1.2.1 dX4_findRanges_76 rfl (lv_at hl 0 rfl) ?_
                    refine lv_iload_n E.1.1 E.1.2.1 dX4_findRanges_77 rfl (lv_at hl 3 rfl) ?_
                    refine q_ki (w2 := fun _ => [(m0, .inr (4, [.int (nI th), .int (nI cnt), .ref mw, .int (nI pr), .ref ma, .int (nI tol), .int (nI kn.toNat), .ref mc, .ref mf, .ref mr, .ref mt, .ref mar, .ref mbe, .ref mou])), (mr, .inl (gI g, 12, .inl (aN (ovA cnt sr fr)))), (mt, .inl (gI g, 12, .inl (aN (ovA cnt tg to_)))), (mc, .inl (gI g, 7, .inl (aN (csF L c0)))), (mf, .inl (gI g, 28672, .inl (aN (fdF L f0)))), (mar, .inl (gZ g, 4096, .inl (aB (ovB (2 ^ cnt) (rgA sr tg pr t k2) ar)))), (mbe, .inl (gZ g, 4096, .inl (aB be)))]) (wr := [(mr, .inl (gI g, 12, .inl (aN (ovA cnt sr fr)))), (mc, .inl (gI g, 7, .inl (aN (csF L c0)))), (mf, .inl (gI g, 28672, .inl (aN (fdF L f0)))), (mar, .inl (gZ g, 4096, .inl (aB (ovB (2 ^ cnt) (rgA sr tg pr t k2) ar)))), (mbe, .inl (gZ g, 4096, .inl (aB be)))]) E h [0, 2] [1, 3, 4, 5, 6] [5, 0, 6, 1, 2, 3, 4] (va_runV (As := [.int (nI k2)]) (rest := [.int (nI k2), .ref mar]) E.1 (k_X4_hit l g m0 mw ma mc mf mr mt mar mbe mou th cnt pr tol kn tg to_ k2 (by first | omega | assumption | exact srO_in | exact tgO_out hpc | exact srO_lt _ _ | exact tgO_lt _ _ | exact srO_lt _ | exact tgO_lt _ | exact pr12 hcnt hpc) (by first | omega | assumption | exact srO_in | exact tgO_out hpc | exact srO_lt _ _ | exact tgO_lt _ _ | exact srO_lt _ | exact tgO_lt _ | exact pr12 hcnt hpc) (by first | omega | assumption | exact srO_in | exact tgO_out hpc | exact srO_lt _ _ | exact tgO_lt _ _ | exact srO_lt _ | exact tgO_lt _ | exact pr12 hcnt hpc) _) c_8 (q_preV E h [0, 2] rfl rfl (C := RX4) (T := TX4) (N := 14) 4 rfl 0 rfl) rfl rfl hl.1 rfl (lv_room (Nat.le_of_ble_eq_true rfl)) dX4_findRanges_78 ⟨Nat.zero_le _, Nat.zero_le _⟩) rfl rfl rfl (by decide) rfl (fun _ => rfl) (fun r18 _ H locs hr18 h => ?_)
                    subst hr18
                    refine q_or E dX4_findRanges_81 ?_
                    refine q_ic E 1 dX4_findRanges_82 (by decide) ?_
                    refine q_top (w := .int (nI (true : Bool).toNat)) rfl ?_
                    refine q_zast E h 5 (f := (ovB (2 ^ cnt) (rgA sr tg pr t k2) ar)) rfl (by first | omega | assumption | exact srO_in | exact tgO_out hpc | exact srO_lt _ _ | exact tgO_lt _ _ | exact srO_lt _ | exact tgO_lt _ | exact pr12 hcnt hpc) (by decide) dX4_findRanges_83 (w2 := [(m0, .inr (4, [.int (nI th), .int (nI cnt), .ref mw, .int (nI pr), .ref ma, .int (nI tol), .int (nI kn.toNat), .ref mc, .ref mf, .ref mr, .ref mt, .ref mar, .ref mbe, .ref mou])), (mr, .inl (gI g, 12, .inl (aN (ovA cnt sr fr)))), (mt, .inl (gI g, 12, .inl (aN (ovA cnt tg to_)))), (mc, .inl (gI g, 7, .inl (aN (csF L c0)))), (mf, .inl (gI g, 28672, .inl (aN (fdF L f0)))), (mar, .inl (gZ g, 4096, .inl (aB (updB (ovB (2 ^ cnt) (rgA sr tg pr t k2) ar) (k2 ||| (hit tg k2)) true)))), (mbe, .inl (gZ g, 4096, .inl (aB be)))]) rfl (fun H locs h => ?_)
                    refine q_inc E (lv' := [(3, .int (nI (k2 + 1))), (0, .ref m0), (1, .int (nI kd)), (2, .int (nI t.toNat))]) hl dX4_findRanges_84 (k := 3) rfl (by decide) rfl (fun ls hl => ?_)
                    refine q_go E (tgt := 27) dX4_findRanges_87 (by decide) ?_
                    exact ih27  (k2 + 1) (by omega) (by omega) _ (by first | exact congrArg (fun z => ovB (2 ^ cnt) z ar) (rgA_no hq).symm | exact rgA_yes hq hr) _ _ h _ (lv_sub hl [1, 2, 3, 0] rfl)
        exact lp27 ((2 ^ cnt - 0) + 1) 0 (Nat.lt_succ_self _) (by omega) _ (by rw [show k = 2 ^ cnt by omega]) _ _ h _ (lv_sub hl [1, 2, 3, 0] rfl)
      · skip
        refine lv_aload_n E.1.1 E.1.2.1 dX4_findRanges_12 rfl (lv_at hl 0 rfl) ?_
        refine q_get E h (C := RX4) (T := TX4) (N := 14) 4 rfl c_2 0 rfl 11 (by decide) c_15 (v := .ref mar) rfl dX4_findRanges_13 ?_
        refine lv_iload_n E.1.1 E.1.2.1 dX4_findRanges_16 rfl (lv_at hl 3 rfl) ?_
        refine q_ic E 0 dX4_findRanges_17 (by decide) ?_
        refine q_top (w := .int (nI (false : Bool).toNat)) rfl ?_
        refine q_zast E h 5 (f := (ovB k (rgA sr tg pr t 0) ar)) rfl (by first | omega | assumption | exact srO_in | exact tgO_out hpc | exact srO_lt _ _ | exact tgO_lt _ _ | exact srO_lt _ | exact tgO_lt _ | exact pr12 hcnt hpc) (by decide) dX4_findRanges_18 (w2 := [(m0, .inr (4, [.int (nI th), .int (nI cnt), .ref mw, .int (nI pr), .ref ma, .int (nI tol), .int (nI kn.toNat), .ref mc, .ref mf, .ref mr, .ref mt, .ref mar, .ref mbe, .ref mou])), (mr, .inl (gI g, 12, .inl (aN (ovA cnt sr fr)))), (mt, .inl (gI g, 12, .inl (aN (ovA cnt tg to_)))), (mc, .inl (gI g, 7, .inl (aN (csF L c0)))), (mf, .inl (gI g, 28672, .inl (aN (fdF L f0)))), (mar, .inl (gZ g, 4096, .inl (aB (updB (ovB k (rgA sr tg pr t 0) ar) k false)))), (mbe, .inl (gZ g, 4096, .inl (aB be)))]) rfl (fun H locs h => ?_)
        refine q_inc E (lv' := [(3, .int (nI (k + 1))), (0, .ref m0), (1, .int (nI kd)), (2, .int (nI t.toNat))]) hl dX4_findRanges_19 (k := 3) rfl (by decide) rfl (fun ls hl => ?_)
        refine q_go E (tgt := 2) dX4_findRanges_22 (by decide) ?_
        exact ih2  (k + 1) (by omega) (by omega) _ (by exact ovB_s _ _ _ _ rfl) _ _ h _ (lv_sub hl [1, 2, 3, 0] rfl)
  exact lp2 ((2 ^ cnt - 0) + 1) 0 (Nat.lt_succ_self _) (by omega) _ (by exact (ovB_0 _ _).symm) _ _ h _ (lv_sub hl [1, 2, 3, 0] rfl)
