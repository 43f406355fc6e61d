/-! the reference: the dispute -/
set_option maxHeartbeats 4000000 in
set_option maxRecDepth 100000 in
theorem k_fwd (l : Launch) (g : GK) (m0 mw ma mc mf mr mt mar mbe mou : Nat) (th cnt pr tol : Nat) (kn : Bool) (sr fr : Nat → Nat) (hcnt : cnt ≤ 12) (hsr : ∀ k, sr k < 4096) : ∀ (d : Nat) (ou : Nat → Nat) (t : Bool) (v mv : Nat), v < cnt → mv < 4096 → mOK sr cnt ou → mu t mv < d → CI (S := Nat → Nat) l g yX4_firstWins wsX4_firstWins { frames := d + 1, cells := 0, slots := 0, locals := 40 * d + 30 } [.ref m0, .int (nI t.toNat), .int (nI v), .int (nI mv)] [(m0, .inr (4, [.int (nI th), .int (nI cnt), .ref mw, .int (nI pr), .ref ma, .int (nI tol), .int (nI kn.toNat), .ref mc, .ref mf, .ref mr, .ref mt, .ref mar, .ref mbe, .ref mou])), (mr, .inl (gI g, 12, .inl (aN (ovA cnt sr fr)))), (mou, .inl (gBy g, 98304, .inl (aN ou)))] (fun r u => r = nI (gV sr cnt t v mv).toNat ∧ mOK sr cnt u) (fun u => [(m0, .inr (4, [.int (nI th), .int (nI cnt), .ref mw, .int (nI pr), .ref ma, .int (nI tol), .int (nI kn.toNat), .ref mc, .ref mf, .ref mr, .ref mt, .ref mar, .ref mbe, .ref mou])), (mr, .inl (gI g, 12, .inl (aN (ovA cnt sr fr)))), (mou, .inl (gBy g, 98304, .inl (aN u)))]) := by
  intro d
  induction d with
  | zero => intro ou t v mv _ _ _ h; exact absurd h (Nat.not_lt_zero _)
  | succ d ih =>
    intro ou t v mv hv hmv hmo hmu
    refine q_ofI (own := RX4) (by decide) rfl rfl (Nat.le_of_ble_eq_true rfl) (fun v u hp => by obtain ⟨rfl, -⟩ := hp; exact n_bool _) ?_
    intro p e s m below meth c A Q args E hmn h hend ls hl
    have hl : lv_has ls 9 [(0, .ref m0), (1, .int (nI t.toNat)), (2, .int (nI v)), (3, .int (nI mv))] := hl
    have c_1 := E.1.2.2.2.2 (.fieldLink RX4 40 "DebateSolverModel" "outcomes" "[B") (by decide +kernel)
    have c_2 := (by decide +kernel : ∀ w ∈ wsX40, w ∈ wsX4_firstWins)
    have c_3 := E.1.2.2.2.2 (.fieldLink RX4 26 "DebateSolverModel" "from" "[I") (by decide +kernel)
    have c_4 := E.1.2.2.2.2 (.fieldLink RX4 47 "DebateSolverModel" "many" "I") (by decide +kernel)
    have c_5 := cwS (R := { frames := d + 1 + 1, cells := 0, slots := 0, locals := 40 * (d + 1) + 30 }) (rm := { frames := 0, cells := 0, slots := 0, locals := 0 }) (mc := 0) (ms := 0) 2 E.1.2.2.2.2 gX4_firstWins_X4_has rfl rfl rfl (by decide +kernel) (by constructor <;> (dsimp only; omega))
    have c_8 := cwV (R := { frames := d + 1 + 1, cells := 0, slots := 0, locals := 40 * (d + 1) + 30 }) (rm := { frames := d + 1, cells := 0, slots := 0, locals := 40 * d + 30 }) (mc := 0) (ms := 0) 3 E.1.2.2.2.2 gX4_firstWins_X4_firstWins rfl rfl rfl (by decide +kernel) (by constructor <;> (dsimp only; omega))
    cases t
    · skip
      refine lv_iload_n E.1.1 E.1.2.1 dX4_firstWins_0 rfl (lv_at hl 1 rfl) ?_
      refine q_beq E (tgt := 9) dX4_firstWins_1 (by decide) (fun hb1 => ?_) (fun hb1 => ?_)
      · skip
        refine q_ic E 0 dX4_firstWins_9 (by decide) ?_
        refine lv_iload_n E.1.1 E.1.2.1 dX4_firstWins_10 rfl (lv_at hl 2 rfl) ?_
        refine q_add E dX4_firstWins_11 ?_
        refine q_si E 4096 dX4_firstWins_12 (by decide) ?_
        refine q_mul E dX4_firstWins_15 ?_
        refine lv_iload_n E.1.1 E.1.2.1 dX4_firstWins_16 rfl (lv_at hl 3 rfl) ?_
        refine q_add E dX4_firstWins_17 ?_
        refine lv_istore (lv' := [(4, .int (nI (((0 + v) * 4096) + mv))), (0, .ref m0), (1, .int (nI false.toNat)), (2, .int (nI v)), (3, .int (nI mv))]) E.1.1 E.1.2.1 dX4_firstWins_18 hl (by decide) rfl (fun ls hl => ?_)
        have hl : lv_has ls 9 [(4, .int (nI (ix false v mv))), (0, .ref m0), (1, .int (nI false.toNat)), (2, .int (nI v)), (3, .int (nI mv))] := hl
        have hlt := mOK_lt hmo (t := false) (show v < 12 by omega) hmv
        have hix := ix_lt (t := false) (show v < 12 by omega) hmv
        refine lv_aload_n E.1.1 E.1.2.1 dX4_firstWins_20 rfl (lv_at hl 1 rfl) ?_
        refine q_get E h (C := RX4) (T := TX4) (N := 14) 4 rfl c_2 0 rfl 13 (by decide) c_1 (v := .ref mou) rfl dX4_firstWins_21 ?_
        refine lv_iload E.1.1 E.1.2.1 dX4_firstWins_24 (lv_at hl 0 rfl) ?_
        refine q_bald E h 2 (f := ou) rfl (by first | omega | assumption) (by decide) dX4_firstWins_26 ?_
        refine q_ne0 E (tgt := 177) (by omega) dX4_firstWins_27 (by decide) (fun hb27 => ?_) (fun hb27 => ?_)
        · skip
          have hval := (hmo false v mv (by omega) hmv).resolve_left hb27
          refine lv_aload_n E.1.1 E.1.2.1 dX4_firstWins_177 rfl (lv_at hl 1 rfl) ?_
          refine q_get E h (C := RX4) (T := TX4) (N := 14) 4 rfl c_2 0 rfl 13 (by decide) c_1 (v := .ref mou) rfl dX4_firstWins_178 ?_
          refine lv_iload E.1.1 E.1.2.1 dX4_firstWins_181 (lv_at hl 0 rfl) ?_
          refine q_bald E h 2 (f := ou) rfl (by first | omega | assumption) (by decide) dX4_firstWins_183 ?_
          skip
          refine q_ic E 1 dX4_firstWins_184 (by decide) ?_
          refine q_ne E (tgt := 192) (by omega) (by first | omega | assumption) dX4_firstWins_185 (by decide) (fun hb185 => ?_) (fun hb185 => ?_)
          · skip
            refine q_ic E 0 dX4_firstWins_192 (by decide) ?_
            -- world at the end: [(m0, .inr (4, [.int (nI th), .int (nI cnt), .ref mw, .int (nI pr), .ref ma, .int (nI tol), .int (nI kn.toNat), .ref mc, .ref mf, .ref mr, .ref mt, .ref mar, .ref mbe, .ref mou])), (mr, .inl (gI g, 12, .inl (aN (ovA cnt sr fr)))), (mou, .inl (gBy g, 98304, .inl (aN ou)))]
            exact hend _ _ _ _ _ (ou) h dX4_firstWins_193 (by exact ⟨by first | exact mVl_1 hval hb185 | exact mVl_0 hval hb185, hmo⟩)
          · skip
            refine q_ic E 1 dX4_firstWins_188 (by decide) ?_
            refine q_go E (tgt := 193) dX4_firstWins_189 (by decide) ?_
            -- world at the end: [(m0, .inr (4, [.int (nI th), .int (nI cnt), .ref mw, .int (nI pr), .ref ma, .int (nI tol), .int (nI kn.toNat), .ref mc, .ref mf, .ref mr, .ref mt, .ref mar, .ref mbe, .ref mou])), (mr, .inl (gI g, 12, .inl (aN (ovA cnt sr fr)))), (mou, .inl (gBy g, 98304, .inl (aN ou)))]
            exact hend _ _ _ _ _ (ou) h dX4_firstWins_193 (by exact ⟨by first | exact mVl_1 hval hb185 | exact mVl_0 hval hb185, hmo⟩)
        · skip
          refine lv_iload_n E.1.1 E.1.2.1 dX4_firstWins_30 rfl (lv_at hl 2 rfl) ?_
          refine q_beq E (tgt := 47) dX4_firstWins_31 (by decide) (fun hb31 => ?_) (fun hb31 => ?_)
          · skip
            refine lv_aload_n E.1.1 E.1.2.1 dX4_firstWins_47 rfl (lv_at hl 1 rfl) ?_
            refine q_get E h (C := RX4) (T := TX4) (N := 14) 4 rfl c_2 0 rfl 9 (by decide) c_3 (v := .ref mr) rfl dX4_firstWins_48 ?_
            refine lv_iload_n E.1.1 E.1.2.1 dX4_firstWins_51 rfl (lv_at hl 3 rfl) ?_
            refine q_iald E h 1 (f := (ovA cnt sr fr)) rfl (by first | omega | assumption) (by decide) dX4_firstWins_52 ?_
            refine q_top (w := .int (nI (sr v))) (congrArg (fun z => Value.int (nI z)) (ovA_in hv)) ?_
            refine lv_istore (lv' := [(5, .int (nI (sr v))), (4, .int (nI (ix false v mv))), (0, .ref m0), (1, .int (nI false.toNat)), (2, .int (nI v)), (3, .int (nI mv))]) E.1.1 E.1.2.1 dX4_firstWins_53 hl (by decide) rfl (fun ls hl => ?_)
            have hl : lv_has ls 9 [(5, .int (nI (gM sr false v mv))), (4, .int (nI (ix false v mv))), (0, .ref m0), (1, .int (nI false.toNat)), (2, .int (nI v)), (3, .int (nI mv))] := hl
            refine lv_iload_n E.1.1 E.1.2.1 dX4_firstWins_55 rfl (lv_at hl 3 rfl) ?_
            refine q_bne E (tgt := 63) dX4_firstWins_56 (by decide) (fun hb56 => ?_) (fun hb56 => ?_)
            · exact absurd hb56 (by decide)
            · skip
              refine q_ic E 1 dX4_firstWins_59 (by decide) ?_
              refine q_go E (tgt := 64) dX4_firstWins_60 (by decide) ?_
              refine lv_istore (lv' := [(6, .int (nI 1)), (5, .int (nI (gM sr false v mv))), (4, .int (nI (ix false v mv))), (0, .ref m0), (1, .int (nI false.toNat)), (2, .int (nI v)), (3, .int (nI mv))]) E.1.1 E.1.2.1 dX4_firstWins_64 hl (by decide) rfl (fun ls hl => ?_)
              refine q_ic E 0 dX4_firstWins_66 (by decide) ?_
              refine lv_istore (lv' := [(7, .int (nI 0)), (6, .int (nI 1)), (5, .int (nI (gM sr false v mv))), (4, .int (nI (ix false v mv))), (0, .ref m0), (1, .int (nI false.toNat)), (2, .int (nI v)), (3, .int (nI mv))]) E.1.1 E.1.2.1 dX4_firstWins_67 hl (by decide) rfl (fun ls hl => ?_)
              have lp69 : ∀ (fu : Nat) (k : Nat) (wo : Nat → Nat), cnt - k < fu → (k ≤ cnt) → (mOK sr cnt wo) → ∀ (y69_6 : Bool), y69_6 = gL (fun a => gV sr cnt (!false) a (mv ||| 2 ^ a)) false (gM sr false v mv) k → ∀ (H : Heap) (locs : List Loc), qH g A s [(m0, .inr (4, [.int (nI th), .int (nI cnt), .ref mw, .int (nI pr), .ref ma, .int (nI tol), .int (nI kn.toNat), .ref mc, .ref mf, .ref mr, .ref mt, .ref mar, .ref mbe, .ref mou])), (mr, .inl (gI g, 12, .inl (aN (ovA cnt sr fr)))), (mou, .inl (gBy g, 98304, .inl (aN wo)))] H locs → ∀ ls : Array Slot, lv_has ls 9 [(0, .ref m0), (1, .int (nI false.toNat)), (2, .int (nI v)), (3, .int (nI mv)), (4, .int (nI (ix false v mv))), (5, .int (nI (gM sr false v mv))), (6, .int (nI y69_6.toNat)), (7, .int (nI k))] → W p l e { frames := d + 1 + 1, cells := 0, slots := 0, locals := 40 * (d + 1) + 30 } s m args below meth c H locs 0 0 Q (F0 m 69 ls []) := by
                intro fu
                induction fu with
                | zero => intro k wo hfu; exact absurd hfu (Nat.not_lt_zero _)
                | succ fu ih69 =>
                  intro k wo hfu hk hwo y69_6 ey69_6 H locs h ls hl
                  subst ey69_6
                  refine lv_iload E.1.1 E.1.2.1 dX4_firstWins_69 (lv_at hl 7 rfl) ?_
                  refine lv_aload_n E.1.1 E.1.2.1 dX4_firstWins_71 rfl (lv_at hl 0 rfl) ?_
                  refine q_get E h (C := RX4) (T := TX4) (N := 14) 4 rfl c_2 0 rfl 1 (by decide) c_4 (v := .int (nI cnt)) rfl dX4_firstWins_72 ?_
                  refine q_ge E (tgt := 159) (by first | omega | assumption) (by first | omega | assumption) dX4_firstWins_75 (by decide) (fun hb75 => ?_) (fun hb75 => ?_)
                  · skip
                    refine lv_aload_n E.1.1 E.1.2.1 dX4_firstWins_159 rfl (lv_at hl 0 rfl) ?_
                    refine q_get E h (C := RX4) (T := TX4) (N := 14) 4 rfl c_2 0 rfl 13 (by decide) c_1 (v := .ref mou) rfl dX4_firstWins_160 ?_
                    refine lv_iload E.1.1 E.1.2.1 dX4_firstWins_163 (lv_at hl 4 rfl) ?_
                    refine lv_iload E.1.1 E.1.2.1 dX4_firstWins_165 (lv_at hl 6 rfl) ?_
                    refine q_beq E (tgt := 174) dX4_firstWins_167 (by decide) (fun hb167 => ?_) (fun hb167 => ?_)
                    · skip
                      have hgv : gV sr cnt false v mv = false := by have ek : k = cnt := (by omega); rw [ek] at hb167; exact (gV_eq hcnt false v mv).trans hb167
                      refine q_ic E 2 dX4_firstWins_174 (by decide) ?_
                      refine lv_i2b (v := nI 2) E.1.1 E.1.2.1 dX4_firstWins_175 (by decide) ?_
                      refine q_bast E h 2 (f := wo) rfl (by first | omega | assumption) (by decide) (by decide) dX4_firstWins_176 (w2 := [(m0, .inr (4, [.int (nI th), .int (nI cnt), .ref mw, .int (nI pr), .ref ma, .int (nI tol), .int (nI kn.toNat), .ref mc, .ref mf, .ref mr, .ref mt, .ref mar, .ref mbe, .ref mou])), (mr, .inl (gI g, 12, .inl (aN (ovA cnt sr fr)))), (mou, .inl (gBy g, 98304, .inl (aN (updN wo (ix false v mv) 2))))]) rfl (fun H locs h => ?_)
                      refine lv_aload_n E.1.1 E.1.2.1 dX4_firstWins_177 rfl (lv_at hl 0 rfl) ?_
                      refine q_get E h (C := RX4) (T := TX4) (N := 14) 4 rfl c_2 0 rfl 13 (by decide) c_1 (v := .ref mou) rfl dX4_firstWins_178 ?_
                      refine lv_iload E.1.1 E.1.2.1 dX4_firstWins_181 (lv_at hl 4 rfl) ?_
                      refine q_bald E h 2 (f := (updN wo (ix false v mv) 2)) rfl (by first | omega | assumption) (by decide) dX4_firstWins_183 ?_
                      refine q_top (w := .int (nI 2)) (congrArg (fun z => Value.int (nI z)) (updN_at _ _ _)) ?_
                      refine q_ic E 1 dX4_firstWins_184 (by decide) ?_
                      refine q_ne E (tgt := 192) (by decide) (by decide) dX4_firstWins_185 (by decide) (fun hb185 => ?_) (fun hb185 => ?_)
                      · skip
                        refine q_ic E 0 dX4_firstWins_192 (by decide) ?_
                        -- world at the end: [(m0, .inr (4, [.int (nI th), .int (nI cnt), .ref mw, .int (nI pr), .ref ma, .int (nI tol), .int (nI kn.toNat), .ref mc, .ref mf, .ref mr, .ref mt, .ref mar, .ref mbe, .ref mou])), (mr, .inl (gI g, 12, .inl (aN (ovA cnt sr fr)))), (mou, .inl (gBy g, 98304, .inl (aN (updN wo (ix false v mv) 2))))]
                        exact hend _ _ _ _ _ (updN wo (ix false v mv) 2) h dX4_firstWins_193 (by exact ⟨by rw [hgv]; rfl, mOK_put hwo (by omega) hmv (by rw [hgv]; rfl)⟩)
                      · exact absurd hb185 (by decide)
                    · skip
                      have hgv : gV sr cnt false v mv = true := by have ek : k = cnt := (by omega); rw [ek] at hb167; exact (gV_eq hcnt false v mv).trans hb167
                      refine q_ic E 1 dX4_firstWins_170 (by decide) ?_
                      refine q_go E (tgt := 175) dX4_firstWins_171 (by decide) ?_
                      refine lv_i2b (v := nI 1) E.1.1 E.1.2.1 dX4_firstWins_175 (by decide) ?_
                      refine q_bast E h 2 (f := wo) rfl (by first | omega | assumption) (by decide) (by decide) dX4_firstWins_176 (w2 := [(m0, .inr (4, [.int (nI th), .int (nI cnt), .ref mw, .int (nI pr), .ref ma, .int (nI tol), .int (nI kn.toNat), .ref mc, .ref mf, .ref mr, .ref mt, .ref mar, .ref mbe, .ref mou])), (mr, .inl (gI g, 12, .inl (aN (ovA cnt sr fr)))), (mou, .inl (gBy g, 98304, .inl (aN (updN wo (ix false v mv) 1))))]) rfl (fun H locs h => ?_)
                      refine lv_aload_n E.1.1 E.1.2.1 dX4_firstWins_177 rfl (lv_at hl 0 rfl) ?_
                      refine q_get E h (C := RX4) (T := TX4) (N := 14) 4 rfl c_2 0 rfl 13 (by decide) c_1 (v := .ref mou) rfl dX4_firstWins_178 ?_
                      refine lv_iload E.1.1 E.1.2.1 dX4_firstWins_181 (lv_at hl 4 rfl) ?_
                      refine q_bald E h 2 (f := (updN wo (ix false v mv) 1)) rfl (by first | omega | assumption) (by decide) dX4_firstWins_183 ?_
                      refine q_top (w := .int (nI 1)) (congrArg (fun z => Value.int (nI z)) (updN_at _ _ _)) ?_
                      refine q_ic E 1 dX4_firstWins_184 (by decide) ?_
                      refine q_ne E (tgt := 192) (by decide) (by decide) dX4_firstWins_185 (by decide) (fun hb185 => ?_) (fun hb185 => ?_)
                      · exact absurd hb185 (by decide)
                      · skip
                        refine q_ic E 1 dX4_firstWins_188 (by decide) ?_
                        refine q_go E (tgt := 193) dX4_firstWins_189 (by decide) ?_
                        -- world at the end: [(m0, .inr (4, [.int (nI th), .int (nI cnt), .ref mw, .int (nI pr), .ref ma, .int (nI tol), .int (nI kn.toNat), .ref mc, .ref mf, .ref mr, .ref mt, .ref mar, .ref mbe, .ref mou])), (mr, .inl (gI g, 12, .inl (aN (ovA cnt sr fr)))), (mou, .inl (gBy g, 98304, .inl (aN (updN wo (ix false v mv) 1))))]
                        exact hend _ _ _ _ _ (updN wo (ix false v mv) 1) h dX4_firstWins_193 (by exact ⟨by rw [hgv]; rfl, mOK_put hwo (by omega) hmv (by rw [hgv]; rfl)⟩)
                  · skip
                    refine lv_iload E.1.1 E.1.2.1 dX4_firstWins_78 (lv_at hl 5 rfl) ?_
                    refine lv_iload E.1.1 E.1.2.1 dX4_firstWins_80 (lv_at hl 7 rfl) ?_
                    refine q_ki (w2 := fun _ => [(m0, .inr (4, [.int (nI th), .int (nI cnt), .ref mw, .int (nI pr), .ref ma, .int (nI tol), .int (nI kn.toNat), .ref mc, .ref mf, .ref mr, .ref mt, .ref mar, .ref mbe, .ref mou])), (mr, .inl (gI g, 12, .inl (aN (ovA cnt sr fr)))), (mou, .inl (gBy g, 98304, .inl (aN wo)))]) (wr := [(m0, .inr (4, [.int (nI th), .int (nI cnt), .ref mw, .int (nI pr), .ref ma, .int (nI tol), .int (nI kn.toNat), .ref mc, .ref mf, .ref mr, .ref mt, .ref mar, .ref mbe, .ref mou])), (mr, .inl (gI g, 12, .inl (aN (ovA cnt sr fr)))), (mou, .inl (gBy g, 98304, .inl (aN wo)))]) E h [] [0, 1, 2] [0, 1, 2] (va_runS (As := [.int (nI (gM sr false v mv)), .int (nI k)]) (rest := []) E.1 (k_X4_has l g (gM sr false v mv) k (by exact Nat.lt_trans (by first | exact ldf12 (hsr v) | exact hsr v) (by decide)) (by omega) _) c_5 (q_preS E h [] rfl rfl) rfl rfl hl.1 rfl (lv_room (Nat.le_of_ble_eq_true rfl)) dX4_firstWins_82 ⟨Nat.zero_le _, Nat.zero_le _⟩) rfl rfl rfl (by decide) rfl (fun _ => rfl) (fun r6 _ H locs hr6 h => ?_)
                    subst hr6
                    refine q_bne E (tgt := 91) dX4_firstWins_85 (by decide) (fun hb85 => ?_) (fun hb85 => ?_)
                    · skip
                      refine lv_aload_n E.1.1 E.1.2.1 dX4_firstWins_91 rfl (lv_at hl 0 rfl) ?_
                      refine lv_iload_n E.1.1 E.1.2.1 dX4_firstWins_92 rfl (lv_at hl 1 rfl) ?_
                      refine q_bne E (tgt := 100) dX4_firstWins_93 (by decide) (fun hb93 => ?_) (fun hb93 => ?_)
                      · exact absurd hb93 (by decide)
                      · skip
                        refine q_ic E 1 dX4_firstWins_96 (by decide) ?_
                        refine q_go E (tgt := 101) dX4_firstWins_97 (by decide) ?_
                        refine lv_iload E.1.1 E.1.2.1 dX4_firstWins_101 (lv_at hl 7 rfl) ?_
                        refine lv_iload_n E.1.1 E.1.2.1 dX4_firstWins_103 rfl (lv_at hl 3 rfl) ?_
                        refine q_ic E 1 dX4_firstWins_104 (by decide) ?_
                        refine lv_iload E.1.1 E.1.2.1 dX4_firstWins_105 (lv_at hl 7 rfl) ?_
                        refine q_shl1 E (by first | omega | assumption) dX4_firstWins_107 ?_
                        refine q_or E dX4_firstWins_108 ?_
                        refine q_ki (w2 := fun u7 => [(m0, .inr (4, [.int (nI th), .int (nI cnt), .ref mw, .int (nI pr), .ref ma, .int (nI tol), .int (nI kn.toNat), .ref mc, .ref mf, .ref mr, .ref mt, .ref mar, .ref mbe, .ref mou])), (mr, .inl (gI g, 12, .inl (aN (ovA cnt sr fr)))), (mou, .inl (gBy g, 98304, .inl (aN u7)))]) (wr := []) E h [0, 1, 2] [] [0, 1, 2] (va_runV (As := [.int (nI 1), .int (nI k), .int (nI (mv ||| (2 ^ k)))]) (rest := []) E.1 (ih wo true k (mv ||| (2 ^ k))   (by omega) (by exact or12 hmv (pow12 (by omega))) (by exact hwo) (by have := mu_step (fr := sr) (last := v) (a := k) (by omega) hb85; exact Nat.lt_of_lt_of_le this (by omega)) _) c_8 (q_preV E h [0, 1, 2] rfl rfl (C := RX4) (T := TX4) (N := 14) 4 rfl 0 rfl) rfl rfl hl.1 rfl (lv_room (Nat.le_of_ble_eq_true rfl)) dX4_firstWins_109 ⟨Nat.zero_le _, Nat.zero_le _⟩) rfl rfl rfl (by decide) rfl (fun _ => rfl) (fun r9 u7 H locs hr9 h => ?_)
                        obtain ⟨hr9, hpu7⟩ := hr9
                        subst hr9
                        refine lv_istore (lv' := [(8, .int (nI (gV sr cnt true k (mv ||| (2 ^ k))).toNat)), (0, .ref m0), (1, .int (nI false.toNat)), (2, .int (nI v)), (3, .int (nI mv)), (4, .int (nI (ix false v mv))), (5, .int (nI (gM sr false v mv))), (6, .int (nI (gL (fun a => gV sr cnt (!false) a (mv ||| 2 ^ a)) false (gM sr false v mv) k).toNat)), (7, .int (nI k))]) E.1.1 E.1.2.1 dX4_firstWins_112 hl (by decide) rfl (fun ls hl => ?_)
                        refine lv_iload_n E.1.1 E.1.2.1 dX4_firstWins_114 rfl (lv_at hl 2 rfl) ?_
                        refine q_beq E (tgt := 136) dX4_firstWins_115 (by decide) (fun hb115 => ?_) (fun hb115 => ?_)
                        · skip
                          refine lv_iload E.1.1 E.1.2.1 dX4_firstWins_136 (lv_at hl 7 rfl) ?_
                          refine q_beq E (tgt := 150) dX4_firstWins_138 (by decide) (fun hb138 => ?_) (fun hb138 => ?_)
                          · skip
                            refine q_ic E 0 dX4_firstWins_150 (by decide) ?_
                            refine lv_istore (lv' := [(6, .int (nI 0)), (8, .int (nI (gV sr cnt true k (mv ||| (2 ^ k))).toNat)), (0, .ref m0), (1, .int (nI false.toNat)), (2, .int (nI v)), (3, .int (nI mv)), (4, .int (nI (ix false v mv))), (5, .int (nI (gM sr false v mv))), (7, .int (nI k))]) E.1.1 E.1.2.1 dX4_firstWins_151 hl (by decide) rfl (fun ls hl => ?_)
                            refine q_inc E (lv' := [(7, .int (nI (k + 1))), (6, .int (nI 0)), (8, .int (nI (gV sr cnt true k (mv ||| (2 ^ k))).toNat)), (0, .ref m0), (1, .int (nI false.toNat)), (2, .int (nI v)), (3, .int (nI mv)), (4, .int (nI (ix false v mv))), (5, .int (nI (gM sr false v mv)))]) hl dX4_firstWins_153 (k := 8) rfl (by decide) rfl (fun ls hl => ?_)
                            refine q_go E (tgt := 69) dX4_firstWins_156 (by decide) ?_
                            exact ih69  (k + 1) u7 (by omega) (by omega) (by assumption) false (by first | exact (gL_no hb85 (k := k) (t := true)).symm | exact (gL_no hb85 (k := k) (t := false)).symm | (rw [gL_yt hb85, hb120]; rfl) | (rw [gL_yt hb85, hb120]; exact hb125.symm) | (rw [gL_yf hb85, hb138]; rfl) | (rw [gL_yf hb85, hb138]; exact hb143.symm)) _ _ h _ (lv_sub hl [3, 4, 5, 6, 7, 8, 1, 0] rfl)
                          · skip
                            refine lv_iload E.1.1 E.1.2.1 dX4_firstWins_141 (lv_at hl 0 rfl) ?_
                            refine q_beq E (tgt := 150) dX4_firstWins_143 (by decide) (fun hb143 => ?_) (fun hb143 => ?_)
                            · skip
                              refine q_ic E 0 dX4_firstWins_150 (by decide) ?_
                              refine lv_istore (lv' := [(6, .int (nI 0)), (8, .int (nI (gV sr cnt true k (mv ||| (2 ^ k))).toNat)), (0, .ref m0), (1, .int (nI false.toNat)), (2, .int (nI v)), (3, .int (nI mv)), (4, .int (nI (ix false v mv))), (5, .int (nI (gM sr false v mv))), (7, .int (nI k))]) E.1.1 E.1.2.1 dX4_firstWins_151 hl (by decide) rfl (fun ls hl => ?_)
                              refine q_inc E (lv' := [(7, .int (nI (k + 1))), (6, .int (nI 0)), (8, .int (nI (gV sr cnt true k (mv ||| (2 ^ k))).toNat)), (0, .ref m0), (1, .int (nI false.toNat)), (2, .int (nI v)), (3, .int (nI mv)), (4, .int (nI (ix false v mv))), (5, .int (nI (gM sr false v mv)))]) hl dX4_firstWins_153 (k := 8) rfl (by decide) rfl (fun ls hl => ?_)
                              refine q_go E (tgt := 69) dX4_firstWins_156 (by decide) ?_
                              exact ih69  (k + 1) u7 (by omega) (by omega) (by assumption) false (by first | exact (gL_no hb85 (k := k) (t := true)).symm | exact (gL_no hb85 (k := k) (t := false)).symm | (rw [gL_yt hb85, hb120]; rfl) | (rw [gL_yt hb85, hb120]; exact hb125.symm) | (rw [gL_yf hb85, hb138]; rfl) | (rw [gL_yf hb85, hb138]; exact hb143.symm)) _ _ h _ (lv_sub hl [3, 4, 5, 6, 7, 8, 1, 0] rfl)
                            · skip
                              refine q_ic E 1 dX4_firstWins_146 (by decide) ?_
                              refine q_go E (tgt := 151) dX4_firstWins_147 (by decide) ?_
                              refine lv_istore (lv' := [(6, .int (nI 1)), (8, .int (nI (gV sr cnt true k (mv ||| (2 ^ k))).toNat)), (0, .ref m0), (1, .int (nI false.toNat)), (2, .int (nI v)), (3, .int (nI mv)), (4, .int (nI (ix false v mv))), (5, .int (nI (gM sr false v mv))), (7, .int (nI k))]) E.1.1 E.1.2.1 dX4_firstWins_151 hl (by decide) rfl (fun ls hl => ?_)
                              refine q_inc E (lv' := [(7, .int (nI (k + 1))), (6, .int (nI 1)), (8, .int (nI (gV sr cnt true k (mv ||| (2 ^ k))).toNat)), (0, .ref m0), (1, .int (nI false.toNat)), (2, .int (nI v)), (3, .int (nI mv)), (4, .int (nI (ix false v mv))), (5, .int (nI (gM sr false v mv)))]) hl dX4_firstWins_153 (k := 8) rfl (by decide) rfl (fun ls hl => ?_)
                              refine q_go E (tgt := 69) dX4_firstWins_156 (by decide) ?_
                              exact ih69  (k + 1) u7 (by omega) (by omega) (by assumption) true (by first | exact (gL_no hb85 (k := k) (t := true)).symm | exact (gL_no hb85 (k := k) (t := false)).symm | (rw [gL_yt hb85, hb120]; rfl) | (rw [gL_yt hb85, hb120]; exact hb125.symm) | (rw [gL_yf hb85, hb138]; rfl) | (rw [gL_yf hb85, hb138]; exact hb143.symm)) _ _ h _ (lv_sub hl [3, 4, 5, 6, 7, 8, 1, 0] rfl)
                        · exact absurd hb115 (by decide)
                    · skip
                      refine q_go E (tgt := 153) dX4_firstWins_88 (by decide) ?_
                      refine q_inc E (lv' := [(7, .int (nI (k + 1))), (0, .ref m0), (1, .int (nI false.toNat)), (2, .int (nI v)), (3, .int (nI mv)), (4, .int (nI (ix false v mv))), (5, .int (nI (gM sr false v mv))), (6, .int (nI (gL (fun a => gV sr cnt (!false) a (mv ||| 2 ^ a)) false (gM sr false v mv) k).toNat))]) hl dX4_firstWins_153 (k := 7) rfl (by decide) rfl (fun ls hl => ?_)
                      refine q_go E (tgt := 69) dX4_firstWins_156 (by decide) ?_
                      exact ih69  (k + 1) wo (by omega) (by omega) (by assumption) _ (by first | exact (gL_no hb85 (k := k) (t := true)).symm | exact (gL_no hb85 (k := k) (t := false)).symm | (rw [gL_yt hb85, hb120]; rfl) | (rw [gL_yt hb85, hb120]; exact hb125.symm) | (rw [gL_yf hb85, hb138]; rfl) | (rw [gL_yf hb85, hb138]; exact hb143.symm)) _ _ h _ (lv_sub hl [1, 2, 3, 4, 5, 6, 7, 0] rfl)
              exact lp69 ((cnt - 0) + 1) 0 ou (Nat.lt_succ_self _) (by omega) (by assumption) true rfl _ _ h _ (lv_sub hl [4, 5, 6, 7, 3, 2, 1, 0] rfl)
          · exact absurd hb31 (by decide)
      · exact absurd hb1 (by decide)
    · skip
      refine lv_iload_n E.1.1 E.1.2.1 dX4_firstWins_0 rfl (lv_at hl 1 rfl) ?_
      refine q_beq E (tgt := 9) dX4_firstWins_1 (by decide) (fun hb1 => ?_) (fun hb1 => ?_)
      · exact absurd hb1 (by decide)
      · skip
        refine q_bi E 12 dX4_firstWins_4 (by decide) ?_
        refine q_go E (tgt := 10) dX4_firstWins_6 (by decide) ?_
        refine lv_iload_n E.1.1 E.1.2.1 dX4_firstWins_10 rfl (lv_at hl 2 rfl) ?_
        refine q_add E dX4_firstWins_11 ?_
        refine q_si E 4096 dX4_firstWins_12 (by decide) ?_
        refine q_mul E dX4_firstWins_15 ?_
        refine lv_iload_n E.1.1 E.1.2.1 dX4_firstWins_16 rfl (lv_at hl 3 rfl) ?_
        refine q_add E dX4_firstWins_17 ?_
        refine lv_istore (lv' := [(4, .int (nI (((12 + v) * 4096) + mv))), (0, .ref m0), (1, .int (nI true.toNat)), (2, .int (nI v)), (3, .int (nI mv))]) E.1.1 E.1.2.1 dX4_firstWins_18 hl (by decide) rfl (fun ls hl => ?_)
        have hl : lv_has ls 9 [(4, .int (nI (ix true v mv))), (0, .ref m0), (1, .int (nI true.toNat)), (2, .int (nI v)), (3, .int (nI mv))] := hl
        have hlt := mOK_lt hmo (t := true) (show v < 12 by omega) hmv
        have hix := ix_lt (t := true) (show v < 12 by omega) hmv
        refine lv_aload_n E.1.1 E.1.2.1 dX4_firstWins_20 rfl (lv_at hl 1 rfl) ?_
        refine q_get E h (C := RX4) (T := TX4) (N := 14) 4 rfl c_2 0 rfl 13 (by decide) c_1 (v := .ref mou) rfl dX4_firstWins_21 ?_
        refine lv_iload E.1.1 E.1.2.1 dX4_firstWins_24 (lv_at hl 0 rfl) ?_
        refine q_bald E h 2 (f := ou) rfl (by first | omega | assumption) (by decide) dX4_firstWins_26 ?_
        refine q_ne0 E (tgt := 177) (by omega) dX4_firstWins_27 (by decide) (fun hb27 => ?_) (fun hb27 => ?_)
        · skip
          have hval := (hmo true v mv (by omega) hmv).resolve_left hb27
          refine lv_aload_n E.1.1 E.1.2.1 dX4_firstWins_177 rfl (lv_at hl 1 rfl) ?_
          refine q_get E h (C := RX4) (T := TX4) (N := 14) 4 rfl c_2 0 rfl 13 (by decide) c_1 (v := .ref mou) rfl dX4_firstWins_178 ?_
          refine lv_iload E.1.1 E.1.2.1 dX4_firstWins_181 (lv_at hl 0 rfl) ?_
          refine q_bald E h 2 (f := ou) rfl (by first | omega | assumption) (by decide) dX4_firstWins_183 ?_
          skip
          refine q_ic E 1 dX4_firstWins_184 (by decide) ?_
          refine q_ne E (tgt := 192) (by omega) (by first | omega | assumption) dX4_firstWins_185 (by decide) (fun hb185 => ?_) (fun hb185 => ?_)
          · skip
            refine q_ic E 0 dX4_firstWins_192 (by decide) ?_
            -- world at the end: [(m0, .inr (4, [.int (nI th), .int (nI cnt), .ref mw, .int (nI pr), .ref ma, .int (nI tol), .int (nI kn.toNat), .ref mc, .ref mf, .ref mr, .ref mt, .ref mar, .ref mbe, .ref mou])), (mr, .inl (gI g, 12, .inl (aN (ovA cnt sr fr)))), (mou, .inl (gBy g, 98304, .inl (aN ou)))]
            exact hend _ _ _ _ _ (ou) h dX4_firstWins_193 (by exact ⟨by first | exact mVl_1 hval hb185 | exact mVl_0 hval hb185, hmo⟩)
          · skip
            refine q_ic E 1 dX4_firstWins_188 (by decide) ?_
            refine q_go E (tgt := 193) dX4_firstWins_189 (by decide) ?_
            -- world at the end: [(m0, .inr (4, [.int (nI th), .int (nI cnt), .ref mw, .int (nI pr), .ref ma, .int (nI tol), .int (nI kn.toNat), .ref mc, .ref mf, .ref mr, .ref mt, .ref mar, .ref mbe, .ref mou])), (mr, .inl (gI g, 12, .inl (aN (ovA cnt sr fr)))), (mou, .inl (gBy g, 98304, .inl (aN ou)))]
            exact hend _ _ _ _ _ (ou) h dX4_firstWins_193 (by exact ⟨by first | exact mVl_1 hval hb185 | exact mVl_0 hval hb185, hmo⟩)
        · skip
          refine lv_iload_n E.1.1 E.1.2.1 dX4_firstWins_30 rfl (lv_at hl 2 rfl) ?_
          refine q_beq E (tgt := 47) dX4_firstWins_31 (by decide) (fun hb31 => ?_) (fun hb31 => ?_)
          · exact absurd hb31 (by decide)
          · skip
            refine lv_aload_n E.1.1 E.1.2.1 dX4_firstWins_34 rfl (lv_at hl 1 rfl) ?_
            refine q_get E h (C := RX4) (T := TX4) (N := 14) 4 rfl c_2 0 rfl 9 (by decide) c_3 (v := .ref mr) rfl dX4_firstWins_35 ?_
            refine lv_iload_n E.1.1 E.1.2.1 dX4_firstWins_38 rfl (lv_at hl 3 rfl) ?_
            refine q_iald E h 1 (f := (ovA cnt sr fr)) rfl (by first | omega | assumption) (by decide) dX4_firstWins_39 ?_
            refine q_top (w := .int (nI (sr v))) (congrArg (fun z => Value.int (nI z)) (ovA_in hv)) ?_
            refine lv_iload_n E.1.1 E.1.2.1 dX4_firstWins_40 rfl (lv_at hl 4 rfl) ?_
            refine q_im1 E dX4_firstWins_41 ?_
            refine q_xor E dX4_firstWins_42 ?_
            refine q_andn E dX4_firstWins_43 ?_
            refine q_go E (tgt := 53) dX4_firstWins_44 (by decide) ?_
            refine lv_istore (lv' := [(5, .int (nI (ldf (sr v) mv))), (4, .int (nI (ix true v mv))), (0, .ref m0), (1, .int (nI true.toNat)), (2, .int (nI v)), (3, .int (nI mv))]) E.1.1 E.1.2.1 dX4_firstWins_53 hl (by decide) rfl (fun ls hl => ?_)
            have hl : lv_has ls 9 [(5, .int (nI (gM sr true v mv))), (4, .int (nI (ix true v mv))), (0, .ref m0), (1, .int (nI true.toNat)), (2, .int (nI v)), (3, .int (nI mv))] := hl
            refine lv_iload_n E.1.1 E.1.2.1 dX4_firstWins_55 rfl (lv_at hl 3 rfl) ?_
            refine q_bne E (tgt := 63) dX4_firstWins_56 (by decide) (fun hb56 => ?_) (fun hb56 => ?_)
            · skip
              refine q_ic E 0 dX4_firstWins_63 (by decide) ?_
              refine lv_istore (lv' := [(6, .int (nI 0)), (5, .int (nI (gM sr true v mv))), (4, .int (nI (ix true v mv))), (0, .ref m0), (1, .int (nI true.toNat)), (2, .int (nI v)), (3, .int (nI mv))]) E.1.1 E.1.2.1 dX4_firstWins_64 hl (by decide) rfl (fun ls hl => ?_)
              refine q_ic E 0 dX4_firstWins_66 (by decide) ?_
              refine lv_istore (lv' := [(7, .int (nI 0)), (6, .int (nI 0)), (5, .int (nI (gM sr true v mv))), (4, .int (nI (ix true v mv))), (0, .ref m0), (1, .int (nI true.toNat)), (2, .int (nI v)), (3, .int (nI mv))]) E.1.1 E.1.2.1 dX4_firstWins_67 hl (by decide) rfl (fun ls hl => ?_)
              have lp69 : ∀ (fu : Nat) (k : Nat) (wo : Nat → Nat), cnt - k < fu → (k ≤ cnt) → (mOK sr cnt wo) → ∀ (y69_6 : Bool), y69_6 = gL (fun a => gV sr cnt (!true) a (mv ||| 2 ^ a)) true (gM sr true v mv) k → ∀ (H : Heap) (locs : List Loc), qH g A s [(m0, .inr (4, [.int (nI th), .int (nI cnt), .ref mw, .int (nI pr), .ref ma, .int (nI tol), .int (nI kn.toNat), .ref mc, .ref mf, .ref mr, .ref mt, .ref mar, .ref mbe, .ref mou])), (mr, .inl (gI g, 12, .inl (aN (ovA cnt sr fr)))), (mou, .inl (gBy g, 98304, .inl (aN wo)))] H locs → ∀ ls : Array Slot, lv_has ls 9 [(0, .ref m0), (1, .int (nI true.toNat)), (2, .int (nI v)), (3, .int (nI mv)), (4, .int (nI (ix true v mv))), (5, .int (nI (gM sr true v mv))), (6, .int (nI y69_6.toNat)), (7, .int (nI k))] → W p l e { frames := d + 1 + 1, cells := 0, slots := 0, locals := 40 * (d + 1) + 30 } s m args below meth c H locs 0 0 Q (F0 m 69 ls []) := by
                intro fu
                induction fu with
                | zero => intro k wo hfu; exact absurd hfu (Nat.not_lt_zero _)
                | succ fu ih69 =>
                  intro k wo hfu hk hwo y69_6 ey69_6 H locs h ls hl
                  subst ey69_6
                  refine lv_iload E.1.1 E.1.2.1 dX4_firstWins_69 (lv_at hl 7 rfl) ?_
                  refine lv_aload_n E.1.1 E.1.2.1 dX4_firstWins_71 rfl (lv_at hl 0 rfl) ?_
                  refine q_get E h (C := RX4) (T := TX4) (N := 14) 4 rfl c_2 0 rfl 1 (by decide) c_4 (v := .int (nI cnt)) rfl dX4_firstWins_72 ?_
                  refine q_ge E (tgt := 159) (by first | omega | assumption) (by first | omega | assumption) dX4_firstWins_75 (by decide) (fun hb75 => ?_) (fun hb75 => ?_)
                  · skip
                    refine lv_aload_n E.1.1 E.1.2.1 dX4_firstWins_159 rfl (lv_at hl 0 rfl) ?_
                    refine q_get E h (C := RX4) (T := TX4) (N := 14) 4 rfl c_2 0 rfl 13 (by decide) c_1 (v := .ref mou) rfl dX4_firstWins_160 ?_
                    refine lv_iload E.1.1 E.1.2.1 dX4_firstWins_163 (lv_at hl 4 rfl) ?_
                    refine lv_iload E.1.1 E.1.2.1 dX4_firstWins_165 (lv_at hl 6 rfl) ?_
                    refine q_beq E (tgt := 174) dX4_firstWins_167 (by decide) (fun hb167 => ?_) (fun hb167 => ?_)
                    · skip
                      have hgv : gV sr cnt true v mv = false := by have ek : k = cnt := (by omega); rw [ek] at hb167; exact (gV_eq hcnt true v mv).trans hb167
                      refine q_ic E 2 dX4_firstWins_174 (by decide) ?_
                      refine lv_i2b (v := nI 2) E.1.1 E.1.2.1 dX4_firstWins_175 (by decide) ?_
                      refine q_bast E h 2 (f := wo) rfl (by first | omega | assumption) (by decide) (by decide) dX4_firstWins_176 (w2 := [(m0, .inr (4, [.int (nI th), .int (nI cnt), .ref mw, .int (nI pr), .ref ma, .int (nI tol), .int (nI kn.toNat), .ref mc, .ref mf, .ref mr, .ref mt, .ref mar, .ref mbe, .ref mou])), (mr, .inl (gI g, 12, .inl (aN (ovA cnt sr fr)))), (mou, .inl (gBy g, 98304, .inl (aN (updN wo (ix true v mv) 2))))]) rfl (fun H locs h => ?_)
                      refine lv_aload_n E.1.1 E.1.2.1 dX4_firstWins_177 rfl (lv_at hl 0 rfl) ?_
                      refine q_get E h (C := RX4) (T := TX4) (N := 14) 4 rfl c_2 0 rfl 13 (by decide) c_1 (v := .ref mou) rfl dX4_firstWins_178 ?_
                      refine lv_iload E.1.1 E.1.2.1 dX4_firstWins_181 (lv_at hl 4 rfl) ?_
                      refine q_bald E h 2 (f := (updN wo (ix true v mv) 2)) rfl (by first | omega | assumption) (by decide) dX4_firstWins_183 ?_
                      refine q_top (w := .int (nI 2)) (congrArg (fun z => Value.int (nI z)) (updN_at _ _ _)) ?_
                      refine q_ic E 1 dX4_firstWins_184 (by decide) ?_
                      refine q_ne E (tgt := 192) (by decide) (by decide) dX4_firstWins_185 (by decide) (fun hb185 => ?_) (fun hb185 => ?_)
                      · skip
                        refine q_ic E 0 dX4_firstWins_192 (by decide) ?_
                        -- world at the end: [(m0, .inr (4, [.int (nI th), .int (nI cnt), .ref mw, .int (nI pr), .ref ma, .int (nI tol), .int (nI kn.toNat), .ref mc, .ref mf, .ref mr, .ref mt, .ref mar, .ref mbe, .ref mou])), (mr, .inl (gI g, 12, .inl (aN (ovA cnt sr fr)))), (mou, .inl (gBy g, 98304, .inl (aN (updN wo (ix true v mv) 2))))]
                        exact hend _ _ _ _ _ (updN wo (ix true v mv) 2) h dX4_firstWins_193 (by exact ⟨by rw [hgv]; rfl, mOK_put hwo (by omega) hmv (by rw [hgv]; rfl)⟩)
                      · exact absurd hb185 (by decide)
                    · skip
                      have hgv : gV sr cnt true v mv = true := by have ek : k = cnt := (by omega); rw [ek] at hb167; exact (gV_eq hcnt true v mv).trans hb167
                      refine q_ic E 1 dX4_firstWins_170 (by decide) ?_
                      refine q_go E (tgt := 175) dX4_firstWins_171 (by decide) ?_
                      refine lv_i2b (v := nI 1) E.1.1 E.1.2.1 dX4_firstWins_175 (by decide) ?_
                      refine q_bast E h 2 (f := wo) rfl (by first | omega | assumption) (by decide) (by decide) dX4_firstWins_176 (w2 := [(m0, .inr (4, [.int (nI th), .int (nI cnt), .ref mw, .int (nI pr), .ref ma, .int (nI tol), .int (nI kn.toNat), .ref mc, .ref mf, .ref mr, .ref mt, .ref mar, .ref mbe, .ref mou])), (mr, .inl (gI g, 12, .inl (aN (ovA cnt sr fr)))), (mou, .inl (gBy g, 98304, .inl (aN (updN wo (ix true v mv) 1))))]) rfl (fun H locs h => ?_)
                      refine lv_aload_n E.1.1 E.1.2.1 dX4_firstWins_177 rfl (lv_at hl 0 rfl) ?_
                      refine q_get E h (C := RX4) (T := TX4) (N := 14) 4 rfl c_2 0 rfl 13 (by decide) c_1 (v := .ref mou) rfl dX4_firstWins_178 ?_
                      refine lv_iload E.1.1 E.1.2.1 dX4_firstWins_181 (lv_at hl 4 rfl) ?_
                      refine q_bald E h 2 (f := (updN wo (ix true v mv) 1)) rfl (by first | omega | assumption) (by decide) dX4_firstWins_183 ?_
                      refine q_top (w := .int (nI 1)) (congrArg (fun z => Value.int (nI z)) (updN_at _ _ _)) ?_
                      refine q_ic E 1 dX4_firstWins_184 (by decide) ?_
                      refine q_ne E (tgt := 192) (by decide) (by decide) dX4_firstWins_185 (by decide) (fun hb185 => ?_) (fun hb185 => ?_)
                      · exact absurd hb185 (by decide)
                      · skip
                        refine q_ic E 1 dX4_firstWins_188 (by decide) ?_
                        refine q_go E (tgt := 193) dX4_firstWins_189 (by decide) ?_
                        -- world at the end: [(m0, .inr (4, [.int (nI th), .int (nI cnt), .ref mw, .int (nI pr), .ref ma, .int (nI tol), .int (nI kn.toNat), .ref mc, .ref mf, .ref mr, .ref mt, .ref mar, .ref mbe, .ref mou])), (mr, .inl (gI g, 12, .inl (aN (ovA cnt sr fr)))), (mou, .inl (gBy g, 98304, .inl (aN (updN wo (ix true v mv) 1))))]
                        exact hend _ _ _ _ _ (updN wo (ix true v mv) 1) h dX4_firstWins_193 (by exact ⟨by rw [hgv]; rfl, mOK_put hwo (by omega) hmv (by rw [hgv]; rfl)⟩)
                  · skip
                    refine lv_iload E.1.1 E.1.2.1 dX4_firstWins_78 (lv_at hl 5 rfl) ?_
                    refine lv_iload E.1.1 E.1.2.1 dX4_firstWins_80 (lv_at hl 7 rfl) ?_
                    refine q_ki (w2 := fun _ => [(m0, .inr (4, [.int (nI th), .int (nI cnt), .ref mw, .int (nI pr), .ref ma, .int (nI tol), .int (nI kn.toNat), .ref mc, .ref mf, .ref mr, .ref mt, .ref mar, .ref mbe, .ref mou])), (mr, .inl (gI g, 12, .inl (aN (ovA cnt sr fr)))), (mou, .inl (gBy g, 98304, .inl (aN wo)))]) (wr := [(m0, .inr (4, [.int (nI th), .int (nI cnt), .ref mw, .int (nI pr), .ref ma, .int (nI tol), .int (nI kn.toNat), .ref mc, .ref mf, .ref mr, .ref mt, .ref mar, .ref mbe, .ref mou])), (mr, .inl (gI g, 12, .inl (aN (ovA cnt sr fr)))), (mou, .inl (gBy g, 98304, .inl (aN wo)))]) E h [] [0, 1, 2] [0, 1, 2] (va_runS (As := [.int (nI (gM sr true v mv)), .int (nI k)]) (rest := []) E.1 (k_X4_has l g (gM sr true v mv) k (by exact Nat.lt_trans (by first | exact ldf12 (hsr v) | exact hsr v) (by decide)) (by omega) _) c_5 (q_preS E h [] rfl rfl) rfl rfl hl.1 rfl (lv_room (Nat.le_of_ble_eq_true rfl)) dX4_firstWins_82 ⟨Nat.zero_le _, Nat.zero_le _⟩) rfl rfl rfl (by decide) rfl (fun _ => rfl) (fun r10 _ H locs hr10 h => ?_)
                    subst hr10
                    refine q_bne E (tgt := 91) dX4_firstWins_85 (by decide) (fun hb85 => ?_) (fun hb85 => ?_)
                    · skip
                      refine lv_aload_n E.1.1 E.1.2.1 dX4_firstWins_91 rfl (lv_at hl 0 rfl) ?_
                      refine lv_iload_n E.1.1 E.1.2.1 dX4_firstWins_92 rfl (lv_at hl 1 rfl) ?_
                      refine q_bne E (tgt := 100) dX4_firstWins_93 (by decide) (fun hb93 => ?_) (fun hb93 => ?_)
                      · skip
                        refine q_ic E 0 dX4_firstWins_100 (by decide) ?_
                        refine lv_iload E.1.1 E.1.2.1 dX4_firstWins_101 (lv_at hl 7 rfl) ?_
                        refine lv_iload_n E.1.1 E.1.2.1 dX4_firstWins_103 rfl (lv_at hl 3 rfl) ?_
                        refine q_ic E 1 dX4_firstWins_104 (by decide) ?_
                        refine lv_iload E.1.1 E.1.2.1 dX4_firstWins_105 (lv_at hl 7 rfl) ?_
                        refine q_shl1 E (by first | omega | assumption) dX4_firstWins_107 ?_
                        refine q_or E dX4_firstWins_108 ?_
                        refine q_ki (w2 := fun u11 => [(m0, .inr (4, [.int (nI th), .int (nI cnt), .ref mw, .int (nI pr), .ref ma, .int (nI tol), .int (nI kn.toNat), .ref mc, .ref mf, .ref mr, .ref mt, .ref mar, .ref mbe, .ref mou])), (mr, .inl (gI g, 12, .inl (aN (ovA cnt sr fr)))), (mou, .inl (gBy g, 98304, .inl (aN u11)))]) (wr := []) E h [0, 1, 2] [] [0, 1, 2] (va_runV (As := [.int (nI 0), .int (nI k), .int (nI (mv ||| (2 ^ k)))]) (rest := []) E.1 (ih wo false k (mv ||| (2 ^ k))   (by omega) (by exact or12 hmv (pow12 (by omega))) (by exact hwo) (by have := mu_step (fr := sr) (last := v) (a := k) (by omega) hb85; exact Nat.lt_of_lt_of_le this (by omega)) _) c_8 (q_preV E h [0, 1, 2] rfl rfl (C := RX4) (T := TX4) (N := 14) 4 rfl 0 rfl) rfl rfl hl.1 rfl (lv_room (Nat.le_of_ble_eq_true rfl)) dX4_firstWins_109 ⟨Nat.zero_le _, Nat.zero_le _⟩) rfl rfl rfl (by decide) rfl (fun _ => rfl) (fun r12 u11 H locs hr12 h => ?_)
                        obtain ⟨hr12, hpu11⟩ := hr12
                        subst hr12
                        refine lv_istore (lv' := [(8, .int (nI (gV sr cnt false k (mv ||| (2 ^ k))).toNat)), (0, .ref m0), (1, .int (nI true.toNat)), (2, .int (nI v)), (3, .int (nI mv)), (4, .int (nI (ix true v mv))), (5, .int (nI (gM sr true v mv))), (6, .int (nI (gL (fun a => gV sr cnt (!true) a (mv ||| 2 ^ a)) true (gM sr true v mv) k).toNat)), (7, .int (nI k))]) E.1.1 E.1.2.1 dX4_firstWins_112 hl (by decide) rfl (fun ls hl => ?_)
                        refine lv_iload_n E.1.1 E.1.2.1 dX4_firstWins_114 rfl (lv_at hl 2 rfl) ?_
                        refine q_beq E (tgt := 136) dX4_firstWins_115 (by decide) (fun hb115 => ?_) (fun hb115 => ?_)
                        · exact absurd hb115 (by decide)
                        · skip
                          refine lv_iload E.1.1 E.1.2.1 dX4_firstWins_118 (lv_at hl 7 rfl) ?_
                          refine q_bne E (tgt := 128) dX4_firstWins_120 (by decide) (fun hb120 => ?_) (fun hb120 => ?_)
                          · skip
                            refine q_ic E 1 dX4_firstWins_128 (by decide) ?_
                            refine q_go E (tgt := 151) dX4_firstWins_129 (by decide) ?_
                            refine lv_istore (lv' := [(6, .int (nI 1)), (8, .int (nI (gV sr cnt false k (mv ||| (2 ^ k))).toNat)), (0, .ref m0), (1, .int (nI true.toNat)), (2, .int (nI v)), (3, .int (nI mv)), (4, .int (nI (ix true v mv))), (5, .int (nI (gM sr true v mv))), (7, .int (nI k))]) E.1.1 E.1.2.1 dX4_firstWins_151 hl (by decide) rfl (fun ls hl => ?_)
                            refine q_inc E (lv' := [(7, .int (nI (k + 1))), (6, .int (nI 1)), (8, .int (nI (gV sr cnt false k (mv ||| (2 ^ k))).toNat)), (0, .ref m0), (1, .int (nI true.toNat)), (2, .int (nI v)), (3, .int (nI mv)), (4, .int (nI (ix true v mv))), (5, .int (nI (gM sr true v mv)))]) hl dX4_firstWins_153 (k := 8) rfl (by decide) rfl (fun ls hl => ?_)
                            refine q_go E (tgt := 69) dX4_firstWins_156 (by decide) ?_
                            exact ih69  (k + 1) u11 (by omega) (by omega) (by assumption) true (by first | exact (gL_no hb85 (k := k) (t := true)).symm | exact (gL_no hb85 (k := k) (t := false)).symm | (rw [gL_yt hb85, hb120]; rfl) | (rw [gL_yt hb85, hb120]; exact hb125.symm) | (rw [gL_yf hb85, hb138]; rfl) | (rw [gL_yf hb85, hb138]; exact hb143.symm)) _ _ h _ (lv_sub hl [3, 4, 5, 6, 7, 8, 1, 0] rfl)
                          · skip
                            refine lv_iload E.1.1 E.1.2.1 dX4_firstWins_123 (lv_at hl 0 rfl) ?_
                            refine q_beq E (tgt := 132) dX4_firstWins_125 (by decide) (fun hb125 => ?_) (fun hb125 => ?_)
                            · skip
                              refine q_ic E 0 dX4_firstWins_132 (by decide) ?_
                              refine q_go E (tgt := 151) dX4_firstWins_133 (by decide) ?_
                              refine lv_istore (lv' := [(6, .int (nI 0)), (8, .int (nI (gV sr cnt false k (mv ||| (2 ^ k))).toNat)), (0, .ref m0), (1, .int (nI true.toNat)), (2, .int (nI v)), (3, .int (nI mv)), (4, .int (nI (ix true v mv))), (5, .int (nI (gM sr true v mv))), (7, .int (nI k))]) E.1.1 E.1.2.1 dX4_firstWins_151 hl (by decide) rfl (fun ls hl => ?_)
                              refine q_inc E (lv' := [(7, .int (nI (k + 1))), (6, .int (nI 0)), (8, .int (nI (gV sr cnt false k (mv ||| (2 ^ k))).toNat)), (0, .ref m0), (1, .int (nI true.toNat)), (2, .int (nI v)), (3, .int (nI mv)), (4, .int (nI (ix true v mv))), (5, .int (nI (gM sr true v mv)))]) hl dX4_firstWins_153 (k := 8) rfl (by decide) rfl (fun ls hl => ?_)
                              refine q_go E (tgt := 69) dX4_firstWins_156 (by decide) ?_
                              exact ih69  (k + 1) u11 (by omega) (by omega) (by assumption) false (by first | exact (gL_no hb85 (k := k) (t := true)).symm | exact (gL_no hb85 (k := k) (t := false)).symm | (rw [gL_yt hb85, hb120]; rfl) | (rw [gL_yt hb85, hb120]; exact hb125.symm) | (rw [gL_yf hb85, hb138]; rfl) | (rw [gL_yf hb85, hb138]; exact hb143.symm)) _ _ h _ (lv_sub hl [3, 4, 5, 6, 7, 8, 1, 0] rfl)
                            · skip
                              refine q_ic E 1 dX4_firstWins_128 (by decide) ?_
                              refine q_go E (tgt := 151) dX4_firstWins_129 (by decide) ?_
                              refine lv_istore (lv' := [(6, .int (nI 1)), (8, .int (nI (gV sr cnt false k (mv ||| (2 ^ k))).toNat)), (0, .ref m0), (1, .int (nI true.toNat)), (2, .int (nI v)), (3, .int (nI mv)), (4, .int (nI (ix true v mv))), (5, .int (nI (gM sr true v mv))), (7, .int (nI k))]) E.1.1 E.1.2.1 dX4_firstWins_151 hl (by decide) rfl (fun ls hl => ?_)
                              refine q_inc E (lv' := [(7, .int (nI (k + 1))), (6, .int (nI 1)), (8, .int (nI (gV sr cnt false k (mv ||| (2 ^ k))).toNat)), (0, .ref m0), (1, .int (nI true.toNat)), (2, .int (nI v)), (3, .int (nI mv)), (4, .int (nI (ix true v mv))), (5, .int (nI (gM sr true v mv)))]) hl dX4_firstWins_153 (k := 8) rfl (by decide) rfl (fun ls hl => ?_)
                              refine q_go E (tgt := 69) dX4_firstWins_156 (by decide) ?_
                              exact ih69  (k + 1) u11 (by omega) (by omega) (by assumption) true (by first | exact (gL_no hb85 (k := k) (t := true)).symm | exact (gL_no hb85 (k := k) (t := false)).symm | (rw [gL_yt hb85, hb120]; rfl) | (rw [gL_yt hb85, hb120]; exact hb125.symm) | (rw [gL_yf hb85, hb138]; rfl) | (rw [gL_yf hb85, hb138]; exact hb143.symm)) _ _ h _ (lv_sub hl [3, 4, 5, 6, 7, 8, 1, 0] rfl)
                      · exact absurd hb93 (by decide)
                    · skip
                      refine q_go E (tgt := 153) dX4_firstWins_88 (by decide) ?_
                      refine q_inc E (lv' := [(7, .int (nI (k + 1))), (0, .ref m0), (1, .int (nI true.toNat)), (2, .int (nI v)), (3, .int (nI mv)), (4, .int (nI (ix true v mv))), (5, .int (nI (gM sr true v mv))), (6, .int (nI (gL (fun a => gV sr cnt (!true) a (mv ||| 2 ^ a)) true (gM sr true v mv) k).toNat))]) hl dX4_firstWins_153 (k := 7) rfl (by decide) rfl (fun ls hl => ?_)
                      refine q_go E (tgt := 69) dX4_firstWins_156 (by decide) ?_
                      exact ih69  (k + 1) wo (by omega) (by omega) (by assumption) _ (by first | exact (gL_no hb85 (k := k) (t := true)).symm | exact (gL_no hb85 (k := k) (t := false)).symm | (rw [gL_yt hb85, hb120]; rfl) | (rw [gL_yt hb85, hb120]; exact hb125.symm) | (rw [gL_yf hb85, hb138]; rfl) | (rw [gL_yf hb85, hb138]; exact hb143.symm)) _ _ h _ (lv_sub hl [1, 2, 3, 4, 5, 6, 7, 0] rfl)
              exact lp69 ((cnt - 0) + 1) 0 ou (Nat.lt_succ_self _) (by omega) (by assumption) false rfl _ _ h _ (lv_sub hl [4, 5, 6, 7, 3, 2, 1, 0] rfl)
            · exact absurd hb56 (by decide)

set_option maxRecDepth 100000 in
theorem k_X4_firstWins (l : Launch) (g : GK) (m0 mw ma mc mf mr mt mar mbe mou : Nat) (th cnt pr tol : Nat) (kn : Bool) (sr fr : Nat → Nat) (ou : Nat → Nat) (t : Bool) (v mv : Nat) (hcnt : cnt ≤ 12) (hsr : ∀ k, sr k < 4096) (hv : v < cnt) (hmv : mv < 4096) (hmo : mOK sr cnt ou) : CI (S := Nat → Nat) l g yX4_firstWins wsX4_firstWins { frames := 31, cells := 0, slots := 0, locals := 1230 } [.ref m0, .int (nI t.toNat), .int (nI v), .int (nI mv)] [(m0, .inr (4, [.int (nI th), .int (nI cnt), .ref mw, .int (nI pr), .ref ma, .int (nI tol), .int (nI kn.toNat), .ref mc, .ref mf, .ref mr, .ref mt, .ref mar, .ref mbe, .ref mou])), (mr, .inl (gI g, 12, .inl (aN (ovA cnt sr fr)))), (mou, .inl (gBy g, 98304, .inl (aN ou)))] (fun r u => r = nI (gV sr cnt t v mv).toNat ∧ mOK sr cnt u) (fun u => [(m0, .inr (4, [.int (nI th), .int (nI cnt), .ref mw, .int (nI pr), .ref ma, .int (nI tol), .int (nI kn.toNat), .ref mc, .ref mf, .ref mr, .ref mt, .ref mar, .ref mbe, .ref mou])), (mr, .inl (gI g, 12, .inl (aN (ovA cnt sr fr)))), (mou, .inl (gBy g, 98304, .inl (aN u)))]) :=
  k_fwd l g m0 mw ma mc mf mr mt mar mbe mou th cnt pr tol kn sr fr hcnt hsr 30 ou t v mv hv hmv hmo (Nat.lt_succ_of_lt (mu_lt t mv))

set_option maxHeartbeats 4000000 in
set_option maxRecDepth 100000 in
theorem k_X4_wins (l : Launch) (g : GK) (m0 mw ma mc mf mr mt mar mbe mou : Nat) (th cnt pr tol : Nat) (kn : Bool) (wt mk : Nat → Nat) (fr to_ : Nat → Nat) (ou : Nat → Nat) (v : Nat) (hcnt : cnt ≤ 12) (hpc : pr < 2 ^ cnt) (hmk : ∀ k, mk k < 4096) (hwt : ∀ k, wt k < 65536) (htol : tol < 65536) (hv : v < cnt) : CI (S := (Nat → Nat) × (Nat → Nat) × (Nat → Nat)) l g yX4_wins wsX4_wins { frames := 32, cells := 0, slots := 0, locals := 1258 } [.ref m0, .int (nI v)] [(m0, .inr (4, [.int (nI th), .int (nI cnt), .ref mw, .int (nI pr), .ref ma, .int (nI tol), .int (nI kn.toNat), .ref mc, .ref mf, .ref mr, .ref mt, .ref mar, .ref mbe, .ref mou])), (mw, .inl (gI g, 12, .inl (aN wt))), (ma, .inl (gI g, 12, .inl (aN mk))), (mr, .inl (gI g, 12, .inl (aN fr))), (mt, .inl (gI g, 12, .inl (aN to_))), (mou, .inl (gBy g, 98304, .inl (aN ou)))] (fun r u => r = nI (pr.testBit v && gV (srO (wkb wt mk pr tol)) cnt false v (2 ^ v)).toNat ∧ True) (fun u => [(m0, .inr (4, [.int (nI 0), .int (nI cnt), .ref mw, .int (nI pr), .ref ma, .int (nI tol), .int (nI kn.toNat), .ref mc, .ref mf, .ref mr, .ref mt, .ref mar, .ref mbe, .ref mou])), (mw, .inl (gI g, 12, .inl (aN wt))), (ma, .inl (gI g, 12, .inl (aN mk))), (mr, .inl (gI g, 12, .inl (aN u.1))), (mt, .inl (gI g, 12, .inl (aN u.2.1))), (mou, .inl (gBy g, 98304, .inl (aN u.2.2)))]) := by
  refine q_ofI (own := RX4) (by decide) rfl rfl (Nat.le_of_ble_eq_true rfl) (fun v u hp => by obtain ⟨rfl, -⟩ := hp; exact n_bool _) ?_
  intro p e s m below meth c A Q args E hmn h hend ls hl
  have hl : lv_has ls 3 [(0, .ref m0), (1, .int (nI v))] := hl
  have c_1 := cwV (R := { frames := 32, cells := 0, slots := 0, locals := 1258 }) (rm := { frames := 0, cells := 0, slots := 0, locals := 0 }) (mc := 0) (ms := 0) 1 E.1.2.2.2.2 gX4_wins_X4_isArgument rfl rfl rfl (by decide +kernel) ⟨Nat.le_of_ble_eq_true rfl, Nat.le_of_ble_eq_true rfl⟩
  have c_3 := E.1.2.2.2.2 (.fieldLink RX4 44 "DebateSolverModel" "thrown" "I") (by decide +kernel)
  have c_4 := (by decide +kernel : ∀ w ∈ wsX40, w ∈ wsX4_wins)
  have c_5 := E.1.2.2.2.2 (.fieldLink RX4 62 "DebateSolverModel" "in" "I") (by decide +kernel)
  have c_6 := cwS (R := { frames := 32, cells := 0, slots := 0, locals := 1258 }) (rm := { frames := 0, cells := 0, slots := 0, locals := 0 }) (mc := 0) (ms := 0) 2 E.1.2.2.2.2 gX4_wins_X4_has rfl rfl rfl (by decide +kernel) ⟨Nat.le_of_ble_eq_true rfl, Nat.le_of_ble_eq_true rfl⟩
  have c_8 := cwV (R := { frames := 32, cells := 0, slots := 0, locals := 1258 }) (rm := { frames := 3, cells := 0, slots := 0, locals := 66 }) (mc := 0) (ms := 0) 0 E.1.2.2.2.2 gX4_wins_X4_look rfl rfl rfl (by decide +kernel) ⟨Nat.le_of_ble_eq_true rfl, Nat.le_of_ble_eq_true rfl⟩
  have c_9 := E.1.2.2.2.2 (.fieldLink RX4 40 "DebateSolverModel" "outcomes" "[B") (by decide +kernel)
  have c_11 := cwV (R := { frames := 32, cells := 0, slots := 0, locals := 1258 }) (rm := { frames := 31, cells := 0, slots := 0, locals := 1230 }) (mc := 0) (ms := 0) 3 E.1.2.2.2.2 gX4_wins_X4_firstWins rfl rfl rfl (by decide +kernel) ⟨Nat.le_of_ble_eq_true rfl, Nat.le_of_ble_eq_true rfl⟩
  have hpr := pr12 hcnt hpc
  have hp12 := cnt_p12 hcnt
  refine lv_aload_n E.1.1 E.1.2.1 dX4_wins_0 rfl (lv_at hl 0 rfl) ?_
  refine lv_aload_n E.1.1 E.1.2.1 dX4_wins_1 rfl (lv_at hl 0 rfl) ?_
  refine lv_iload_n E.1.1 E.1.2.1 dX4_wins_2 rfl (lv_at hl 1 rfl) ?_
  refine q_ki (w2 := fun _ => [(m0, .inr (4, [.int (nI th), .int (nI cnt), .ref mw, .int (nI pr), .ref ma, .int (nI tol), .int (nI kn.toNat), .ref mc, .ref mf, .ref mr, .ref mt, .ref mar, .ref mbe, .ref mou])), (mw, .inl (gI g, 12, .inl (aN wt))), (ma, .inl (gI g, 12, .inl (aN mk))), (mr, .inl (gI g, 12, .inl (aN fr))), (mt, .inl (gI g, 12, .inl (aN to_))), (mou, .inl (gBy g, 98304, .inl (aN ou)))]) (wr := [(mw, .inl (gI g, 12, .inl (aN wt))), (ma, .inl (gI g, 12, .inl (aN mk))), (mr, .inl (gI g, 12, .inl (aN fr))), (mt, .inl (gI g, 12, .inl (aN to_))), (mou, .inl (gBy g, 98304, .inl (aN ou)))]) E h [0] [1, 2, 3, 4, 5] [5, 0, 1, 2, 3, 4] (va_runV (As := [.int (nI v)]) (rest := [.ref m0]) E.1 (k_X4_isArgument l g m0 mw ma mc mf mr mt mar mbe mou th cnt pr tol kn v (by first | omega | assumption | exact srO_in | exact tgO_out hpc | exact srO_lt _ _ | exact tgO_lt _ _ | exact srO_lt _ | exact tgO_lt _ | exact pr12 hcnt hpc) (by first | omega | assumption | exact srO_in | exact tgO_out hpc | exact srO_lt _ _ | exact tgO_lt _ _ | exact srO_lt _ | exact tgO_lt _ | exact pr12 hcnt hpc) _) c_1 (q_preV E h [0] rfl rfl (C := RX4) (T := TX4) (N := 14) 4 rfl 0 rfl) rfl rfl hl.1 rfl (lv_room (Nat.le_of_ble_eq_true rfl)) dX4_wins_3 ⟨Nat.zero_le _, Nat.zero_le _⟩) rfl rfl rfl (by decide) rfl (fun _ => rfl) (fun r2 _ H locs hr2 h => ?_)
  subst hr2
  refine q_beq E (tgt := 13) dX4_wins_6 (by decide) (fun hb6 => ?_) (fun hb6 => ?_)
  · exact absurd hb6 (by decide)
  · skip
    refine q_ic E 0 dX4_wins_9 (by decide) ?_
    refine q_go E (tgt := 14) dX4_wins_10 (by decide) ?_
    refine q_put E h (C := RX4) (T := TX4) (N := 14) 4 rfl tyX4 tyX4_ok nmX4 c_4 0 rfl 0 (by decide) c_3 rfl (v := .int (nI 0)) (ty := .int) (by decide +kernel) rfl rfl (Nat.le_of_ble_eq_true rfl) dX4_wins_14 (w2 := [(m0, .inr (4, [.int (nI 0), .int (nI cnt), .ref mw, .int (nI pr), .ref ma, .int (nI tol), .int (nI kn.toNat), .ref mc, .ref mf, .ref mr, .ref mt, .ref mar, .ref mbe, .ref mou])), (mw, .inl (gI g, 12, .inl (aN wt))), (ma, .inl (gI g, 12, .inl (aN mk))), (mr, .inl (gI g, 12, .inl (aN fr))), (mt, .inl (gI g, 12, .inl (aN to_))), (mou, .inl (gBy g, 98304, .inl (aN ou)))]) rfl (fun H locs h => ?_)
    refine lv_aload_n E.1.1 E.1.2.1 dX4_wins_17 rfl (lv_at hl 0 rfl) ?_
    refine q_get E h (C := RX4) (T := TX4) (N := 14) 4 rfl c_4 0 rfl 0 (by decide) c_3 (v := .int (nI 0)) rfl dX4_wins_18 ?_
    refine q_ne0 E (tgt := 35) (by decide) dX4_wins_21 (by decide) (fun hb21 => ?_) (fun hb21 => ?_)
    · exact absurd hb21 (by decide)
    · skip
      refine lv_aload_n E.1.1 E.1.2.1 dX4_wins_24 rfl (lv_at hl 0 rfl) ?_
      refine q_get E h (C := RX4) (T := TX4) (N := 14) 4 rfl c_4 0 rfl 3 (by decide) c_5 (v := .int (nI pr)) rfl dX4_wins_25 ?_
      refine lv_iload_n E.1.1 E.1.2.1 dX4_wins_28 rfl (lv_at hl 1 rfl) ?_
      refine q_ki (w2 := fun _ => [(m0, .inr (4, [.int (nI 0), .int (nI cnt), .ref mw, .int (nI pr), .ref ma, .int (nI tol), .int (nI kn.toNat), .ref mc, .ref mf, .ref mr, .ref mt, .ref mar, .ref mbe, .ref mou])), (mw, .inl (gI g, 12, .inl (aN wt))), (ma, .inl (gI g, 12, .inl (aN mk))), (mr, .inl (gI g, 12, .inl (aN fr))), (mt, .inl (gI g, 12, .inl (aN to_))), (mou, .inl (gBy g, 98304, .inl (aN ou)))]) (wr := [(m0, .inr (4, [.int (nI 0), .int (nI cnt), .ref mw, .int (nI pr), .ref ma, .int (nI tol), .int (nI kn.toNat), .ref mc, .ref mf, .ref mr, .ref mt, .ref mar, .ref mbe, .ref mou])), (mw, .inl (gI g, 12, .inl (aN wt))), (ma, .inl (gI g, 12, .inl (aN mk))), (mr, .inl (gI g, 12, .inl (aN fr))), (mt, .inl (gI g, 12, .inl (aN to_))), (mou, .inl (gBy g, 98304, .inl (aN ou)))]) E h [] [0, 1, 2, 3, 4, 5] [0, 1, 2, 3, 4, 5] (va_runS (As := [.int (nI pr), .int (nI v)]) (rest := []) E.1 (k_X4_has l g pr v (by first | omega | assumption | exact srO_in | exact tgO_out hpc | exact srO_lt _ _ | exact tgO_lt _ _ | exact srO_lt _ | exact tgO_lt _ | exact pr12 hcnt hpc) (by first | omega | assumption | exact srO_in | exact tgO_out hpc | exact srO_lt _ _ | exact tgO_lt _ _ | exact srO_lt _ | exact tgO_lt _ | exact pr12 hcnt hpc) _) c_6 (q_preS E h [] rfl rfl) rfl rfl hl.1 rfl (lv_room (Nat.le_of_ble_eq_true rfl)) dX4_wins_29 ⟨Nat.zero_le _, Nat.zero_le _⟩) rfl rfl rfl (by decide) rfl (fun _ => rfl) (fun r7 _ H locs hr7 h => ?_)
      subst hr7
      refine q_bne E (tgt := 37) dX4_wins_32 (by decide) (fun hb32 => ?_) (fun hb32 => ?_)
      · skip
        refine lv_aload_n E.1.1 E.1.2.1 dX4_wins_37 rfl (lv_at hl 0 rfl) ?_
        refine q_kv (w2 := fun _ => [(m0, .inr (4, [.int (nI 0), .int (nI cnt), .ref mw, .int (nI pr), .ref ma, .int (nI tol), .int (nI kn.toNat), .ref mc, .ref mf, .ref mr, .ref mt, .ref mar, .ref mbe, .ref mou])), (mw, .inl (gI g, 12, .inl (aN wt))), (ma, .inl (gI g, 12, .inl (aN mk))), (mr, .inl (gI g, 12, .inl (aN (ovA cnt (srO (wkb wt mk pr tol)) fr)))), (mt, .inl (gI g, 12, .inl (aN (ovA cnt (tgO (wkb wt mk pr tol)) to_)))), (mou, .inl (gBy g, 98304, .inl (aN ou)))]) (wr := [(mou, .inl (gBy g, 98304, .inl (aN ou)))]) E h [0, 1, 2, 3, 4] [5] [1, 2, 3, 4, 5, 0] (va_runV (As := []) (rest := []) E.1 (k_X4_look l g m0 mw ma mc mf mr mt mar mbe mou 0 cnt pr tol kn wt mk fr to_ (by first | omega | assumption | exact srO_in | exact tgO_out hpc | exact srO_lt _ _ | exact tgO_lt _ _ | exact srO_lt _ | exact tgO_lt _ | exact pr12 hcnt hpc) (by first | omega | assumption | exact srO_in | exact tgO_out hpc | exact srO_lt _ _ | exact tgO_lt _ _ | exact srO_lt _ | exact tgO_lt _ | exact pr12 hcnt hpc) (by first | omega | assumption | exact srO_in | exact tgO_out hpc | exact srO_lt _ _ | exact tgO_lt _ _ | exact srO_lt _ | exact tgO_lt _ | exact pr12 hcnt hpc) (by first | omega | assumption | exact srO_in | exact tgO_out hpc | exact srO_lt _ _ | exact tgO_lt _ _ | exact srO_lt _ | exact tgO_lt _ | exact pr12 hcnt hpc) (by first | omega | assumption | exact srO_in | exact tgO_out hpc | exact srO_lt _ _ | exact tgO_lt _ _ | exact srO_lt _ | exact tgO_lt _ | exact pr12 hcnt hpc) _) c_8 (q_preV E h [0, 1, 2, 3, 4] rfl rfl (C := RX4) (T := TX4) (N := 14) 4 rfl 0 rfl) rfl rfl hl.1 rfl (lv_room (Nat.le_of_ble_eq_true rfl)) dX4_wins_38 ⟨Nat.zero_le _, Nat.zero_le _⟩) rfl rfl rfl (by decide) rfl (fun _ => rfl) (fun _ H locs _ h => ?_)
        refine q_ic E 0 dX4_wins_41 (by decide) ?_
        refine lv_istore_n (lv' := [(2, .int (nI 0)), (0, .ref m0), (1, .int (nI v))]) E.1.1 E.1.2.1 dX4_wins_42 rfl hl (by decide) rfl (fun ls hl => ?_)
        have lp43 : ∀ (fu : Nat) (k : Nat), 98304 - k < fu → (k ≤ 98304) → ∀ (w43_mou : Nat → Nat), w43_mou = ovA k (fun _ => 0) ou → ∀ (H : Heap) (locs : List Loc), qH g A s [(m0, .inr (4, [.int (nI 0), .int (nI cnt), .ref mw, .int (nI pr), .ref ma, .int (nI tol), .int (nI kn.toNat), .ref mc, .ref mf, .ref mr, .ref mt, .ref mar, .ref mbe, .ref mou])), (mw, .inl (gI g, 12, .inl (aN wt))), (ma, .inl (gI g, 12, .inl (aN mk))), (mr, .inl (gI g, 12, .inl (aN (ovA cnt (srO (wkb wt mk pr tol)) fr)))), (mt, .inl (gI g, 12, .inl (aN (ovA cnt (tgO (wkb wt mk pr tol)) to_)))), (mou, .inl (gBy g, 98304, .inl (aN w43_mou)))] H locs → ∀ ls : Array Slot, lv_has ls 3 [(0, .ref m0), (1, .int (nI v)), (2, .int (nI k))] → W p l e { frames := 32, cells := 0, slots := 0, locals := 1258 } s m args below meth c H locs 0 0 Q (F0 m 43 ls []) := by
          intro fu
          induction fu with
          | zero => intro k hfu; exact absurd hfu (Nat.not_lt_zero _)
          | succ fu ih43 =>
            intro k hfu hk w43_mou ew43_mou H locs h ls hl
            subst ew43_mou
            refine lv_iload_n E.1.1 E.1.2.1 dX4_wins_43 rfl (lv_at hl 2 rfl) ?_
            refine lv_aload_n E.1.1 E.1.2.1 dX4_wins_44 rfl (lv_at hl 0 rfl) ?_
            refine q_get E h (C := RX4) (T := TX4) (N := 14) 4 rfl c_4 0 rfl 13 (by decide) c_9 (v := .ref mou) rfl dX4_wins_45 ?_
            refine q_alenB E h 5 rfl dX4_wins_48 ?_
            refine q_ge E (tgt := 65) (by first | omega | assumption | exact srO_in | exact tgO_out hpc | exact srO_lt _ _ | exact tgO_lt _ _ | exact srO_lt _ | exact tgO_lt _ | exact pr12 hcnt hpc) (by first | omega | assumption | exact srO_in | exact tgO_out hpc | exact srO_lt _ _ | exact tgO_lt _ _ | exact srO_lt _ | exact tgO_lt _ | exact pr12 hcnt hpc) dX4_wins_49 (by decide) (fun hb49 => ?_) (fun hb49 => ?_)
            · skip
              rw [show k = 98304 by omega] at h
              refine lv_aload_n E.1.1 E.1.2.1 dX4_wins_65 rfl (lv_at hl 0 rfl) ?_
              refine q_ic E 0 dX4_wins_66 (by decide) ?_
              refine lv_iload_n E.1.1 E.1.2.1 dX4_wins_67 rfl (lv_at hl 1 rfl) ?_
              refine q_ic E 1 dX4_wins_68 (by decide) ?_
              refine lv_iload_n E.1.1 E.1.2.1 dX4_wins_69 rfl (lv_at hl 1 rfl) ?_
              refine q_shl1 E (by first | omega | assumption | exact srO_in | exact tgO_out hpc | exact srO_lt _ _ | exact tgO_lt _ _ | exact srO_lt _ | exact tgO_lt _ | exact pr12 hcnt hpc) dX4_wins_70 ?_
              refine q_ki (w2 := fun u10 => [(m0, .inr (4, [.int (nI 0), .int (nI cnt), .ref mw, .int (nI pr), .ref ma, .int (nI tol), .int (nI kn.toNat), .ref mc, .ref mf, .ref mr, .ref mt, .ref mar, .ref mbe, .ref mou])), (mw, .inl (gI g, 12, .inl (aN wt))), (ma, .inl (gI g, 12, .inl (aN mk))), (mr, .inl (gI g, 12, .inl (aN (ovA cnt (srO (wkb wt mk pr tol)) fr)))), (mt, .inl (gI g, 12, .inl (aN (ovA cnt (tgO (wkb wt mk pr tol)) to_)))), (mou, .inl (gBy g, 98304, .inl (aN u10)))]) (wr := [(mw, .inl (gI g, 12, .inl (aN wt))), (ma, .inl (gI g, 12, .inl (aN mk))), (mt, .inl (gI g, 12, .inl (aN (ovA cnt (tgO (wkb wt mk pr tol)) to_))))]) E h [0, 3, 5] [1, 2, 4] [3, 0, 1, 4, 2, 5] (va_runV (As := [.int (nI 0), .int (nI v), .int (nI (2 ^ v))]) (rest := []) E.1 (k_X4_firstWins l g m0 mw ma mc mf mr mt mar mbe mou 0 cnt pr tol kn (srO (wkb wt mk pr tol)) fr (ovA 98304 (fun _ => 0) ou) false v (2 ^ v) (by first | omega | assumption | exact srO_in | exact tgO_out hpc | exact srO_lt _ _ | exact tgO_lt _ _ | exact srO_lt _ | exact tgO_lt _ | exact pr12 hcnt hpc) (by first | omega | assumption | exact srO_in | exact tgO_out hpc | exact srO_lt _ _ | exact tgO_lt _ _ | exact srO_lt _ | exact tgO_lt _ | exact pr12 hcnt hpc) (by first | omega | assumption | exact srO_in | exact tgO_out hpc | exact srO_lt _ _ | exact tgO_lt _ _ | exact srO_lt _ | exact tgO_lt _ | exact pr12 hcnt hpc) (by exact pow12 (by omega)) (by intro t9 l9 m9 h1 h2; exact Or.inl (ovA_in (ix_lt h1 h2))) _) c_11 (q_preV E h [0, 3, 5] rfl rfl (C := RX4) (T := TX4) (N := 14) 4 rfl 0 rfl) rfl rfl hl.1 rfl (lv_room (Nat.le_of_ble_eq_true rfl)) dX4_wins_71 ⟨Nat.zero_le _, Nat.zero_le _⟩) rfl rfl rfl (by decide) rfl (fun _ => rfl) (fun r12 u10 H locs hr12 h => ?_)
              obtain ⟨hr12, hpu10⟩ := hr12
              subst hr12
              -- world at the end: [(m0, .inr (4, [.int (nI 0), .int (nI cnt), .ref mw, .int (nI pr), .ref ma, .int (nI tol), .int (nI kn.toNat), .ref mc, .ref mf, .ref mr, .ref mt, .ref mar, .ref mbe, .ref mou])), (mw, .inl (gI g, 12, .inl (aN wt))), (ma, .inl (gI g, 12, .inl (aN mk))), (mr, .inl (gI g, 12, .inl (aN (ovA cnt (srO (wkb wt mk pr tol)) fr)))), (mt, .inl (gI g, 12, .inl (aN (ovA cnt (tgO (wkb wt mk pr tol)) to_)))), (mou, .inl (gBy g, 98304, .inl (aN u10)))]
              exact hend _ _ _ _ _ (ovA cnt (srO (wkb wt mk pr tol)) fr, ovA cnt (tgO (wkb wt mk pr tol)) to_, u10) h dX4_wins_74 (by exact ⟨by rw [hb32]; rfl, trivial⟩)
            · skip
              refine lv_aload_n E.1.1 E.1.2.1 dX4_wins_52 rfl (lv_at hl 0 rfl) ?_
              refine q_get E h (C := RX4) (T := TX4) (N := 14) 4 rfl c_4 0 rfl 13 (by decide) c_9 (v := .ref mou) rfl dX4_wins_53 ?_
              refine lv_iload_n E.1.1 E.1.2.1 dX4_wins_56 rfl (lv_at hl 2 rfl) ?_
              refine q_ic E 0 dX4_wins_57 (by decide) ?_
              refine q_bast E h 5 (f := (ovA k (fun _ => 0) ou)) rfl (by first | omega | assumption | exact srO_in | exact tgO_out hpc | exact srO_lt _ _ | exact tgO_lt _ _ | exact srO_lt _ | exact tgO_lt _ | exact pr12 hcnt hpc) (by decide) (by decide) dX4_wins_58 (w2 := [(m0, .inr (4, [.int (nI 0), .int (nI cnt), .ref mw, .int (nI pr), .ref ma, .int (nI tol), .int (nI kn.toNat), .ref mc, .ref mf, .ref mr, .ref mt, .ref mar, .ref mbe, .ref mou])), (mw, .inl (gI g, 12, .inl (aN wt))), (ma, .inl (gI g, 12, .inl (aN mk))), (mr, .inl (gI g, 12, .inl (aN (ovA cnt (srO (wkb wt mk pr tol)) fr)))), (mt, .inl (gI g, 12, .inl (aN (ovA cnt (tgO (wkb wt mk pr tol)) to_)))), (mou, .inl (gBy g, 98304, .inl (aN (updN (ovA k (fun _ => 0) ou) k 0))))]) rfl (fun H locs h => ?_)
              refine q_inc E (lv' := [(2, .int (nI (k + 1))), (0, .ref m0), (1, .int (nI v))]) hl dX4_wins_59 (k := 2) rfl (by decide) rfl (fun ls hl => ?_)
              refine q_go E (tgt := 43) dX4_wins_62 (by decide) ?_
              exact ih43  (k + 1) (by omega) (by omega) _ (by exact ovA_s (fun _ => 0) _ k) _ _ h _ (lv_sub hl [1, 2, 0] rfl)
        exact lp43 ((98304 - 0) + 1) 0 (Nat.lt_succ_self _) (by omega) _ (by exact (ovA_0 _ _).symm) _ _ h _ (lv_sub hl [1, 2, 0] rfl)
      · skip
        refine q_ic E 0 dX4_wins_35 (by decide) ?_
        -- world at the end: [(m0, .inr (4, [.int (nI 0), .int (nI cnt), .ref mw, .int (nI pr), .ref ma, .int (nI tol), .int (nI kn.toNat), .ref mc, .ref mf, .ref mr, .ref mt, .ref mar, .ref mbe, .ref mou])), (mw, .inl (gI g, 12, .inl (aN wt))), (ma, .inl (gI g, 12, .inl (aN mk))), (mr, .inl (gI g, 12, .inl (aN fr))), (mt, .inl (gI g, 12, .inl (aN to_))), (mou, .inl (gBy g, 98304, .inl (aN ou)))]
        exact hend _ _ _ _ _ (fr, to_, ou) h dX4_wins_36 (by exact ⟨by rw [hb32]; rfl, trivial⟩)

set_option maxHeartbeats 4000000 in
set_option maxRecDepth 100000 in
theorem k_X4_wins_bad (l : Launch) (g : GK) (m0 mw ma mc mf mr mt mar mbe mou : Nat) (th cnt pr tol : Nat) (kn : Bool) (z : Int32) (hz : z < 0 ∨ nI cnt ≤ z) : CI (S := Unit) l g yX4_wins wsX4_wins { frames := 1, cells := 0, slots := 0, locals := 21 } [.ref m0, .int z] [(m0, .inr (4, [.int (nI th), .int (nI cnt), .ref mw, .int (nI pr), .ref ma, .int (nI tol), .int (nI kn.toNat), .ref mc, .ref mf, .ref mr, .ref mt, .ref mar, .ref mbe, .ref mou]))] (fun r _ => r = nI false.toNat) (fun _ => [(m0, .inr (4, [.int (nI 1), .int (nI cnt), .ref mw, .int (nI pr), .ref ma, .int (nI tol), .int (nI kn.toNat), .ref mc, .ref mf, .ref mr, .ref mt, .ref mar, .ref mbe, .ref mou]))]) := by
  refine q_ofI (own := RX4) (by decide) rfl rfl (Nat.le_of_ble_eq_true rfl) (fun v u hp => by obtain rfl := hp; exact n_bool _) ?_
  intro p e s m below meth c A Q args E hmn h hend ls hl
  have hl : lv_has ls 3 [(0, .ref m0), (1, .int z)] := hl
  have c_1 := cwV (R := { frames := 1, cells := 0, slots := 0, locals := 21 }) (rm := { frames := 0, cells := 0, slots := 0, locals := 0 }) (mc := 0) (ms := 0) 1 E.1.2.2.2.2 gX4_wins_X4_isArgument rfl rfl rfl (by decide +kernel) ⟨Nat.le_of_ble_eq_true rfl, Nat.le_of_ble_eq_true rfl⟩
  have c_3 := E.1.2.2.2.2 (.fieldLink RX4 44 "DebateSolverModel" "thrown" "I") (by decide +kernel)
  have c_4 := (by decide +kernel : ∀ w ∈ wsX40, w ∈ wsX4_wins)
  refine lv_aload_n E.1.1 E.1.2.1 dX4_wins_0 rfl (lv_at hl 0 rfl) ?_
  refine lv_aload_n E.1.1 E.1.2.1 dX4_wins_1 rfl (lv_at hl 0 rfl) ?_
  refine lv_iload_n E.1.1 E.1.2.1 dX4_wins_2 rfl (lv_at hl 1 rfl) ?_
  refine q_ki (w2 := fun _ => [(m0, .inr (4, [.int (nI th), .int (nI cnt), .ref mw, .int (nI pr), .ref ma, .int (nI tol), .int (nI kn.toNat), .ref mc, .ref mf, .ref mr, .ref mt, .ref mar, .ref mbe, .ref mou]))]) (wr := []) E h [0] [] [0] (va_runV (As := [.int z]) (rest := [.ref m0]) E.1 (k_X4_isArgument_bad l g m0 mw ma mc mf mr mt mar mbe mou th cnt pr tol kn z (by exact hz) _) c_1 (q_preV E h [0] rfl rfl (C := RX4) (T := TX4) (N := 14) 4 rfl 0 rfl) rfl rfl hl.1 rfl (lv_room (Nat.le_of_ble_eq_true rfl)) dX4_wins_3 ⟨Nat.zero_le _, Nat.zero_le _⟩) rfl rfl rfl (by decide) rfl (fun _ => rfl) (fun r2 _ H locs hr2 h => ?_)
  subst hr2
  refine q_beq E (tgt := 13) dX4_wins_6 (by decide) (fun hb6 => ?_) (fun hb6 => ?_)
  · skip
    refine q_ic E 1 dX4_wins_13 (by decide) ?_
    refine q_put E h (C := RX4) (T := TX4) (N := 14) 4 rfl tyX4 tyX4_ok nmX4 c_4 0 rfl 0 (by decide) c_3 rfl (v := .int (nI 1)) (ty := .int) (by decide +kernel) rfl rfl (Nat.le_of_ble_eq_true rfl) dX4_wins_14 (w2 := [(m0, .inr (4, [.int (nI 1), .int (nI cnt), .ref mw, .int (nI pr), .ref ma, .int (nI tol), .int (nI kn.toNat), .ref mc, .ref mf, .ref mr, .ref mt, .ref mar, .ref mbe, .ref mou]))]) rfl (fun H locs h => ?_)
    refine lv_aload_n E.1.1 E.1.2.1 dX4_wins_17 rfl (lv_at hl 0 rfl) ?_
    refine q_get E h (C := RX4) (T := TX4) (N := 14) 4 rfl c_4 0 rfl 0 (by decide) c_3 (v := .int (nI 1)) rfl dX4_wins_18 ?_
    refine q_ne0 E (tgt := 35) (by decide) dX4_wins_21 (by decide) (fun hb21 => ?_) (fun hb21 => ?_)
    · skip
      refine q_ic E 0 dX4_wins_35 (by decide) ?_
      -- world at the end: [(m0, .inr (4, [.int (nI 1), .int (nI cnt), .ref mw, .int (nI pr), .ref ma, .int (nI tol), .int (nI kn.toNat), .ref mc, .ref mf, .ref mr, .ref mt, .ref mar, .ref mbe, .ref mou]))]
      exact hend _ _ _ _ _ () h dX4_wins_36 rfl
    · exact absurd hb21 (by decide)
  · exact absurd hb6 (by decide)
