/-! the law, segment by segment -/
/-- from every state of this world, at this place of the law, with these locals -/
def lzT (p : Program) (l : Launch) (e : Env) (s : State) (m : MethodId) (b : Nat) (below : List Frame) (meth : Method) (c : Code) (Q : State → Prop) (g : GK) (A : Nat → Prop) (d0 w1 w2 h0 h1 h2 s0 s1 s2 p0 hh tt : Nat) (la aa : Nat → Nat) (r0 l0 m0 : Nat) (wt mk : Nat → Nat) (cnt pr tol : Nat) (FF : Nat → Nat → Nat) (hf tf rw : Nat → Nat) (pc : Nat) (lv : List (Nat × Value)) : Prop := ∀ (H : Heap) (locs : List Loc) (ls : Array Slot), qH g A s (lzB g d0 w1 w2 h0 h1 h2 s0 s1 s2 p0 hh tt la aa r0 l0 m0 wt mk cnt pr tol FF hf tf rw) H locs → lv_has ls 13 lv → W p l e room_1 s m #[.ref b] below meth c H locs 31 41124 Q (F0 m pc ls [])
theorem fnd_le (p : Nat → Bool) : ∀ n, fnd p n ≤ n
  | 0 => Nat.le_refl 0
  | n + 1 => by
    unfold fnd
    split
    · exact Nat.le_succ_of_le (fnd_le p n)
    · split
      · exact Nat.le_refl _
      · exact Nat.zero_le _
theorem sil_b {wt mk : Nat → Nat} {pr tol a : Nat} : ∀ m, slR (srO (wkb wt mk pr tol)) (tgO (wkb wt mk pr tol)) pr a = some m → m < 2147483648 := fun m hm => by
  have := (z_silS hm).1
  omega
section LS
variable {p : Program} {l : Launch} {e : Env} {s : State} {m : MethodId} {b : Nat} {below : List Frame} {meth : Method} {c : Code} {Q : State → Prop}
variable {g : GK} {A : Nat → Prop}
variable {d0 w1 w2 h0 h1 h2 s0 s1 s2 p0 hh tt l0 m0 r0 : Nat} {la aa : Nat → Nat} {wt mk : Nat → Nat} {cnt pr tol : Nat} {FF : Nat → Nat → Nat} {hf tf rw : Nat → Nat}
set_option maxHeartbeats 4000000 in
set_option maxRecDepth 100000 in
theorem lz_s1 (E : qE g p m c cL_law 13 s #[.ref b] wsL_law RL A) (hI : lzI wt mk cnt pr tol hf tf) (K : lzT p l e s m b below meth c Q g A d0 w1 w2 h0 h1 h2 s0 s1 s2 p0 hh tt la aa r0 l0 m0 wt mk cnt pr tol FF hf tf rw 297 [(1, .ref d0), (3, .int (nI cnt)), (4, .int (nI (grw (srO (wkb wt mk pr tol)) (tgO (wkb wt mk pr tol)) pr 12))), (6, .int (nI pr)), (7, .ref l0), (8, .ref m0)]) : lzT p l e s m b below meth c Q g A d0 w1 w2 h0 h1 h2 s0 s1 s2 p0 hh tt la aa r0 l0 m0 wt mk cnt pr tol FF hf tf rw 174 [(1, .ref d0), (3, .int (nI cnt)), (4, .int (nI (grw (srO (wkb wt mk pr tol)) (tgO (wkb wt mk pr tol)) pr 12))), (6, .int (nI pr)), (7, .ref l0), (8, .ref m0)] := by
  intro H locs ls h hl
  obtain ⟨⟨hi1, hi8⟩, hp, ht9, hmk, hwt, hhf, htf, hh0, ht0⟩ := id hI
  have hcnt : cnt ≤ 12 := by omega
  have hpr : pr < 4096 := pr12 hcnt hp
  refine q_ic E 0 dL_law_174 (by decide) ?_
  refine lv_istore (lv' := [(9, .int (nI 0)), (1, .ref d0), (3, .int (nI cnt)), (4, .int (nI (grw (srO (wkb wt mk pr tol)) (tgO (wkb wt mk pr tol)) pr 12))), (6, .int (nI pr)), (7, .ref l0), (8, .ref m0)]) E.1.1 E.1.2.1 dL_law_175 hl (by decide) rfl (fun ls hl => ?_)
  have lp177 : ∀ (fu : Nat) (k : Nat), 6 - k < fu → (k ≤ 6) → ∀ (H : Heap) (locs : List Loc), qH g A s (lzB g d0 w1 w2 h0 h1 h2 s0 s1 s2 p0 hh tt la aa r0 l0 m0 wt mk cnt pr tol FF hf tf rw) H locs → ∀ ls : Array Slot, lv_has ls 13 [(1, .ref d0), (3, .int (nI cnt)), (4, .int (nI (grw (srO (wkb wt mk pr tol)) (tgO (wkb wt mk pr tol)) pr 12))), (6, .int (nI pr)), (7, .ref l0), (8, .ref m0), (9, .int (nI k))] → W p l e room_1 s m #[.ref b] below meth c H locs 31 41124 Q (F0 m 177 ls []) := by
    intro fu
    induction fu with
    | zero => intro k hfu; exact absurd hfu (Nat.not_lt_zero _)
    | succ fu ih177 =>
      intro k hfu hk  H locs h ls hl
      have hl1 := xL_len wt mk pr tol (lesF k)
      have hl2 := xL_len wt mk pr tol (morF k)
      refine lv_iload E.1.1 E.1.2.1 dL_law_177 (lv_at hl 6 rfl) ?_
      refine q_bi E 6 dL_law_179 (by decide) ?_
      refine q_ge E (tgt := 297) (by first | omega | assumption | exact Nat.lt_of_le_of_lt (xL_len _ _ _ _ _) (by decide) | exact Nat.lt_trans (xL_lt hpr _ _) (by decide)) (by first | omega | assumption | exact Nat.lt_of_le_of_lt (xL_len _ _ _ _ _) (by decide) | exact Nat.lt_trans (xL_lt hpr _ _) (by decide)) dL_law_181 (by decide) (fun hb181 => ?_) (fun hb181 => ?_)
      · skip
        exact K _ _ _ h (lv_sub hl [0, 1, 2, 3, 4, 5] rfl)
      · skip
        refine q_ic E 0 dL_law_184 (by decide) ?_
        refine lv_istore (lv' := [(10, .int (nI 0)), (1, .ref d0), (3, .int (nI cnt)), (4, .int (nI (grw (srO (wkb wt mk pr tol)) (tgO (wkb wt mk pr tol)) pr 12))), (6, .int (nI pr)), (7, .ref l0), (8, .ref m0), (9, .int (nI k))]) E.1.1 E.1.2.1 dL_law_185 hl (by decide) rfl (fun ls hl => ?_)
        refine q_ic E 0 dL_law_187 (by decide) ?_
        refine lv_istore (lv' := [(11, .int (nI 0)), (10, .int (nI 0)), (1, .ref d0), (3, .int (nI cnt)), (4, .int (nI (grw (srO (wkb wt mk pr tol)) (tgO (wkb wt mk pr tol)) pr 12))), (6, .int (nI pr)), (7, .ref l0), (8, .ref m0), (9, .int (nI k))]) E.1.1 E.1.2.1 dL_law_188 hl (by decide) rfl (fun ls hl => ?_)
        have lp190 : ∀ (fu : Nat) (i9 t9 : Nat), (xL wt mk pr tol (lesF k)).length - i9 < fu → (i9 ≤ (xL wt mk pr tol (lesF k)).length) → (t9 ≤ (xL wt mk pr tol (morF k)).length) → (∀ q, q < t9 → q < (xL wt mk pr tol (morF k)).length → i9 < (xL wt mk pr tol (lesF k)).length → gl (xL wt mk pr tol (morF k)) q < gl (xL wt mk pr tol (lesF k)) i9) → ∀ (H : Heap) (locs : List Loc), qH g A s (lzB g d0 w1 w2 h0 h1 h2 s0 s1 s2 p0 hh tt la aa r0 l0 m0 wt mk cnt pr tol FF hf tf rw) H locs → ∀ ls : Array Slot, lv_has ls 13 [(1, .ref d0), (3, .int (nI cnt)), (4, .int (nI (grw (srO (wkb wt mk pr tol)) (tgO (wkb wt mk pr tol)) pr 12))), (6, .int (nI pr)), (7, .ref l0), (8, .ref m0), (9, .int (nI k)), (10, .int (nI t9)), (11, .int (nI i9))] → W p l e room_1 s m #[.ref b] below meth c H locs 31 41124 Q (F0 m 190 ls []) := by
          intro fu
          induction fu with
          | zero => intro i9 t9 hfu; exact absurd hfu (Nat.not_lt_zero _)
          | succ fu ih190 =>
            intro i9 t9 hfu hi9 ht8 hat  H locs h ls hl
            refine lv_iload E.1.1 E.1.2.1 dL_law_190 (lv_at hl 8 rfl) ?_
            refine lv_aload_n E.1.1 E.1.2.1 dL_law_192 rfl (lv_at hl 0 rfl) ?_
            refine lv_aload E.1.1 E.1.2.1 dL_law_193 (lv_at hl 4 rfl) ?_
            refine lv_iload E.1.1 E.1.2.1 dL_law_195 (lv_at hl 6 rfl) ?_
            refine lz_les E h (by omega) dL_law_197 ?_
            refine lz_positionsB E hI h hl (by exact Nat.le_of_ble_eq_true rfl) (kd := lesF k) (lesF_lt (by omega)) dL_law_198 (fun H locs h => ?_)
            refine q_ge E (tgt := 291) (by first | omega | assumption | exact Nat.lt_of_le_of_lt (xL_len _ _ _ _ _) (by decide) | exact Nat.lt_trans (xL_lt hpr _ _) (by decide)) (by first | omega | assumption | exact Nat.lt_of_le_of_lt (xL_len _ _ _ _ _) (by decide) | exact Nat.lt_trans (xL_lt hpr _ _) (by decide)) dL_law_201 (by decide) (fun hb201 => ?_) (fun hb201 => ?_)
            · skip
              refine q_inc E (lv' := [(9, .int (nI (k + 1))), (1, .ref d0), (3, .int (nI cnt)), (4, .int (nI (grw (srO (wkb wt mk pr tol)) (tgO (wkb wt mk pr tol)) pr 12))), (6, .int (nI pr)), (7, .ref l0), (8, .ref m0), (10, .int (nI t9)), (11, .int (nI i9))]) hl dL_law_291 (k := 6) rfl (by decide) rfl (fun ls hl => ?_)
              refine q_go E (tgt := 177) dL_law_294 (by decide) ?_
              exact ih177  (k + 1) (by omega) (by omega)  _ _ h _ (lv_sub hl [1, 2, 3, 4, 5, 6, 0] rfl)
            · skip
              refine lv_aload_n E.1.1 E.1.2.1 dL_law_204 rfl (lv_at hl 0 rfl) ?_
              refine lv_aload E.1.1 E.1.2.1 dL_law_205 (lv_at hl 4 rfl) ?_
              refine lv_iload E.1.1 E.1.2.1 dL_law_207 (lv_at hl 6 rfl) ?_
              refine lz_les E h (by omega) dL_law_209 ?_
              refine lv_iload E.1.1 E.1.2.1 dL_law_210 (lv_at hl 8 rfl) ?_
              refine lz_positionB E hI h hl (by exact Nat.le_of_ble_eq_true rfl) (kd := lesF k) (ix := i9) (lesF_lt (by omega)) (by omega) dL_law_212 (fun H locs h => ?_)
              refine lv_istore (lv' := [(12, .int (nI (gl (xL wt mk pr tol (lesF k)) i9))), (1, .ref d0), (3, .int (nI cnt)), (4, .int (nI (grw (srO (wkb wt mk pr tol)) (tgO (wkb wt mk pr tol)) pr 12))), (6, .int (nI pr)), (7, .ref l0), (8, .ref m0), (9, .int (nI k)), (10, .int (nI t9)), (11, .int (nI i9))]) E.1.1 E.1.2.1 dL_law_215 hl (by decide) rfl (fun ls hl => ?_)
              have lp217 : ∀ (fu : Nat) (q9 : Nat), (xL wt mk pr tol (morF k)).length - q9 < fu → (q9 ≤ (xL wt mk pr tol (morF k)).length) → (∀ q, q < q9 → q < (xL wt mk pr tol (morF k)).length → gl (xL wt mk pr tol (morF k)) q < gl (xL wt mk pr tol (lesF k)) i9) → ∀ (H : Heap) (locs : List Loc), qH g A s (lzB g d0 w1 w2 h0 h1 h2 s0 s1 s2 p0 hh tt la aa r0 l0 m0 wt mk cnt pr tol FF hf tf rw) H locs → ∀ ls : Array Slot, lv_has ls 13 [(1, .ref d0), (3, .int (nI cnt)), (4, .int (nI (grw (srO (wkb wt mk pr tol)) (tgO (wkb wt mk pr tol)) pr 12))), (6, .int (nI pr)), (7, .ref l0), (8, .ref m0), (9, .int (nI k)), (10, .int (nI q9)), (11, .int (nI i9)), (12, .int (nI (gl (xL wt mk pr tol (lesF k)) i9)))] → W p l e room_1 s m #[.ref b] below meth c H locs 31 41124 Q (F0 m 217 ls []) := by
                intro fu
                induction fu with
                | zero => intro q9 hfu; exact absurd hfu (Nat.not_lt_zero _)
                | succ fu ih217 =>
                  intro q9 hfu hq8 hq9  H locs h ls hl
                  refine lv_iload E.1.1 E.1.2.1 dL_law_217 (lv_at hl 7 rfl) ?_
                  refine lv_aload_n E.1.1 E.1.2.1 dL_law_219 rfl (lv_at hl 0 rfl) ?_
                  refine lv_aload E.1.1 E.1.2.1 dL_law_220 (lv_at hl 5 rfl) ?_
                  refine lv_iload E.1.1 E.1.2.1 dL_law_222 (lv_at hl 6 rfl) ?_
                  refine lz_mor E h (by omega) dL_law_224 ?_
                  refine lz_positionsB E hI h hl (by exact Nat.le_of_ble_eq_true rfl) (kd := morF k) (morF_lt (by omega)) dL_law_225 (fun H locs h => ?_)
                  refine q_ge E (tgt := 253) (by first | omega | assumption | exact Nat.lt_of_le_of_lt (xL_len _ _ _ _ _) (by decide) | exact Nat.lt_trans (xL_lt hpr _ _) (by decide)) (by first | omega | assumption | exact Nat.lt_of_le_of_lt (xL_len _ _ _ _ _) (by decide) | exact Nat.lt_trans (xL_lt hpr _ _) (by decide)) dL_law_228 (by decide) (fun hb228 => ?_) (fun hb228 => ?_)
                  · skip
                    exact absurd (scan_lt (z_in hcnt hp (by omega)) (by omega) hq9) (by omega)
                  · skip
                    refine lv_aload_n E.1.1 E.1.2.1 dL_law_231 rfl (lv_at hl 0 rfl) ?_
                    refine lv_aload E.1.1 E.1.2.1 dL_law_232 (lv_at hl 5 rfl) ?_
                    refine lv_iload E.1.1 E.1.2.1 dL_law_234 (lv_at hl 6 rfl) ?_
                    refine lz_mor E h (by omega) dL_law_236 ?_
                    refine lv_iload E.1.1 E.1.2.1 dL_law_237 (lv_at hl 7 rfl) ?_
                    refine lz_positionB E hI h hl (by exact Nat.le_of_ble_eq_true rfl) (kd := morF k) (ix := q9) (morF_lt (by omega)) (by omega) dL_law_239 (fun H locs h => ?_)
                    refine lv_iload E.1.1 E.1.2.1 dL_law_242 (lv_at hl 9 rfl) ?_
                    refine q_ge E (tgt := 253) (by first | omega | assumption | exact Nat.lt_of_le_of_lt (xL_len _ _ _ _ _) (by decide) | exact Nat.lt_trans (xL_lt hpr _ _) (by decide)) (by first | omega | assumption | exact Nat.lt_of_le_of_lt (xL_len _ _ _ _ _) (by decide) | exact Nat.lt_trans (xL_lt hpr _ _) (by decide)) dL_law_244 (by decide) (fun hb244 => ?_) (fun hb244 => ?_)
                    · skip
                      refine lv_iload E.1.1 E.1.2.1 dL_law_253 (lv_at hl 7 rfl) ?_
                      refine lv_aload_n E.1.1 E.1.2.1 dL_law_255 rfl (lv_at hl 0 rfl) ?_
                      refine lv_aload E.1.1 E.1.2.1 dL_law_256 (lv_at hl 5 rfl) ?_
                      refine lv_iload E.1.1 E.1.2.1 dL_law_258 (lv_at hl 6 rfl) ?_
                      refine lz_mor E h (by omega) dL_law_260 ?_
                      refine lz_positionsB E hI h hl (by exact Nat.le_of_ble_eq_true rfl) (kd := morF k) (morF_lt (by omega)) dL_law_261 (fun H locs h => ?_)
                      refine q_eq E (tgt := 283) (by first | omega | assumption | exact Nat.lt_of_le_of_lt (xL_len _ _ _ _ _) (by decide) | exact Nat.lt_trans (xL_lt hpr _ _) (by decide)) (by first | omega | assumption | exact Nat.lt_of_le_of_lt (xL_len _ _ _ _ _) (by decide) | exact Nat.lt_trans (xL_lt hpr _ _) (by decide)) dL_law_264 (by decide) (fun hb264 => ?_) (fun hb264 => ?_)
                      · skip
                        exact absurd (scan_lt (z_in hcnt hp (by omega)) (by omega) hq9) (by omega)
                      · skip
                        refine lv_aload_n E.1.1 E.1.2.1 dL_law_267 rfl (lv_at hl 0 rfl) ?_
                        refine lv_aload E.1.1 E.1.2.1 dL_law_268 (lv_at hl 5 rfl) ?_
                        refine lv_iload E.1.1 E.1.2.1 dL_law_270 (lv_at hl 6 rfl) ?_
                        refine lz_mor E h (by omega) dL_law_272 ?_
                        refine lv_iload E.1.1 E.1.2.1 dL_law_273 (lv_at hl 7 rfl) ?_
                        refine lz_positionB E hI h hl (by exact Nat.le_of_ble_eq_true rfl) (kd := morF k) (ix := q9) (morF_lt (by omega)) (by omega) dL_law_275 (fun H locs h => ?_)
                        refine lv_iload E.1.1 E.1.2.1 dL_law_278 (lv_at hl 9 rfl) ?_
                        refine q_eq E (tgt := 285) (by first | omega | assumption | exact Nat.lt_of_le_of_lt (xL_len _ _ _ _ _) (by decide) | exact Nat.lt_trans (xL_lt hpr _ _) (by decide)) (by first | omega | assumption | exact Nat.lt_of_le_of_lt (xL_len _ _ _ _ _) (by decide) | exact Nat.lt_trans (xL_lt hpr _ _) (by decide)) dL_law_280 (by decide) (fun hb280 => ?_) (fun hb280 => ?_)
                        · skip
                          refine q_inc E (lv' := [(11, .int (nI (i9 + 1))), (1, .ref d0), (3, .int (nI cnt)), (4, .int (nI (grw (srO (wkb wt mk pr tol)) (tgO (wkb wt mk pr tol)) pr 12))), (6, .int (nI pr)), (7, .ref l0), (8, .ref m0), (9, .int (nI k)), (10, .int (nI q9)), (12, .int (nI (gl (xL wt mk pr tol (lesF k)) i9)))]) hl dL_law_285 (k := 8) rfl (by decide) rfl (fun ls hl => ?_)
                          refine q_go E (tgt := 190) dL_law_288 (by decide) ?_
                          exact ih190  (i9 + 1) q9 (by omega) (by omega) (by omega) (by first | exact (fun q h9 => absurd h9 (Nat.not_lt_zero q)) | exact scan_next (z_asc hcnt hp (lesF_lt (by omega))) hq9)  _ _ h _ (lv_sub hl [1, 2, 3, 4, 5, 6, 7, 8, 0] rfl)
                        · skip
                          exact absurd (scan_eq (z_in hcnt hp (by omega)) (by omega) (z_asc hcnt hp (morF_lt (by omega))) hq9 hb244) hb280
                    · skip
                      refine q_inc E (lv' := [(10, .int (nI (q9 + 1))), (1, .ref d0), (3, .int (nI cnt)), (4, .int (nI (grw (srO (wkb wt mk pr tol)) (tgO (wkb wt mk pr tol)) pr 12))), (6, .int (nI pr)), (7, .ref l0), (8, .ref m0), (9, .int (nI k)), (11, .int (nI i9)), (12, .int (nI (gl (xL wt mk pr tol (lesF k)) i9)))]) hl dL_law_247 (k := 7) rfl (by decide) rfl (fun ls hl => ?_)
                      refine q_go E (tgt := 217) dL_law_250 (by decide) ?_
                      exact ih217  (q9 + 1) (by omega) (by omega) (by first | exact (fun q h1 h2 => hat q h1 h2 (by omega)) | exact scan_step hq9 hb244)  _ _ h _ (lv_sub hl [1, 2, 3, 4, 5, 6, 7, 0, 8, 9] rfl)
              exact lp217 (((xL wt mk pr tol (morF k)).length - t9) + 1) t9 (Nat.lt_succ_self _) (by omega) (by first | exact (fun q h1 h2 => hat q h1 h2 (by omega)) | exact scan_step hq9 hb244)  _ _ h _ (lv_sub hl [1, 2, 3, 4, 5, 6, 7, 8, 9, 0] rfl)
        exact lp190 (((xL wt mk pr tol (lesF k)).length - 0) + 1) 0 0 (Nat.lt_succ_self _) (by omega) (by omega) (by first | exact (fun q h9 => absurd h9 (Nat.not_lt_zero q)) | exact scan_next (z_asc hcnt hp (lesF_lt (by omega))) hq9)  _ _ h _ (lv_sub hl [2, 3, 4, 5, 6, 7, 8, 1, 0] rfl)
  exact lp177 ((6 - 0) + 1) 0 (Nat.lt_succ_self _) (by omega)  _ _ h _ (lv_sub hl [1, 2, 3, 4, 5, 6, 0] rfl)
set_option maxHeartbeats 4000000 in
set_option maxRecDepth 100000 in
theorem lz_s2 (E : qE g p m c cL_law 13 s #[.ref b] wsL_law RL A) (hI : lzI wt mk cnt pr tol hf tf) (K : lzT p l e s m b below meth c Q g A d0 w1 w2 h0 h1 h2 s0 s1 s2 p0 hh tt la aa r0 l0 m0 wt mk cnt pr tol FF hf tf rw 333 [(1, .ref d0), (3, .int (nI cnt)), (4, .int (nI (grw (srO (wkb wt mk pr tol)) (tgO (wkb wt mk pr tol)) pr 12))), (6, .int (nI pr)), (7, .ref l0), (8, .ref m0)]) : lzT p l e s m b below meth c Q g A d0 w1 w2 h0 h1 h2 s0 s1 s2 p0 hh tt la aa r0 l0 m0 wt mk cnt pr tol FF hf tf rw 297 [(1, .ref d0), (3, .int (nI cnt)), (4, .int (nI (grw (srO (wkb wt mk pr tol)) (tgO (wkb wt mk pr tol)) pr 12))), (6, .int (nI pr)), (7, .ref l0), (8, .ref m0)] := by
  intro H locs ls h hl
  obtain ⟨⟨hi1, hi8⟩, hp, ht9, hmk, hwt, hhf, htf, hh0, ht0⟩ := id hI
  have hcnt : cnt ≤ 12 := by omega
  have hpr : pr < 4096 := pr12 hcnt hp
  refine lv_aload_n E.1.1 E.1.2.1 dL_law_297 rfl (lv_at hl 0 rfl) ?_
  refine q_ic E 3 dL_law_298 (by decide) ?_
  refine lz_positionsB E hI h hl (by exact Nat.le_of_ble_eq_true rfl) (kd := 3) (by decide) dL_law_299 (fun H locs h => ?_)
  refine q_le0 E (tgt := 333) (by first | omega | assumption | exact Nat.lt_of_le_of_lt (xL_len _ _ _ _ _) (by decide) | exact Nat.lt_trans (xL_lt hpr _ _) (by decide)) dL_law_302 (by decide) (fun hb302 => ?_) (fun hb302 => ?_)
  · skip
    exact K _ _ _ h (lv_sub hl [0, 1, 2, 3, 4, 5] rfl)
  · skip
    have hz := z_len (wt := wt) (mk := mk) (tol := tol) hcnt hp (Nat.pos_of_ne_zero hb302)
    refine lv_aload_n E.1.1 E.1.2.1 dL_law_305 rfl (lv_at hl 0 rfl) ?_
    refine q_ic E 5 dL_law_306 (by decide) ?_
    refine lz_positionsB E hI h hl (by exact Nat.le_of_ble_eq_true rfl) (kd := 5) (by decide) dL_law_307 (fun H locs h => ?_)
    refine lv_aload_n E.1.1 E.1.2.1 dL_law_310 rfl (lv_at hl 0 rfl) ?_
    refine q_ic E 3 dL_law_311 (by decide) ?_
    refine lz_positionsB E hI h hl (by exact Nat.le_of_ble_eq_true rfl) (kd := 3) (by decide) dL_law_312 (fun H locs h => ?_)
    refine q_ne E (tgt := 331) (by first | omega | assumption | exact Nat.lt_of_le_of_lt (xL_len _ _ _ _ _) (by decide) | exact Nat.lt_trans (xL_lt hpr _ _) (by decide)) (by first | omega | assumption | exact Nat.lt_of_le_of_lt (xL_len _ _ _ _ _) (by decide) | exact Nat.lt_trans (xL_lt hpr _ _) (by decide)) dL_law_315 (by decide) (fun hb315 => ?_) (fun hb315 => ?_)
    · skip
      exact absurd hz.1 hb315
    · skip
      refine lv_aload_n E.1.1 E.1.2.1 dL_law_318 rfl (lv_at hl 0 rfl) ?_
      refine q_ic E 4 dL_law_319 (by decide) ?_
      refine lz_positionsB E hI h hl (by exact Nat.le_of_ble_eq_true rfl) (kd := 4) (by decide) dL_law_320 (fun H locs h => ?_)
      refine lv_aload_n E.1.1 E.1.2.1 dL_law_323 rfl (lv_at hl 0 rfl) ?_
      refine q_ic E 3 dL_law_324 (by decide) ?_
      refine lz_positionsB E hI h hl (by exact Nat.le_of_ble_eq_true rfl) (kd := 3) (by decide) dL_law_325 (fun H locs h => ?_)
      refine q_eq E (tgt := 333) (by first | omega | assumption | exact Nat.lt_of_le_of_lt (xL_len _ _ _ _ _) (by decide) | exact Nat.lt_trans (xL_lt hpr _ _) (by decide)) (by first | omega | assumption | exact Nat.lt_of_le_of_lt (xL_len _ _ _ _ _) (by decide) | exact Nat.lt_trans (xL_lt hpr _ _) (by decide)) dL_law_328 (by decide) (fun hb328 => ?_) (fun hb328 => ?_)
      · skip
        exact K _ _ _ h (lv_sub hl [0, 1, 2, 3, 4, 5] rfl)
      · skip
        exact absurd hz.2 hb328
set_option maxHeartbeats 4000000 in
set_option maxRecDepth 100000 in
theorem lz_s3 (E : qE g p m c cL_law 13 s #[.ref b] wsL_law RL A) (hI : lzI wt mk cnt pr tol hf tf) (K : lzT p l e s m b below meth c Q g A d0 w1 w2 h0 h1 h2 s0 s1 s2 p0 hh tt la aa r0 l0 m0 wt mk cnt pr tol FF hf tf rw 398 [(1, .ref d0), (3, .int (nI cnt)), (4, .int (nI (grw (srO (wkb wt mk pr tol)) (tgO (wkb wt mk pr tol)) pr 12))), (6, .int (nI pr)), (7, .ref l0), (8, .ref m0)]) : lzT p l e s m b below meth c Q g A d0 w1 w2 h0 h1 h2 s0 s1 s2 p0 hh tt la aa r0 l0 m0 wt mk cnt pr tol FF hf tf rw 333 [(1, .ref d0), (3, .int (nI cnt)), (4, .int (nI (grw (srO (wkb wt mk pr tol)) (tgO (wkb wt mk pr tol)) pr 12))), (6, .int (nI pr)), (7, .ref l0), (8, .ref m0)] := by
  intro H locs ls h hl
  obtain ⟨⟨hi1, hi8⟩, hp, ht9, hmk, hwt, hhf, htf, hh0, ht0⟩ := id hI
  have hcnt : cnt ≤ 12 := by omega
  have hpr : pr < 4096 := pr12 hcnt hp
  have hl3 := xL_len wt mk pr tol 3
  refine q_ic E 0 dL_law_333 (by decide) ?_
  refine lv_istore (lv' := [(9, .int (nI 0)), (1, .ref d0), (3, .int (nI cnt)), (4, .int (nI (grw (srO (wkb wt mk pr tol)) (tgO (wkb wt mk pr tol)) pr 12))), (6, .int (nI pr)), (7, .ref l0), (8, .ref m0)]) E.1.1 E.1.2.1 dL_law_334 hl (by decide) rfl (fun ls hl => ?_)
  have lp336 : ∀ (fu : Nat) (i9 : Nat), (xL wt mk pr tol 3).length - i9 < fu → (i9 ≤ (xL wt mk pr tol 3).length) → ∀ (H : Heap) (locs : List Loc), qH g A s (lzB g d0 w1 w2 h0 h1 h2 s0 s1 s2 p0 hh tt la aa r0 l0 m0 wt mk cnt pr tol FF hf tf rw) H locs → ∀ ls : Array Slot, lv_has ls 13 [(1, .ref d0), (3, .int (nI cnt)), (4, .int (nI (grw (srO (wkb wt mk pr tol)) (tgO (wkb wt mk pr tol)) pr 12))), (6, .int (nI pr)), (7, .ref l0), (8, .ref m0), (9, .int (nI i9))] → W p l e room_1 s m #[.ref b] below meth c H locs 31 41124 Q (F0 m 336 ls []) := by
    intro fu
    induction fu with
    | zero => intro i9 hfu; exact absurd hfu (Nat.not_lt_zero _)
    | succ fu ih336 =>
      intro i9 hfu hi9  H locs h ls hl
      refine lv_iload E.1.1 E.1.2.1 dL_law_336 (lv_at hl 6 rfl) ?_
      refine lv_aload_n E.1.1 E.1.2.1 dL_law_338 rfl (lv_at hl 0 rfl) ?_
      refine q_ic E 3 dL_law_339 (by decide) ?_
      refine lz_positionsB E hI h hl (by exact Nat.le_of_ble_eq_true rfl) (kd := 3) (by decide) dL_law_340 (fun H locs h => ?_)
      refine q_ge E (tgt := 398) (by first | omega | assumption | exact Nat.lt_of_le_of_lt (xL_len _ _ _ _ _) (by decide) | exact Nat.lt_trans (xL_lt hpr _ _) (by decide)) (by first | omega | assumption | exact Nat.lt_of_le_of_lt (xL_len _ _ _ _ _) (by decide) | exact Nat.lt_trans (xL_lt hpr _ _) (by decide)) dL_law_343 (by decide) (fun hb343 => ?_) (fun hb343 => ?_)
      · skip
        exact K _ _ _ h (lv_sub hl [0, 1, 2, 3, 4, 5] rfl)
      · skip
        refine q_ic E 0 dL_law_346 (by decide) ?_
        refine lv_istore (lv' := [(10, .int (nI 0)), (1, .ref d0), (3, .int (nI cnt)), (4, .int (nI (grw (srO (wkb wt mk pr tol)) (tgO (wkb wt mk pr tol)) pr 12))), (6, .int (nI pr)), (7, .ref l0), (8, .ref m0), (9, .int (nI i9))]) E.1.1 E.1.2.1 dL_law_347 hl (by decide) rfl (fun ls hl => ?_)
        have lp349 : ∀ (fu : Nat) (a9 : Nat), cnt - a9 < fu → (a9 ≤ cnt) → ∀ (H : Heap) (locs : List Loc), qH g A s (lzB g d0 w1 w2 h0 h1 h2 s0 s1 s2 p0 hh tt la aa r0 l0 m0 wt mk cnt pr tol FF hf tf rw) H locs → ∀ ls : Array Slot, lv_has ls 13 [(1, .ref d0), (3, .int (nI cnt)), (4, .int (nI (grw (srO (wkb wt mk pr tol)) (tgO (wkb wt mk pr tol)) pr 12))), (6, .int (nI pr)), (7, .ref l0), (8, .ref m0), (9, .int (nI i9)), (10, .int (nI a9))] → W p l e room_1 s m #[.ref b] below meth c H locs 31 41124 Q (F0 m 349 ls []) := by
          intro fu
          induction fu with
          | zero => intro a9 hfu; exact absurd hfu (Nat.not_lt_zero _)
          | succ fu ih349 =>
            intro a9 hfu ha9  H locs h ls hl
            refine lv_iload E.1.1 E.1.2.1 dL_law_349 (lv_at hl 7 rfl) ?_
            refine lv_iload_n E.1.1 E.1.2.1 dL_law_351 rfl (lv_at hl 1 rfl) ?_
            refine q_ge E (tgt := 392) (by first | omega | assumption | exact Nat.lt_of_le_of_lt (xL_len _ _ _ _ _) (by decide) | exact Nat.lt_trans (xL_lt hpr _ _) (by decide)) (by first | omega | assumption | exact Nat.lt_of_le_of_lt (xL_len _ _ _ _ _) (by decide) | exact Nat.lt_trans (xL_lt hpr _ _) (by decide)) dL_law_352 (by decide) (fun hb352 => ?_) (fun hb352 => ?_)
            · skip
              refine q_inc E (lv' := [(9, .int (nI (i9 + 1))), (1, .ref d0), (3, .int (nI cnt)), (4, .int (nI (grw (srO (wkb wt mk pr tol)) (tgO (wkb wt mk pr tol)) pr 12))), (6, .int (nI pr)), (7, .ref l0), (8, .ref m0), (10, .int (nI a9))]) hl dL_law_392 (k := 6) rfl (by decide) rfl (fun ls hl => ?_)
              refine q_go E (tgt := 336) dL_law_395 (by decide) ?_
              exact ih336  (i9 + 1) (by omega) (by omega)  _ _ h _ (lv_sub hl [1, 2, 3, 4, 5, 6, 0] rfl)
            · skip
              refine lv_iload E.1.1 E.1.2.1 dL_law_355 (lv_at hl 3 rfl) ?_
              refine lv_iload E.1.1 E.1.2.1 dL_law_357 (lv_at hl 7 rfl) ?_
              refine q_shr E (by first | omega | assumption | exact Nat.lt_of_le_of_lt (xL_len _ _ _ _ _) (by decide) | exact Nat.lt_trans (xL_lt hpr _ _) (by decide)) (by first | omega | assumption | exact Nat.lt_of_le_of_lt (xL_len _ _ _ _ _) (by decide) | exact Nat.lt_trans (xL_lt hpr _ _) (by decide)) dL_law_359 ?_
              refine q_ic E 1 dL_law_360 (by decide) ?_
              refine q_and E dL_law_361 ?_
              refine q_ic E 1 dL_law_362 (by decide) ?_
              refine q_ne E (tgt := 386) (by exact and1lt _) (by first | omega | assumption | exact Nat.lt_of_le_of_lt (xL_len _ _ _ _ _) (by decide) | exact Nat.lt_trans (xL_lt hpr _ _) (by decide)) dL_law_363 (by decide) (fun hb363 => ?_) (fun hb363 => ?_)
              · skip
                refine q_inc E (lv' := [(10, .int (nI (a9 + 1))), (1, .ref d0), (3, .int (nI cnt)), (4, .int (nI (grw (srO (wkb wt mk pr tol)) (tgO (wkb wt mk pr tol)) pr 12))), (6, .int (nI pr)), (7, .ref l0), (8, .ref m0), (9, .int (nI i9))]) hl dL_law_386 (k := 7) rfl (by decide) rfl (fun ls hl => ?_)
                refine q_go E (tgt := 349) dL_law_389 (by decide) ?_
                exact ih349  (a9 + 1) (by omega) (by omega)  _ _ h _ (lv_sub hl [1, 2, 3, 4, 5, 6, 7, 0] rfl)
              · skip
                have hpa := tb_1 hb363
                refine lv_aload_n E.1.1 E.1.2.1 dL_law_366 rfl (lv_at hl 0 rfl) ?_
                refine lv_iload E.1.1 E.1.2.1 dL_law_367 (lv_at hl 7 rfl) ?_
                refine lv_aload_n E.1.1 E.1.2.1 dL_law_369 rfl (lv_at hl 0 rfl) ?_
                refine q_ic E 3 dL_law_370 (by decide) ?_
                refine lv_iload E.1.1 E.1.2.1 dL_law_371 (lv_at hl 6 rfl) ?_
                refine lz_positionB E hI h hl (by exact Nat.le_of_ble_eq_true rfl) (kd := 3) (ix := i9) (by decide) (by omega) dL_law_373 (fun H locs h => ?_)
                refine lz_labelB E hI h hl (by exact Nat.le_of_ble_eq_true rfl) (v := a9) (n := gl (xL wt mk pr tol 3) i9) (by omega) (by exact x3_lt hcnt hp (by omega)) dL_law_376 (fun H locs h => ?_)
                refine q_ic E 3 dL_law_379 (by decide) ?_
                refine q_rem E (by exact Nat.lt_trans (lab_lt _ _) (by decide)) (by decide) (by decide) dL_law_380 ?_
                refine q_ne0 E (tgt := 386) (by exact Nat.lt_trans (Nat.mod_lt _ (by decide)) (by decide)) dL_law_381 (by decide) (fun hb381 => ?_) (fun hb381 => ?_)
                · skip
                  refine q_inc E (lv' := [(10, .int (nI (a9 + 1))), (1, .ref d0), (3, .int (nI cnt)), (4, .int (nI (grw (srO (wkb wt mk pr tol)) (tgO (wkb wt mk pr tol)) pr 12))), (6, .int (nI pr)), (7, .ref l0), (8, .ref m0), (9, .int (nI i9))]) hl dL_law_386 (k := 7) rfl (by decide) rfl (fun ls hl => ?_)
                  refine q_go E (tgt := 349) dL_law_389 (by decide) ?_
                  exact ih349  (a9 + 1) (by omega) (by omega)  _ _ h _ (lv_sub hl [1, 2, 3, 4, 5, 6, 7, 0] rfl)
                · skip
                  exact absurd hb381 (z_lab hcnt hp (by omega) hpa)
        exact lp349 ((cnt - 0) + 1) 0 (Nat.lt_succ_self _) (by omega)  _ _ h _ (lv_sub hl [1, 2, 3, 4, 5, 6, 7, 0] rfl)
  exact lp336 (((xL wt mk pr tol 3).length - 0) + 1) 0 (Nat.lt_succ_self _) (by omega)  _ _ h _ (lv_sub hl [1, 2, 3, 4, 5, 6, 0] rfl)
set_option maxHeartbeats 4000000 in
set_option maxRecDepth 100000 in
theorem lz_s4 (E : qE g p m c cL_law 13 s #[.ref b] wsL_law RL A) (hI : lzI wt mk cnt pr tol hf tf) (K : lzT p l e s m b below meth c Q g A d0 w1 w2 h0 h1 h2 s0 s1 s2 p0 hh tt la aa r0 l0 m0 wt mk cnt pr tol FF hf tf rw 573 [(1, .ref d0), (3, .int (nI cnt)), (4, .int (nI (grw (srO (wkb wt mk pr tol)) (tgO (wkb wt mk pr tol)) pr 12))), (6, .int (nI pr)), (7, .ref l0), (8, .ref m0)]) : lzT p l e s m b below meth c Q g A d0 w1 w2 h0 h1 h2 s0 s1 s2 p0 hh tt la aa r0 l0 m0 wt mk cnt pr tol FF hf tf rw 398 [(1, .ref d0), (3, .int (nI cnt)), (4, .int (nI (grw (srO (wkb wt mk pr tol)) (tgO (wkb wt mk pr tol)) pr 12))), (6, .int (nI pr)), (7, .ref l0), (8, .ref m0)] := by
  intro H locs ls h hl
  obtain ⟨⟨hi1, hi8⟩, hp, ht9, hmk, hwt, hhf, htf, hh0, ht0⟩ := id hI
  have hcnt : cnt ≤ 12 := by omega
  have hpr : pr < 4096 := pr12 hcnt hp
  refine q_ic E 0 dL_law_398 (by decide) ?_
  refine lv_istore (lv' := [(9, .int (nI 0)), (1, .ref d0), (3, .int (nI cnt)), (4, .int (nI (grw (srO (wkb wt mk pr tol)) (tgO (wkb wt mk pr tol)) pr 12))), (6, .int (nI pr)), (7, .ref l0), (8, .ref m0)]) E.1.1 E.1.2.1 dL_law_399 hl (by decide) rfl (fun ls hl => ?_)
  have lp401 : ∀ (fu : Nat) (a9 : Nat), cnt - a9 < fu → (a9 ≤ cnt) → ∀ (H : Heap) (locs : List Loc), qH g A s (lzB g d0 w1 w2 h0 h1 h2 s0 s1 s2 p0 hh tt la aa r0 l0 m0 wt mk cnt pr tol FF hf tf rw) H locs → ∀ ls : Array Slot, lv_has ls 13 [(1, .ref d0), (3, .int (nI cnt)), (4, .int (nI (grw (srO (wkb wt mk pr tol)) (tgO (wkb wt mk pr tol)) pr 12))), (6, .int (nI pr)), (7, .ref l0), (8, .ref m0), (9, .int (nI a9))] → W p l e room_1 s m #[.ref b] below meth c H locs 31 41124 Q (F0 m 401 ls []) := by
    intro fu
    induction fu with
    | zero => intro a9 hfu; exact absurd hfu (Nat.not_lt_zero _)
    | succ fu ih401 =>
      intro a9 hfu ha9  H locs h ls hl
      refine lv_iload E.1.1 E.1.2.1 dL_law_401 (lv_at hl 6 rfl) ?_
      refine lv_iload_n E.1.1 E.1.2.1 dL_law_403 rfl (lv_at hl 1 rfl) ?_
      refine q_ge E (tgt := 573) (by first | omega | assumption | exact Nat.lt_of_le_of_lt (xL_len _ _ _ _ _) (by decide) | exact Nat.lt_trans (xL_lt hpr _ _) (by decide)) (by first | omega | assumption | exact Nat.lt_of_le_of_lt (xL_len _ _ _ _ _) (by decide) | exact Nat.lt_trans (xL_lt hpr _ _) (by decide)) dL_law_404 (by decide) (fun hb404 => ?_) (fun hb404 => ?_)
      · skip
        exact K _ _ _ h (lv_sub hl [0, 1, 2, 3, 4, 5] rfl)
      · skip
        refine lv_iload E.1.1 E.1.2.1 dL_law_407 (lv_at hl 2 rfl) ?_
        refine lv_iload E.1.1 E.1.2.1 dL_law_409 (lv_at hl 6 rfl) ?_
        refine q_shr E (by exact Nat.lt_trans (grw_lt _ _ _ _) (by decide)) (by first | omega | assumption | exact Nat.lt_of_le_of_lt (xL_len _ _ _ _ _) (by decide) | exact Nat.lt_trans (xL_lt hpr _ _) (by decide)) dL_law_411 ?_
        refine q_ic E 1 dL_law_412 (by decide) ?_
        refine q_and E dL_law_413 ?_
        refine q_ic E 1 dL_law_414 (by decide) ?_
        refine q_ne E (tgt := 422) (by exact and1lt _) (by first | omega | assumption | exact Nat.lt_of_le_of_lt (xL_len _ _ _ _ _) (by decide) | exact Nat.lt_trans (xL_lt hpr _ _) (by decide)) dL_law_415 (by decide) (fun hb415 => ?_) (fun hb415 => ?_)
        · skip
          have hg := tb_n1 hb415
          skip
          refine q_ic E 0 dL_law_422 (by decide) ?_
          refine lv_istore (lv' := [(10, .int (nI 0)), (1, .ref d0), (3, .int (nI cnt)), (4, .int (nI (grw (srO (wkb wt mk pr tol)) (tgO (wkb wt mk pr tol)) pr 12))), (6, .int (nI pr)), (7, .ref l0), (8, .ref m0), (9, .int (nI a9))]) E.1.1 E.1.2.1 dL_law_423 hl (by decide) rfl (fun ls hl => ?_)
          refine lv_aload_n E.1.1 E.1.2.1 dL_law_425 rfl (lv_at hl 1 rfl) ?_
          refine lv_iload E.1.1 E.1.2.1 dL_law_426 (lv_at hl 7 rfl) ?_
          refine lz_winsB E hI h hl (by exact Nat.le_of_ble_eq_true rfl) (v := a9) (by omega) dL_law_428 (fun H locs h => ?_)
          refine q_top (w := .int (nI 0)) (by rw [hg]; rfl) ?_
          refine lv_iload E.1.1 E.1.2.1 dL_law_431 (lv_at hl 0 rfl) ?_
          refine q_ne E (tgt := 490) (by decide) (by decide) dL_law_433 (by decide) (fun hb433 => ?_) (fun hb433 => ?_)
          · exact absurd hb433 (by decide)
          · skip
            refine lv_aload_n E.1.1 E.1.2.1 dL_law_436 rfl (lv_at hl 1 rfl) ?_
            refine lv_iload E.1.1 E.1.2.1 dL_law_437 (lv_at hl 7 rfl) ?_
            refine lz_roundB E hI h hl (by exact Nat.le_of_ble_eq_true rfl) (v := a9) (by omega) dL_law_439 (fun H locs h => ?_)
            refine q_le0 E (tgt := 449) (by exact Nat.lt_of_le_of_lt (fnd_le _ _) (by decide)) dL_law_442 (by decide) (fun hb442 => ?_) (fun hb442 => ?_)
            · skip
              skip
              skip
              refine q_ic E 0 dL_law_449 (by decide) ?_
              refine lv_iload E.1.1 E.1.2.1 dL_law_450 (lv_at hl 0 rfl) ?_
              refine q_ne E (tgt := 490) (by decide) (by decide) dL_law_452 (by decide) (fun hb452 => ?_) (fun hb452 => ?_)
              · exact absurd hb452 (by decide)
              · skip
                refine lv_aload_n E.1.1 E.1.2.1 dL_law_455 rfl (lv_at hl 1 rfl) ?_
                refine lv_iload E.1.1 E.1.2.1 dL_law_456 (lv_at hl 7 rfl) ?_
                refine lz_silenceB E hI h hl (by exact Nat.le_of_ble_eq_true rfl) (v := a9) (by omega) dL_law_458 (fun H locs h => ?_)
                skip
                refine lv_if_ne (tgt := 468) E.1.1 E.1.2.1 dL_law_461 (by decide) (fun hb461 => ?_) (fun hb461 => ?_)
                · skip
                  refine q_ic E 0 dL_law_468 (by decide) ?_
                  refine lv_iload E.1.1 E.1.2.1 dL_law_469 (lv_at hl 0 rfl) ?_
                  refine q_ne E (tgt := 490) (by decide) (by decide) dL_law_471 (by decide) (fun hb471 => ?_) (fun hb471 => ?_)
                  · exact absurd hb471 (by decide)
                  · skip
                    refine lv_iload E.1.1 E.1.2.1 dL_law_474 (lv_at hl 0 rfl) ?_
                    refine q_eq0 E (tgt := 492) (by decide) dL_law_476 (by decide) (fun hb476 => ?_) (fun hb476 => ?_)
                    · skip
                      refine lv_aload_n E.1.1 E.1.2.1 dL_law_492 rfl (lv_at hl 1 rfl) ?_
                      refine lv_iload E.1.1 E.1.2.1 dL_law_493 (lv_at hl 7 rfl) ?_
                      refine lz_silenceB E hI h hl (by exact Nat.le_of_ble_eq_true rfl) (v := a9) (by omega) dL_law_495 (fun H locs h => ?_)
                      rcases ho : slR (srO (wkb wt mk pr tol)) (tgO (wkb wt mk pr tol)) pr a9 with _ | bS
                      · skip
                        refine lv_istore (lv' := [(11, .int (oI none)), (10, .int (nI 0)), (1, .ref d0), (3, .int (nI cnt)), (4, .int (nI (grw (srO (wkb wt mk pr tol)) (tgO (wkb wt mk pr tol)) pr 12))), (6, .int (nI pr)), (7, .ref l0), (8, .ref m0), (9, .int (nI a9))]) E.1.1 E.1.2.1 dL_law_498 hl (by decide) rfl (fun ls hl => ?_)
                        refine lv_iload E.1.1 E.1.2.1 dL_law_500 (lv_at hl 0 rfl) ?_
                        refine lv_if_lt (tgt := 528) E.1.1 E.1.2.1 dL_law_502 (by decide) (fun _ => ?_) (fun hb => absurd (by decide) hb)
                        refine lv_aload_n E.1.1 E.1.2.1 dL_law_528 rfl (lv_at hl 2 rfl) ?_
                        refine lv_iload E.1.1 E.1.2.1 dL_law_529 (lv_at hl 8 rfl) ?_
                        refine lz_attackersB E hI h hl (by exact Nat.le_of_ble_eq_true rfl) (v := a9) (by omega) dL_law_531 (fun H locs h => ?_)
                        refine lv_iload E.1.1 E.1.2.1 dL_law_534 (lv_at hl 8 rfl) ?_
                        refine q_shr E (by exact Nat.lt_trans (srO_lt _ _) (by decide)) (by first | omega | assumption | exact Nat.lt_of_le_of_lt (xL_len _ _ _ _ _) (by decide) | exact Nat.lt_trans (xL_lt hpr _ _) (by decide)) dL_law_536 ?_
                        refine q_ic E 1 dL_law_537 (by decide) ?_
                        refine q_and E dL_law_538 ?_
                        refine q_ic E 1 dL_law_539 (by decide) ?_
                        refine q_ne E (tgt := 567) (by exact and1lt _) (by first | omega | assumption | exact Nat.lt_of_le_of_lt (xL_len _ _ _ _ _) (by decide) | exact Nat.lt_trans (xL_lt hpr _ _) (by decide)) dL_law_540 (by decide) (fun hb540 => ?_) (fun hb540 => ?_)
                        · skip
                          refine q_inc E (lv' := [(9, .int (nI (a9 + 1))), (11, .int (oI none)), (10, .int (nI 0)), (1, .ref d0), (3, .int (nI cnt)), (4, .int (nI (grw (srO (wkb wt mk pr tol)) (tgO (wkb wt mk pr tol)) pr 12))), (6, .int (nI pr)), (7, .ref l0), (8, .ref m0)]) hl dL_law_567 (k := 8) rfl (by decide) rfl (fun ls hl => ?_)
                          refine q_go E (tgt := 401) dL_law_570 (by decide) ?_
                          exact ih401  (a9 + 1) (by omega) (by omega)  _ _ h _ (lv_sub hl [3, 4, 5, 6, 7, 8, 0] rfl)
                        · skip
                          have hsa := tb_1 hb540
                          refine lv_aload_n E.1.1 E.1.2.1 dL_law_543 rfl (lv_at hl 2 rfl) ?_
                          refine q_ic E 4 dL_law_544 (by decide) ?_
                          refine q_ic E 0 dL_law_545 (by decide) ?_
                          refine lz_accFB E hI h hl (by exact Nat.le_of_ble_eq_true rfl) (kd := 4) (by decide) dL_law_546 (fun H locs h => ?_)
                          refine lv_aload_n E.1.1 E.1.2.1 dL_law_549 rfl (lv_at hl 2 rfl) ?_
                          refine q_ic E 2 dL_law_550 (by decide) ?_
                          refine q_ic E 0 dL_law_551 (by decide) ?_
                          refine lz_accFB E hI h hl (by exact Nat.le_of_ble_eq_true rfl) (kd := 2) (by decide) dL_law_552 (fun H locs h => ?_)
                          refine q_or E dL_law_555 ?_
                          refine lv_iload E.1.1 E.1.2.1 dL_law_556 (lv_at hl 8 rfl) ?_
                          refine q_shr E (by exact Nat.lt_trans (or12 (un_lt hpr _ _) (un_lt hpr _ _)) (by decide)) (by first | omega | assumption | exact Nat.lt_of_le_of_lt (xL_len _ _ _ _ _) (by decide) | exact Nat.lt_trans (xL_lt hpr _ _) (by decide)) dL_law_558 ?_
                          refine q_ic E 1 dL_law_559 (by decide) ?_
                          refine q_and E dL_law_560 ?_
                          refine q_ic E 1 dL_law_561 (by decide) ?_
                          refine q_ne E (tgt := 567) (by exact and1lt _) (by first | omega | assumption | exact Nat.lt_of_le_of_lt (xL_len _ _ _ _ _) (by decide) | exact Nat.lt_trans (xL_lt hpr _ _) (by decide)) dL_law_562 (by decide) (fun hb562 => ?_) (fun hb562 => ?_)
                          · skip
                            refine q_inc E (lv' := [(9, .int (nI (a9 + 1))), (11, .int (oI none)), (10, .int (nI 0)), (1, .ref d0), (3, .int (nI cnt)), (4, .int (nI (grw (srO (wkb wt mk pr tol)) (tgO (wkb wt mk pr tol)) pr 12))), (6, .int (nI pr)), (7, .ref l0), (8, .ref m0)]) hl dL_law_567 (k := 8) rfl (by decide) rfl (fun ls hl => ?_)
                            refine q_go E (tgt := 401) dL_law_570 (by decide) ?_
                            exact ih401  (a9 + 1) (by omega) (by omega)  _ _ h _ (lv_sub hl [3, 4, 5, 6, 7, 8, 0] rfl)
                          · skip
                            exact absurd hb562 (tb_not1 (z_self hcnt hp hsa))
                      · skip
                        obtain ⟨hs1, hs2, hs3⟩ := z_silS ho
                        refine q_top (w := .int (nI bS)) rfl ?_
                        refine lv_istore (lv' := [(11, .int (nI bS)), (10, .int (nI 0)), (1, .ref d0), (3, .int (nI cnt)), (4, .int (nI (grw (srO (wkb wt mk pr tol)) (tgO (wkb wt mk pr tol)) pr 12))), (6, .int (nI pr)), (7, .ref l0), (8, .ref m0), (9, .int (nI a9))]) E.1.1 E.1.2.1 dL_law_498 hl (by decide) rfl (fun ls hl => ?_)
                        refine lv_iload E.1.1 E.1.2.1 dL_law_500 (lv_at hl 0 rfl) ?_
                        refine q_lt0 E (tgt := 528) (by first | omega | assumption | exact Nat.lt_of_le_of_lt (xL_len _ _ _ _ _) (by decide) | exact Nat.lt_trans (xL_lt hpr _ _) (by decide)) dL_law_502 (by decide) ?_
                        refine lv_iload E.1.1 E.1.2.1 dL_law_505 (lv_at hl 0 rfl) ?_
                        refine lv_iload E.1.1 E.1.2.1 dL_law_507 (lv_at hl 8 rfl) ?_
                        refine q_shr E (by first | omega | assumption | exact Nat.lt_of_le_of_lt (xL_len _ _ _ _ _) (by decide) | exact Nat.lt_trans (xL_lt hpr _ _) (by decide)) (by first | omega | assumption | exact Nat.lt_of_le_of_lt (xL_len _ _ _ _ _) (by decide) | exact Nat.lt_trans (xL_lt hpr _ _) (by decide)) dL_law_509 ?_
                        refine q_ic E 1 dL_law_510 (by decide) ?_
                        refine q_and E dL_law_511 ?_
                        refine q_ic E 1 dL_law_512 (by decide) ?_
                        refine q_eq E (tgt := 526) (by exact and1lt _) (by first | omega | assumption | exact Nat.lt_of_le_of_lt (xL_len _ _ _ _ _) (by decide) | exact Nat.lt_trans (xL_lt hpr _ _) (by decide)) dL_law_513 (by decide) (fun hb513 => ?_) (fun hb513 => ?_)
                        · skip
                          exact absurd hb513 (tb_not1 hs2)
                        · skip
                          refine lv_iload E.1.1 E.1.2.1 dL_law_516 (lv_at hl 0 rfl) ?_
                          refine lv_iload E.1.1 E.1.2.1 dL_law_518 (lv_at hl 5 rfl) ?_
                          refine q_im1 E dL_law_520 ?_
                          refine q_xor E dL_law_521 ?_
                          refine q_andn E dL_law_522 ?_
                          refine q_eq0 E (tgt := 528) (by exact Nat.lt_of_le_of_lt (ldf_le _ _) (by omega)) dL_law_523 (by decide) (fun hb523 => ?_) (fun hb523 => ?_)
                          · skip
                            refine lv_aload_n E.1.1 E.1.2.1 dL_law_528 rfl (lv_at hl 2 rfl) ?_
                            refine lv_iload E.1.1 E.1.2.1 dL_law_529 (lv_at hl 8 rfl) ?_
                            refine lz_attackersB E hI h hl (by exact Nat.le_of_ble_eq_true rfl) (v := a9) (by omega) dL_law_531 (fun H locs h => ?_)
                            refine lv_iload E.1.1 E.1.2.1 dL_law_534 (lv_at hl 8 rfl) ?_
                            refine q_shr E (by exact Nat.lt_trans (srO_lt _ _) (by decide)) (by first | omega | assumption | exact Nat.lt_of_le_of_lt (xL_len _ _ _ _ _) (by decide) | exact Nat.lt_trans (xL_lt hpr _ _) (by decide)) dL_law_536 ?_
                            refine q_ic E 1 dL_law_537 (by decide) ?_
                            refine q_and E dL_law_538 ?_
                            refine q_ic E 1 dL_law_539 (by decide) ?_
                            refine q_ne E (tgt := 567) (by exact and1lt _) (by first | omega | assumption | exact Nat.lt_of_le_of_lt (xL_len _ _ _ _ _) (by decide) | exact Nat.lt_trans (xL_lt hpr _ _) (by decide)) dL_law_540 (by decide) (fun hb540 => ?_) (fun hb540 => ?_)
                            · skip
                              refine q_inc E (lv' := [(9, .int (nI (a9 + 1))), (11, .int (nI bS)), (10, .int (nI 0)), (1, .ref d0), (3, .int (nI cnt)), (4, .int (nI (grw (srO (wkb wt mk pr tol)) (tgO (wkb wt mk pr tol)) pr 12))), (6, .int (nI pr)), (7, .ref l0), (8, .ref m0)]) hl dL_law_567 (k := 8) rfl (by decide) rfl (fun ls hl => ?_)
                              refine q_go E (tgt := 401) dL_law_570 (by decide) ?_
                              exact ih401  (a9 + 1) (by omega) (by omega)  _ _ h _ (lv_sub hl [3, 4, 5, 6, 7, 8, 0] rfl)
                            · skip
                              have hsa := tb_1 hb540
                              refine lv_aload_n E.1.1 E.1.2.1 dL_law_543 rfl (lv_at hl 2 rfl) ?_
                              refine q_ic E 4 dL_law_544 (by decide) ?_
                              refine q_ic E 0 dL_law_545 (by decide) ?_
                              refine lz_accFB E hI h hl (by exact Nat.le_of_ble_eq_true rfl) (kd := 4) (by decide) dL_law_546 (fun H locs h => ?_)
                              refine lv_aload_n E.1.1 E.1.2.1 dL_law_549 rfl (lv_at hl 2 rfl) ?_
                              refine q_ic E 2 dL_law_550 (by decide) ?_
                              refine q_ic E 0 dL_law_551 (by decide) ?_
                              refine lz_accFB E hI h hl (by exact Nat.le_of_ble_eq_true rfl) (kd := 2) (by decide) dL_law_552 (fun H locs h => ?_)
                              refine q_or E dL_law_555 ?_
                              refine lv_iload E.1.1 E.1.2.1 dL_law_556 (lv_at hl 8 rfl) ?_
                              refine q_shr E (by exact Nat.lt_trans (or12 (un_lt hpr _ _) (un_lt hpr _ _)) (by decide)) (by first | omega | assumption | exact Nat.lt_of_le_of_lt (xL_len _ _ _ _ _) (by decide) | exact Nat.lt_trans (xL_lt hpr _ _) (by decide)) dL_law_558 ?_
                              refine q_ic E 1 dL_law_559 (by decide) ?_
                              refine q_and E dL_law_560 ?_
                              refine q_ic E 1 dL_law_561 (by decide) ?_
                              refine q_ne E (tgt := 567) (by exact and1lt _) (by first | omega | assumption | exact Nat.lt_of_le_of_lt (xL_len _ _ _ _ _) (by decide) | exact Nat.lt_trans (xL_lt hpr _ _) (by decide)) dL_law_562 (by decide) (fun hb562 => ?_) (fun hb562 => ?_)
                              · skip
                                refine q_inc E (lv' := [(9, .int (nI (a9 + 1))), (11, .int (nI bS)), (10, .int (nI 0)), (1, .ref d0), (3, .int (nI cnt)), (4, .int (nI (grw (srO (wkb wt mk pr tol)) (tgO (wkb wt mk pr tol)) pr 12))), (6, .int (nI pr)), (7, .ref l0), (8, .ref m0)]) hl dL_law_567 (k := 8) rfl (by decide) rfl (fun ls hl => ?_)
                                refine q_go E (tgt := 401) dL_law_570 (by decide) ?_
                                exact ih401  (a9 + 1) (by omega) (by omega)  _ _ h _ (lv_sub hl [3, 4, 5, 6, 7, 8, 0] rfl)
                              · skip
                                exact absurd hb562 (tb_not1 (z_self hcnt hp hsa))
                          · skip
                            exact absurd hs3 hb523
                    · exact absurd hb476 (by decide)
                · skip
                  exact absurd ((z_sil0 hcnt hp a9).mp ((oI_0 sil_b).mp hb461)) (by rw [hg]; decide)
            · skip
              exact absurd ((z_rnd _ _ a9).mp hb442) (by rw [hg]; decide)
        · skip
          have hg := tb_1 hb415
          skip
          refine q_ic E 1 dL_law_418 (by decide) ?_
          refine q_go E (tgt := 423) dL_law_419 (by decide) ?_
          refine lv_istore (lv' := [(10, .int (nI 1)), (1, .ref d0), (3, .int (nI cnt)), (4, .int (nI (grw (srO (wkb wt mk pr tol)) (tgO (wkb wt mk pr tol)) pr 12))), (6, .int (nI pr)), (7, .ref l0), (8, .ref m0), (9, .int (nI a9))]) E.1.1 E.1.2.1 dL_law_423 hl (by decide) rfl (fun ls hl => ?_)
          refine lv_aload_n E.1.1 E.1.2.1 dL_law_425 rfl (lv_at hl 1 rfl) ?_
          refine lv_iload E.1.1 E.1.2.1 dL_law_426 (lv_at hl 7 rfl) ?_
          refine lz_winsB E hI h hl (by exact Nat.le_of_ble_eq_true rfl) (v := a9) (by omega) dL_law_428 (fun H locs h => ?_)
          refine q_top (w := .int (nI 1)) (by rw [hg]; rfl) ?_
          refine lv_iload E.1.1 E.1.2.1 dL_law_431 (lv_at hl 0 rfl) ?_
          refine q_ne E (tgt := 490) (by decide) (by decide) dL_law_433 (by decide) (fun hb433 => ?_) (fun hb433 => ?_)
          · exact absurd hb433 (by decide)
          · skip
            refine lv_aload_n E.1.1 E.1.2.1 dL_law_436 rfl (lv_at hl 1 rfl) ?_
            refine lv_iload E.1.1 E.1.2.1 dL_law_437 (lv_at hl 7 rfl) ?_
            refine lz_roundB E hI h hl (by exact Nat.le_of_ble_eq_true rfl) (v := a9) (by omega) dL_law_439 (fun H locs h => ?_)
            refine q_le0 E (tgt := 449) (by exact Nat.lt_of_le_of_lt (fnd_le _ _) (by decide)) dL_law_442 (by decide) (fun hb442 => ?_) (fun hb442 => ?_)
            · skip
              exact absurd hb442 ((z_rnd _ _ a9).mpr hg)
            · skip
              skip
              skip
              refine q_ic E 1 dL_law_445 (by decide) ?_
              refine q_go E (tgt := 450) dL_law_446 (by decide) ?_
              refine lv_iload E.1.1 E.1.2.1 dL_law_450 (lv_at hl 0 rfl) ?_
              refine q_ne E (tgt := 490) (by decide) (by decide) dL_law_452 (by decide) (fun hb452 => ?_) (fun hb452 => ?_)
              · exact absurd hb452 (by decide)
              · skip
                refine lv_aload_n E.1.1 E.1.2.1 dL_law_455 rfl (lv_at hl 1 rfl) ?_
                refine lv_iload E.1.1 E.1.2.1 dL_law_456 (lv_at hl 7 rfl) ?_
                refine lz_silenceB E hI h hl (by exact Nat.le_of_ble_eq_true rfl) (v := a9) (by omega) dL_law_458 (fun H locs h => ?_)
                refine q_top (w := .int (nI 0)) (by rw [(z_sil0 hcnt hp a9).mpr hg]; rfl) ?_
                refine q_ne0 E (tgt := 468) (by decide) dL_law_461 (by decide) (fun hb461 => ?_) (fun hb461 => ?_)
                · exact absurd hb461 (by decide)
                · skip
                  skip
                  skip
                  refine q_ic E 1 dL_law_464 (by decide) ?_
                  refine q_go E (tgt := 469) dL_law_465 (by decide) ?_
                  refine lv_iload E.1.1 E.1.2.1 dL_law_469 (lv_at hl 0 rfl) ?_
                  refine q_ne E (tgt := 490) (by decide) (by decide) dL_law_471 (by decide) (fun hb471 => ?_) (fun hb471 => ?_)
                  · exact absurd hb471 (by decide)
                  · skip
                    refine lv_iload E.1.1 E.1.2.1 dL_law_474 (lv_at hl 0 rfl) ?_
                    refine q_eq0 E (tgt := 492) (by decide) dL_law_476 (by decide) (fun hb476 => ?_) (fun hb476 => ?_)
                    · exact absurd hb476 (by decide)
                    · skip
                      refine lv_aload_n E.1.1 E.1.2.1 dL_law_479 rfl (lv_at hl 1 rfl) ?_
                      refine lv_iload E.1.1 E.1.2.1 dL_law_480 (lv_at hl 7 rfl) ?_
                      refine lz_supportB E hI h hl (by exact Nat.le_of_ble_eq_true rfl) (v := a9) (by omega) dL_law_482 (fun H locs h => ?_)
                      refine lv_dconst1 E.1.1 E.1.2.1 dL_law_485 ?_
                      refine q_dcmp1 E (sup_one hi8 hp hg) dL_law_486 ?_
                      refine q_eq0 E (tgt := 492) (by decide) dL_law_487 (by decide) (fun hb487 => ?_) (fun hb487 => ?_)
                      · skip
                        refine lv_aload_n E.1.1 E.1.2.1 dL_law_492 rfl (lv_at hl 1 rfl) ?_
                        refine lv_iload E.1.1 E.1.2.1 dL_law_493 (lv_at hl 7 rfl) ?_
                        refine lz_silenceB E hI h hl (by exact Nat.le_of_ble_eq_true rfl) (v := a9) (by omega) dL_law_495 (fun H locs h => ?_)
                        rcases ho : slR (srO (wkb wt mk pr tol)) (tgO (wkb wt mk pr tol)) pr a9 with _ | bS
                        · skip
                          refine lv_istore (lv' := [(11, .int (oI none)), (10, .int (nI 1)), (1, .ref d0), (3, .int (nI cnt)), (4, .int (nI (grw (srO (wkb wt mk pr tol)) (tgO (wkb wt mk pr tol)) pr 12))), (6, .int (nI pr)), (7, .ref l0), (8, .ref m0), (9, .int (nI a9))]) E.1.1 E.1.2.1 dL_law_498 hl (by decide) rfl (fun ls hl => ?_)
                          refine lv_iload E.1.1 E.1.2.1 dL_law_500 (lv_at hl 0 rfl) ?_
                          refine lv_if_lt (tgt := 528) E.1.1 E.1.2.1 dL_law_502 (by decide) (fun _ => ?_) (fun hb => absurd (by decide) hb)
                          refine lv_aload_n E.1.1 E.1.2.1 dL_law_528 rfl (lv_at hl 2 rfl) ?_
                          refine lv_iload E.1.1 E.1.2.1 dL_law_529 (lv_at hl 8 rfl) ?_
                          refine lz_attackersB E hI h hl (by exact Nat.le_of_ble_eq_true rfl) (v := a9) (by omega) dL_law_531 (fun H locs h => ?_)
                          refine lv_iload E.1.1 E.1.2.1 dL_law_534 (lv_at hl 8 rfl) ?_
                          refine q_shr E (by exact Nat.lt_trans (srO_lt _ _) (by decide)) (by first | omega | assumption | exact Nat.lt_of_le_of_lt (xL_len _ _ _ _ _) (by decide) | exact Nat.lt_trans (xL_lt hpr _ _) (by decide)) dL_law_536 ?_
                          refine q_ic E 1 dL_law_537 (by decide) ?_
                          refine q_and E dL_law_538 ?_
                          refine q_ic E 1 dL_law_539 (by decide) ?_
                          refine q_ne E (tgt := 567) (by exact and1lt _) (by first | omega | assumption | exact Nat.lt_of_le_of_lt (xL_len _ _ _ _ _) (by decide) | exact Nat.lt_trans (xL_lt hpr _ _) (by decide)) dL_law_540 (by decide) (fun hb540 => ?_) (fun hb540 => ?_)
                          · skip
                            refine q_inc E (lv' := [(9, .int (nI (a9 + 1))), (11, .int (oI none)), (10, .int (nI 1)), (1, .ref d0), (3, .int (nI cnt)), (4, .int (nI (grw (srO (wkb wt mk pr tol)) (tgO (wkb wt mk pr tol)) pr 12))), (6, .int (nI pr)), (7, .ref l0), (8, .ref m0)]) hl dL_law_567 (k := 8) rfl (by decide) rfl (fun ls hl => ?_)
                            refine q_go E (tgt := 401) dL_law_570 (by decide) ?_
                            exact ih401  (a9 + 1) (by omega) (by omega)  _ _ h _ (lv_sub hl [3, 4, 5, 6, 7, 8, 0] rfl)
                          · skip
                            have hsa := tb_1 hb540
                            refine lv_aload_n E.1.1 E.1.2.1 dL_law_543 rfl (lv_at hl 2 rfl) ?_
                            refine q_ic E 4 dL_law_544 (by decide) ?_
                            refine q_ic E 0 dL_law_545 (by decide) ?_
                            refine lz_accFB E hI h hl (by exact Nat.le_of_ble_eq_true rfl) (kd := 4) (by decide) dL_law_546 (fun H locs h => ?_)
                            refine lv_aload_n E.1.1 E.1.2.1 dL_law_549 rfl (lv_at hl 2 rfl) ?_
                            refine q_ic E 2 dL_law_550 (by decide) ?_
                            refine q_ic E 0 dL_law_551 (by decide) ?_
                            refine lz_accFB E hI h hl (by exact Nat.le_of_ble_eq_true rfl) (kd := 2) (by decide) dL_law_552 (fun H locs h => ?_)
                            refine q_or E dL_law_555 ?_
                            refine lv_iload E.1.1 E.1.2.1 dL_law_556 (lv_at hl 8 rfl) ?_
                            refine q_shr E (by exact Nat.lt_trans (or12 (un_lt hpr _ _) (un_lt hpr _ _)) (by decide)) (by first | omega | assumption | exact Nat.lt_of_le_of_lt (xL_len _ _ _ _ _) (by decide) | exact Nat.lt_trans (xL_lt hpr _ _) (by decide)) dL_law_558 ?_
                            refine q_ic E 1 dL_law_559 (by decide) ?_
                            refine q_and E dL_law_560 ?_
                            refine q_ic E 1 dL_law_561 (by decide) ?_
                            refine q_ne E (tgt := 567) (by exact and1lt _) (by first | omega | assumption | exact Nat.lt_of_le_of_lt (xL_len _ _ _ _ _) (by decide) | exact Nat.lt_trans (xL_lt hpr _ _) (by decide)) dL_law_562 (by decide) (fun hb562 => ?_) (fun hb562 => ?_)
                            · skip
                              refine q_inc E (lv' := [(9, .int (nI (a9 + 1))), (11, .int (oI none)), (10, .int (nI 1)), (1, .ref d0), (3, .int (nI cnt)), (4, .int (nI (grw (srO (wkb wt mk pr tol)) (tgO (wkb wt mk pr tol)) pr 12))), (6, .int (nI pr)), (7, .ref l0), (8, .ref m0)]) hl dL_law_567 (k := 8) rfl (by decide) rfl (fun ls hl => ?_)
                              refine q_go E (tgt := 401) dL_law_570 (by decide) ?_
                              exact ih401  (a9 + 1) (by omega) (by omega)  _ _ h _ (lv_sub hl [3, 4, 5, 6, 7, 8, 0] rfl)
                            · skip
                              exact absurd hb562 (tb_not1 (z_self hcnt hp hsa))
                        · skip
                          obtain ⟨hs1, hs2, hs3⟩ := z_silS ho
                          refine q_top (w := .int (nI bS)) rfl ?_
                          refine lv_istore (lv' := [(11, .int (nI bS)), (10, .int (nI 1)), (1, .ref d0), (3, .int (nI cnt)), (4, .int (nI (grw (srO (wkb wt mk pr tol)) (tgO (wkb wt mk pr tol)) pr 12))), (6, .int (nI pr)), (7, .ref l0), (8, .ref m0), (9, .int (nI a9))]) E.1.1 E.1.2.1 dL_law_498 hl (by decide) rfl (fun ls hl => ?_)
                          refine lv_iload E.1.1 E.1.2.1 dL_law_500 (lv_at hl 0 rfl) ?_
                          refine q_lt0 E (tgt := 528) (by first | omega | assumption | exact Nat.lt_of_le_of_lt (xL_len _ _ _ _ _) (by decide) | exact Nat.lt_trans (xL_lt hpr _ _) (by decide)) dL_law_502 (by decide) ?_
                          refine lv_iload E.1.1 E.1.2.1 dL_law_505 (lv_at hl 0 rfl) ?_
                          refine lv_iload E.1.1 E.1.2.1 dL_law_507 (lv_at hl 8 rfl) ?_
                          refine q_shr E (by first | omega | assumption | exact Nat.lt_of_le_of_lt (xL_len _ _ _ _ _) (by decide) | exact Nat.lt_trans (xL_lt hpr _ _) (by decide)) (by first | omega | assumption | exact Nat.lt_of_le_of_lt (xL_len _ _ _ _ _) (by decide) | exact Nat.lt_trans (xL_lt hpr _ _) (by decide)) dL_law_509 ?_
                          refine q_ic E 1 dL_law_510 (by decide) ?_
                          refine q_and E dL_law_511 ?_
                          refine q_ic E 1 dL_law_512 (by decide) ?_
                          refine q_eq E (tgt := 526) (by exact and1lt _) (by first | omega | assumption | exact Nat.lt_of_le_of_lt (xL_len _ _ _ _ _) (by decide) | exact Nat.lt_trans (xL_lt hpr _ _) (by decide)) dL_law_513 (by decide) (fun hb513 => ?_) (fun hb513 => ?_)
                          · skip
                            exact absurd hb513 (tb_not1 hs2)
                          · skip
                            refine lv_iload E.1.1 E.1.2.1 dL_law_516 (lv_at hl 0 rfl) ?_
                            refine lv_iload E.1.1 E.1.2.1 dL_law_518 (lv_at hl 5 rfl) ?_
                            refine q_im1 E dL_law_520 ?_
                            refine q_xor E dL_law_521 ?_
                            refine q_andn E dL_law_522 ?_
                            refine q_eq0 E (tgt := 528) (by exact Nat.lt_of_le_of_lt (ldf_le _ _) (by omega)) dL_law_523 (by decide) (fun hb523 => ?_) (fun hb523 => ?_)
                            · skip
                              refine lv_aload_n E.1.1 E.1.2.1 dL_law_528 rfl (lv_at hl 2 rfl) ?_
                              refine lv_iload E.1.1 E.1.2.1 dL_law_529 (lv_at hl 8 rfl) ?_
                              refine lz_attackersB E hI h hl (by exact Nat.le_of_ble_eq_true rfl) (v := a9) (by omega) dL_law_531 (fun H locs h => ?_)
                              refine lv_iload E.1.1 E.1.2.1 dL_law_534 (lv_at hl 8 rfl) ?_
                              refine q_shr E (by exact Nat.lt_trans (srO_lt _ _) (by decide)) (by first | omega | assumption | exact Nat.lt_of_le_of_lt (xL_len _ _ _ _ _) (by decide) | exact Nat.lt_trans (xL_lt hpr _ _) (by decide)) dL_law_536 ?_
                              refine q_ic E 1 dL_law_537 (by decide) ?_
                              refine q_and E dL_law_538 ?_
                              refine q_ic E 1 dL_law_539 (by decide) ?_
                              refine q_ne E (tgt := 567) (by exact and1lt _) (by first | omega | assumption | exact Nat.lt_of_le_of_lt (xL_len _ _ _ _ _) (by decide) | exact Nat.lt_trans (xL_lt hpr _ _) (by decide)) dL_law_540 (by decide) (fun hb540 => ?_) (fun hb540 => ?_)
                              · skip
                                refine q_inc E (lv' := [(9, .int (nI (a9 + 1))), (11, .int (nI bS)), (10, .int (nI 1)), (1, .ref d0), (3, .int (nI cnt)), (4, .int (nI (grw (srO (wkb wt mk pr tol)) (tgO (wkb wt mk pr tol)) pr 12))), (6, .int (nI pr)), (7, .ref l0), (8, .ref m0)]) hl dL_law_567 (k := 8) rfl (by decide) rfl (fun ls hl => ?_)
                                refine q_go E (tgt := 401) dL_law_570 (by decide) ?_
                                exact ih401  (a9 + 1) (by omega) (by omega)  _ _ h _ (lv_sub hl [3, 4, 5, 6, 7, 8, 0] rfl)
                              · skip
                                have hsa := tb_1 hb540
                                refine lv_aload_n E.1.1 E.1.2.1 dL_law_543 rfl (lv_at hl 2 rfl) ?_
                                refine q_ic E 4 dL_law_544 (by decide) ?_
                                refine q_ic E 0 dL_law_545 (by decide) ?_
                                refine lz_accFB E hI h hl (by exact Nat.le_of_ble_eq_true rfl) (kd := 4) (by decide) dL_law_546 (fun H locs h => ?_)
                                refine lv_aload_n E.1.1 E.1.2.1 dL_law_549 rfl (lv_at hl 2 rfl) ?_
                                refine q_ic E 2 dL_law_550 (by decide) ?_
                                refine q_ic E 0 dL_law_551 (by decide) ?_
                                refine lz_accFB E hI h hl (by exact Nat.le_of_ble_eq_true rfl) (kd := 2) (by decide) dL_law_552 (fun H locs h => ?_)
                                refine q_or E dL_law_555 ?_
                                refine lv_iload E.1.1 E.1.2.1 dL_law_556 (lv_at hl 8 rfl) ?_
                                refine q_shr E (by exact Nat.lt_trans (or12 (un_lt hpr _ _) (un_lt hpr _ _)) (by decide)) (by first | omega | assumption | exact Nat.lt_of_le_of_lt (xL_len _ _ _ _ _) (by decide) | exact Nat.lt_trans (xL_lt hpr _ _) (by decide)) dL_law_558 ?_
                                refine q_ic E 1 dL_law_559 (by decide) ?_
                                refine q_and E dL_law_560 ?_
                                refine q_ic E 1 dL_law_561 (by decide) ?_
                                refine q_ne E (tgt := 567) (by exact and1lt _) (by first | omega | assumption | exact Nat.lt_of_le_of_lt (xL_len _ _ _ _ _) (by decide) | exact Nat.lt_trans (xL_lt hpr _ _) (by decide)) dL_law_562 (by decide) (fun hb562 => ?_) (fun hb562 => ?_)
                                · skip
                                  refine q_inc E (lv' := [(9, .int (nI (a9 + 1))), (11, .int (nI bS)), (10, .int (nI 1)), (1, .ref d0), (3, .int (nI cnt)), (4, .int (nI (grw (srO (wkb wt mk pr tol)) (tgO (wkb wt mk pr tol)) pr 12))), (6, .int (nI pr)), (7, .ref l0), (8, .ref m0)]) hl dL_law_567 (k := 8) rfl (by decide) rfl (fun ls hl => ?_)
                                  refine q_go E (tgt := 401) dL_law_570 (by decide) ?_
                                  exact ih401  (a9 + 1) (by omega) (by omega)  _ _ h _ (lv_sub hl [3, 4, 5, 6, 7, 8, 0] rfl)
                                · skip
                                  exact absurd hb562 (tb_not1 (z_self hcnt hp hsa))
                            · skip
                              exact absurd hs3 hb523
                      · exact absurd hb487 (by decide)
  exact lp401 ((cnt - 0) + 1) 0 (Nat.lt_succ_self _) (by omega)  _ _ h _ (lv_sub hl [1, 2, 3, 4, 5, 6, 0] rfl)
set_option maxHeartbeats 4000000 in
set_option maxRecDepth 100000 in
theorem lz_s5 (E : qE g p m c cL_law 13 s #[.ref b] wsL_law RL A) (hI : lzI wt mk cnt pr tol hf tf) (K : ∀ (H : Heap) (locs : List Loc) (ls : Array Slot), qH g A s (lzB g d0 w1 w2 h0 h1 h2 s0 s1 s2 p0 hh tt la aa r0 l0 m0 wt mk cnt pr tol FF hf tf rw) H locs → W p l e room_1 s m #[.ref b] below meth c H locs 31 41124 Q (F0 m 598 ls [.int (nI 1)])) : lzT p l e s m b below meth c Q g A d0 w1 w2 h0 h1 h2 s0 s1 s2 p0 hh tt la aa r0 l0 m0 wt mk cnt pr tol FF hf tf rw 573 [(1, .ref d0), (3, .int (nI cnt)), (4, .int (nI (grw (srO (wkb wt mk pr tol)) (tgO (wkb wt mk pr tol)) pr 12))), (6, .int (nI pr)), (7, .ref l0), (8, .ref m0)] := by
  intro H locs ls h hl
  obtain ⟨⟨hi1, hi8⟩, hp, ht9, hmk, hwt, hhf, htf, hh0, ht0⟩ := id hI
  have hcnt : cnt ≤ 12 := by omega
  have hpr : pr < 4096 := pr12 hcnt hp
  refine lv_aload_n E.1.1 E.1.2.1 dL_law_573 rfl (lv_at hl 0 rfl) ?_
  refine lz_oddB E hI h hl (by exact Nat.le_of_ble_eq_true rfl) dL_law_574 (fun H locs h => ?_)
  refine q_ne0 E (tgt := 593) (by exact Nat.lt_trans (mks_lt _ _) (Nat.pow_lt_pow_right (a := 2) (n := 31) (by decide) (by omega))) dL_law_577 (by decide) (fun hb577 => ?_) (fun hb577 => ?_)
  · skip
    refine q_ic E 1 dL_law_593 (by decide) ?_
    refine q_go E (tgt := 598) dL_law_594 (by decide) ?_
    exact K _ _ _ h
  · skip
    refine lv_aload_n E.1.1 E.1.2.1 dL_law_580 rfl (lv_at hl 0 rfl) ?_
    refine q_ic E 2 dL_law_581 (by decide) ?_
    refine lz_positionsB E hI h hl (by exact Nat.le_of_ble_eq_true rfl) (kd := 2) (by decide) dL_law_582 (fun H locs h => ?_)
    refine lv_aload_n E.1.1 E.1.2.1 dL_law_585 rfl (lv_at hl 0 rfl) ?_
    refine q_ic E 3 dL_law_586 (by decide) ?_
    refine lz_positionsB E hI h hl (by exact Nat.le_of_ble_eq_true rfl) (kd := 3) (by decide) dL_law_587 (fun H locs h => ?_)
    refine q_ne E (tgt := 597) (by first | omega | assumption | exact Nat.lt_of_le_of_lt (xL_len _ _ _ _ _) (by decide) | exact Nat.lt_trans (xL_lt hpr _ _) (by decide)) (by first | omega | assumption | exact Nat.lt_of_le_of_lt (xL_len _ _ _ _ _) (by decide) | exact Nat.lt_trans (xL_lt hpr _ _) (by decide)) dL_law_590 (by decide) (fun hb590 => ?_) (fun hb590 => ?_)
    · skip
      exact absurd (z_end hcnt hp hb577) hb590
    · skip
      refine q_ic E 1 dL_law_593 (by decide) ?_
      refine q_go E (tgt := 598) dL_law_594 (by decide) ?_
      exact K _ _ _ h
end LS
