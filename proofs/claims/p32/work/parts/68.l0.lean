/-! the law: what it asks before its lists; its two rows -/
theorem les_eq : ∀ k, k < 6 → aN (updN (updN (updN (updN (updN (updN (fun _ => 0) 0 3) 1 5) 2 2) 3 1) 4 3) 5 6) k = aN lesF k := fun k hk => by
  rcases (show k = 0 ∨ k = 1 ∨ k = 2 ∨ k = 3 ∨ k = 4 ∨ k = 5 by omega) with rfl | rfl | rfl | rfl | rfl | rfl <;> rfl
theorem mor_eq : ∀ k, k < 6 → aN (updN (updN (updN (updN (updN (updN (fun _ => 0) 0 5) 1 2) 2 0) 3 0) 4 4) 5 0) k = aN morF k := fun k hk => by
  rcases (show k = 0 ∨ k = 1 ∨ k = 2 ∨ k = 3 ∨ k = 4 ∨ k = 5 by omega) with rfl | rfl | rfl | rfl | rfl | rfl <;> rfl
section L0
variable {p : Program} {l : Launch} {e : Env} {s : State} {m : MethodId} {b : Nat} {below : List Frame} {meth : Method} {c : Code} {Q : State → Prop}
variable {g : GK} {A : Nat → Prop}
variable {d0 w1 w2 h0 h1 h2 s0 s1 s2 p0 hh tt r0 : Nat} {la aa : Nat → Nat} {wt mk : Nat → Nat} {cnt pr tol : Nat} {FF : Nat → Nat → Nat} {hf tf rw : Nat → Nat}
set_option maxHeartbeats 4000000 in
set_option maxRecDepth 100000 in
theorem lz_s0 (E : qE g p m c cL_law 13 s #[.ref b] wsL_law RL A) (hI : lzI wt mk cnt pr tol hf tf) (harr : (Cond.arrayClass .int).before #[.ref b] s = true) (K : ∀ l0 m0 : Nat, lzT p l e s m b below meth c Q g A d0 w1 w2 h0 h1 h2 s0 s1 s2 p0 hh tt la aa r0 l0 m0 wt mk cnt pr tol FF hf tf rw 174 [(1, .ref d0), (3, .int (nI cnt)), (4, .int (nI (grw (srO (wkb wt mk pr tol)) (tgO (wkb wt mk pr tol)) pr 12))), (6, .int (nI pr)), (7, .ref l0), (8, .ref m0)]) (H : Heap) (locs : List Loc) (ls : Array Slot) (h : qH g A s (lzA g d0 w1 w2 h0 h1 h2 s0 s1 s2 p0 hh tt la aa r0 wt mk cnt pr tol FF hf tf rw) H locs) (hl : lv_has ls 13 [(0, .ref b), (1, .ref d0), (2, .ref r0), (3, .int (nI cnt)), (4, .int (nI (grw (srO (wkb wt mk pr tol)) (tgO (wkb wt mk pr tol)) pr 12)))]) : W p l e room_1 s m #[.ref b] below meth c H locs 29 41112 Q (F0 m 37 ls []) := by
  obtain ⟨⟨hi1, hi8⟩, hp, ht9, hmk, hwt, hhf, htf, hh0, ht0⟩ := id hI
  have hcnt : cnt ≤ 12 := by omega
  have hpr : pr < 4096 := pr12 hcnt hp
  have hw := wOK_of (wt := wt) (mk := mk) (tol := tol) hpr
  have hil : idl (srO (wkb wt mk pr tol)) (tgO (wkb wt mk pr tol)) pr < 4096 := pr_lt (idl_lt hp) hcnt
  refine lv_aload_n E.1.1 E.1.2.1 dL_law_37 rfl (lv_at hl 1 rfl) ?_
  refine q_bi E 6 dL_law_38 (by decide) ?_
  refine q_ic E 0 dL_law_40 (by decide) ?_
  refine lz_positionA E hI h hl (by exact Nat.le_of_ble_eq_true rfl) (kd := 6) (ix := 0) (by decide) (by rw [x_6]; exact Nat.zero_lt_succ _) dL_law_41 (fun H locs h => ?_)
  refine q_top (w := .int (nI (idl (srO (wkb wt mk pr tol)) (tgO (wkb wt mk pr tol)) pr))) rfl ?_
  refine lv_istore (lv' := [(5, .int (nI (idl (srO (wkb wt mk pr tol)) (tgO (wkb wt mk pr tol)) pr))), (0, .ref b), (1, .ref d0), (2, .ref r0), (3, .int (nI cnt)), (4, .int (nI (grw (srO (wkb wt mk pr tol)) (tgO (wkb wt mk pr tol)) pr 12)))]) E.1.1 E.1.2.1 dL_law_44 hl (by decide) rfl (fun ls hl => ?_)
  refine lv_aload_n E.1.1 E.1.2.1 dL_law_46 rfl (lv_at hl 2 rfl) ?_
  refine lz_debateA E hI h hl (by exact Nat.le_of_ble_eq_true rfl) dL_law_47 (fun H locs h => ?_)
  refine lv_istore (lv' := [(6, .int (nI pr)), (5, .int (nI (idl (srO (wkb wt mk pr tol)) (tgO (wkb wt mk pr tol)) pr))), (0, .ref b), (1, .ref d0), (2, .ref r0), (3, .int (nI cnt)), (4, .int (nI (grw (srO (wkb wt mk pr tol)) (tgO (wkb wt mk pr tol)) pr 12)))]) E.1.1 E.1.2.1 dL_law_50 hl (by decide) rfl (fun ls hl => ?_)
  refine lv_iload E.1.1 E.1.2.1 dL_law_52 (lv_at hl 6 rfl) ?_
  refine lv_iload E.1.1 E.1.2.1 dL_law_54 (lv_at hl 1 rfl) ?_
  refine q_im1 E dL_law_56 ?_
  refine q_xor E dL_law_57 ?_
  refine q_andn E dL_law_58 ?_
  refine q_ne0 E (tgt := 111) (by exact Nat.lt_of_le_of_lt (ldf_le _ _) (Nat.lt_trans (grw_lt _ _ _ _) (by decide))) dL_law_59 (by decide) (fun hb59 => ?_) (fun hb59 => ?_)
  · skip
    exact absurd (z_gi hw hcnt hp) hb59
  · skip
    refine lv_iload E.1.1 E.1.2.1 dL_law_62 (lv_at hl 1 rfl) ?_
    refine lv_aload_n E.1.1 E.1.2.1 dL_law_64 rfl (lv_at hl 3 rfl) ?_
    refine q_ic E 2 dL_law_65 (by decide) ?_
    refine q_ic E 1 dL_law_66 (by decide) ?_
    refine lz_accTA E hI h hl (by exact Nat.le_of_ble_eq_true rfl) (kd := 2) (by decide) dL_law_67 (fun H locs h => ?_)
    refine q_im1 E dL_law_70 ?_
    refine q_xor E dL_law_71 ?_
    refine q_andn E dL_law_72 ?_
    refine q_ne0 E (tgt := 111) (by exact Nat.lt_of_le_of_lt (ldf_le _ _) (Nat.lt_trans hil (by decide))) dL_law_73 (by decide) (fun hb73 => ?_) (fun hb73 => ?_)
    · skip
      exact absurd z_ip hb73
    · skip
      refine lv_aload_n E.1.1 E.1.2.1 dL_law_76 rfl (lv_at hl 3 rfl) ?_
      refine q_ic E 0 dL_law_77 (by decide) ?_
      refine q_ic E 1 dL_law_78 (by decide) ?_
      refine lz_accTA E hI h hl (by exact Nat.le_of_ble_eq_true rfl) (kd := 0) (by decide) dL_law_79 (fun H locs h => ?_)
      refine lv_iload E.1.1 E.1.2.1 dL_law_82 (lv_at hl 6 rfl) ?_
      refine q_ne E (tgt := 111) (by exact Nat.lt_of_le_of_lt (coU_le _ _ _) (by omega)) (by exact Nat.lt_trans (grw_lt _ _ _ _) (by decide)) dL_law_84 (by decide) (fun hb84 => ?_) (fun hb84 => ?_)
      · skip
        exact absurd (z_cg hw hpr) hb84
      · skip
        refine lv_aload_n E.1.1 E.1.2.1 dL_law_87 rfl (lv_at hl 3 rfl) ?_
        refine q_ic E 0 dL_law_88 (by decide) ?_
        refine q_ic E 0 dL_law_89 (by decide) ?_
        refine lz_accFA E hI h hl (by exact Nat.le_of_ble_eq_true rfl) (kd := 0) (by decide) dL_law_90 (fun H locs h => ?_)
        refine lv_aload_n E.1.1 E.1.2.1 dL_law_93 rfl (lv_at hl 3 rfl) ?_
        refine q_ic E 2 dL_law_94 (by decide) ?_
        refine q_ic E 0 dL_law_95 (by decide) ?_
        refine lz_accFA E hI h hl (by exact Nat.le_of_ble_eq_true rfl) (kd := 2) (by decide) dL_law_96 (fun H locs h => ?_)
        refine q_ne E (tgt := 111) (by exact Nat.lt_trans (un_lt hpr _ _) (by decide)) (by exact Nat.lt_trans (un_lt hpr _ _) (by decide)) dL_law_99 (by decide) (fun hb99 => ?_) (fun hb99 => ?_)
        · skip
          exact absurd (z_uu hw hcnt hp) hb99
        · skip
          refine lv_aload_n E.1.1 E.1.2.1 dL_law_102 rfl (lv_at hl 3 rfl) ?_
          refine lv_iload E.1.1 E.1.2.1 dL_law_103 (lv_at hl 1 rfl) ?_
          refine lz_isAdmissibleA E hI h hl (by exact Nat.le_of_ble_eq_true rfl) (n := idl (srO (wkb wt mk pr tol)) (tgO (wkb wt mk pr tol)) pr) (by exact idl_lt hp) dL_law_105 (fun H locs h => ?_)
          refine q_bne E (tgt := 113) dL_law_108 (by decide) (fun hb108 => ?_) (fun hb108 => ?_)
          · skip
            refine q_bi E 6 dL_law_113 (by decide) ?_
            refine q_newa E h (ty := .int) (N := 6) 0 rfl (fun _ => by intro h9; cases h9) rfl harr (by decide) (a0 := (6, .inl (aN (fun _ => 0)))) (fun _ => rfl) (by decide) (Nat.le_of_ble_eq_true rfl) (Nat.le_of_ble_eq_true rfl) dL_law_115 (fun q1 H h => ?_)
            refine lv_dup E.1.1 E.1.2.1 dL_law_117 rfl ?_
            refine q_ic E 0 dL_law_118 (by decide) ?_
            refine q_ic E 3 dL_law_119 (by decide) ?_
            refine q_iast E h 29 (a := q1) (n := 6) (i := 0) (x := 3) (f := (fun _ => 0)) rfl (by decide) (by decide) dL_law_120 (w2 := lzA g d0 w1 w2 h0 h1 h2 s0 s1 s2 p0 hh tt la aa r0 wt mk cnt pr tol FF hf tf rw ++ [(q1, .inl (gI g, 6, .inl (aN (updN (fun _ => 0) 0 3))))]) rfl (fun H locs h => ?_)
            refine lv_dup E.1.1 E.1.2.1 dL_law_121 rfl ?_
            refine q_ic E 1 dL_law_122 (by decide) ?_
            refine q_ic E 5 dL_law_123 (by decide) ?_
            refine q_iast E h 29 (a := q1) (n := 6) (i := 1) (x := 5) (f := updN (fun _ => 0) 0 3) rfl (by decide) (by decide) dL_law_124 (w2 := lzA g d0 w1 w2 h0 h1 h2 s0 s1 s2 p0 hh tt la aa r0 wt mk cnt pr tol FF hf tf rw ++ [(q1, .inl (gI g, 6, .inl (aN (updN (updN (fun _ => 0) 0 3) 1 5))))]) rfl (fun H locs h => ?_)
            refine lv_dup E.1.1 E.1.2.1 dL_law_125 rfl ?_
            refine q_ic E 2 dL_law_126 (by decide) ?_
            refine q_ic E 2 dL_law_127 (by decide) ?_
            refine q_iast E h 29 (a := q1) (n := 6) (i := 2) (x := 2) (f := updN (updN (fun _ => 0) 0 3) 1 5) rfl (by decide) (by decide) dL_law_128 (w2 := lzA g d0 w1 w2 h0 h1 h2 s0 s1 s2 p0 hh tt la aa r0 wt mk cnt pr tol FF hf tf rw ++ [(q1, .inl (gI g, 6, .inl (aN (updN (updN (updN (fun _ => 0) 0 3) 1 5) 2 2))))]) rfl (fun H locs h => ?_)
            refine lv_dup E.1.1 E.1.2.1 dL_law_129 rfl ?_
            refine q_ic E 3 dL_law_130 (by decide) ?_
            refine q_ic E 1 dL_law_131 (by decide) ?_
            refine q_iast E h 29 (a := q1) (n := 6) (i := 3) (x := 1) (f := updN (updN (updN (fun _ => 0) 0 3) 1 5) 2 2) rfl (by decide) (by decide) dL_law_132 (w2 := lzA g d0 w1 w2 h0 h1 h2 s0 s1 s2 p0 hh tt la aa r0 wt mk cnt pr tol FF hf tf rw ++ [(q1, .inl (gI g, 6, .inl (aN (updN (updN (updN (updN (fun _ => 0) 0 3) 1 5) 2 2) 3 1))))]) rfl (fun H locs h => ?_)
            refine lv_dup E.1.1 E.1.2.1 dL_law_133 rfl ?_
            refine q_ic E 4 dL_law_134 (by decide) ?_
            refine q_ic E 3 dL_law_135 (by decide) ?_
            refine q_iast E h 29 (a := q1) (n := 6) (i := 4) (x := 3) (f := updN (updN (updN (updN (fun _ => 0) 0 3) 1 5) 2 2) 3 1) rfl (by decide) (by decide) dL_law_136 (w2 := lzA g d0 w1 w2 h0 h1 h2 s0 s1 s2 p0 hh tt la aa r0 wt mk cnt pr tol FF hf tf rw ++ [(q1, .inl (gI g, 6, .inl (aN (updN (updN (updN (updN (updN (fun _ => 0) 0 3) 1 5) 2 2) 3 1) 4 3))))]) rfl (fun H locs h => ?_)
            refine lv_dup E.1.1 E.1.2.1 dL_law_137 rfl ?_
            refine q_ic E 5 dL_law_138 (by decide) ?_
            refine q_bi E 6 dL_law_139 (by decide) ?_
            refine q_iast E h 29 (a := q1) (n := 6) (i := 5) (x := 6) (f := updN (updN (updN (updN (updN (fun _ => 0) 0 3) 1 5) 2 2) 3 1) 4 3) rfl (by decide) (by decide) dL_law_141 (w2 := lzA g d0 w1 w2 h0 h1 h2 s0 s1 s2 p0 hh tt la aa r0 wt mk cnt pr tol FF hf tf rw ++ [(q1, .inl (gI g, 6, .inl (aN (updN (updN (updN (updN (updN (updN (fun _ => 0) 0 3) 1 5) 2 2) 3 1) 4 3) 5 6))))]) rfl (fun H locs h => ?_)
            refine lv_astore (lv' := [(7, .ref q1), (6, .int (nI pr)), (5, .int (nI (idl (srO (wkb wt mk pr tol)) (tgO (wkb wt mk pr tol)) pr))), (0, .ref b), (1, .ref d0), (2, .ref r0), (3, .int (nI cnt)), (4, .int (nI (grw (srO (wkb wt mk pr tol)) (tgO (wkb wt mk pr tol)) pr 12)))]) E.1.1 E.1.2.1 dL_law_142 hl (by decide) rfl (fun ls hl => ?_)
            refine q_bi E 6 dL_law_144 (by decide) ?_
            refine q_newa E h (ty := .int) (N := 6) 0 rfl (fun _ => by intro h9; cases h9) rfl harr (by decide) (a0 := (6, .inl (aN (fun _ => 0)))) (fun _ => rfl) (by decide) (Nat.le_of_ble_eq_true rfl) (Nat.le_of_ble_eq_true rfl) dL_law_146 (fun q2 H h => ?_)
            refine lv_dup E.1.1 E.1.2.1 dL_law_148 rfl ?_
            refine q_ic E 0 dL_law_149 (by decide) ?_
            refine q_ic E 5 dL_law_150 (by decide) ?_
            refine q_iast E h 30 (a := q2) (n := 6) (i := 0) (x := 5) (f := (fun _ => 0)) rfl (by decide) (by decide) dL_law_151 (w2 := lzA g d0 w1 w2 h0 h1 h2 s0 s1 s2 p0 hh tt la aa r0 wt mk cnt pr tol FF hf tf rw ++ [(q1, .inl (gI g, 6, .inl (aN (updN (updN (updN (updN (updN (updN (fun _ => 0) 0 3) 1 5) 2 2) 3 1) 4 3) 5 6))))] ++ [(q2, .inl (gI g, 6, .inl (aN (updN (fun _ => 0) 0 5))))]) rfl (fun H locs h => ?_)
            refine lv_dup E.1.1 E.1.2.1 dL_law_152 rfl ?_
            refine q_ic E 1 dL_law_153 (by decide) ?_
            refine q_ic E 2 dL_law_154 (by decide) ?_
            refine q_iast E h 30 (a := q2) (n := 6) (i := 1) (x := 2) (f := updN (fun _ => 0) 0 5) rfl (by decide) (by decide) dL_law_155 (w2 := lzA g d0 w1 w2 h0 h1 h2 s0 s1 s2 p0 hh tt la aa r0 wt mk cnt pr tol FF hf tf rw ++ [(q1, .inl (gI g, 6, .inl (aN (updN (updN (updN (updN (updN (updN (fun _ => 0) 0 3) 1 5) 2 2) 3 1) 4 3) 5 6))))] ++ [(q2, .inl (gI g, 6, .inl (aN (updN (updN (fun _ => 0) 0 5) 1 2))))]) rfl (fun H locs h => ?_)
            refine lv_dup E.1.1 E.1.2.1 dL_law_156 rfl ?_
            refine q_ic E 2 dL_law_157 (by decide) ?_
            refine q_ic E 0 dL_law_158 (by decide) ?_
            refine q_iast E h 30 (a := q2) (n := 6) (i := 2) (x := 0) (f := updN (updN (fun _ => 0) 0 5) 1 2) rfl (by decide) (by decide) dL_law_159 (w2 := lzA g d0 w1 w2 h0 h1 h2 s0 s1 s2 p0 hh tt la aa r0 wt mk cnt pr tol FF hf tf rw ++ [(q1, .inl (gI g, 6, .inl (aN (updN (updN (updN (updN (updN (updN (fun _ => 0) 0 3) 1 5) 2 2) 3 1) 4 3) 5 6))))] ++ [(q2, .inl (gI g, 6, .inl (aN (updN (updN (updN (fun _ => 0) 0 5) 1 2) 2 0))))]) rfl (fun H locs h => ?_)
            refine lv_dup E.1.1 E.1.2.1 dL_law_160 rfl ?_
            refine q_ic E 3 dL_law_161 (by decide) ?_
            refine q_ic E 0 dL_law_162 (by decide) ?_
            refine q_iast E h 30 (a := q2) (n := 6) (i := 3) (x := 0) (f := updN (updN (updN (fun _ => 0) 0 5) 1 2) 2 0) rfl (by decide) (by decide) dL_law_163 (w2 := lzA g d0 w1 w2 h0 h1 h2 s0 s1 s2 p0 hh tt la aa r0 wt mk cnt pr tol FF hf tf rw ++ [(q1, .inl (gI g, 6, .inl (aN (updN (updN (updN (updN (updN (updN (fun _ => 0) 0 3) 1 5) 2 2) 3 1) 4 3) 5 6))))] ++ [(q2, .inl (gI g, 6, .inl (aN (updN (updN (updN (updN (fun _ => 0) 0 5) 1 2) 2 0) 3 0))))]) rfl (fun H locs h => ?_)
            refine lv_dup E.1.1 E.1.2.1 dL_law_164 rfl ?_
            refine q_ic E 4 dL_law_165 (by decide) ?_
            refine q_ic E 4 dL_law_166 (by decide) ?_
            refine q_iast E h 30 (a := q2) (n := 6) (i := 4) (x := 4) (f := updN (updN (updN (updN (fun _ => 0) 0 5) 1 2) 2 0) 3 0) rfl (by decide) (by decide) dL_law_167 (w2 := lzA g d0 w1 w2 h0 h1 h2 s0 s1 s2 p0 hh tt la aa r0 wt mk cnt pr tol FF hf tf rw ++ [(q1, .inl (gI g, 6, .inl (aN (updN (updN (updN (updN (updN (updN (fun _ => 0) 0 3) 1 5) 2 2) 3 1) 4 3) 5 6))))] ++ [(q2, .inl (gI g, 6, .inl (aN (updN (updN (updN (updN (updN (fun _ => 0) 0 5) 1 2) 2 0) 3 0) 4 4))))]) rfl (fun H locs h => ?_)
            refine lv_dup E.1.1 E.1.2.1 dL_law_168 rfl ?_
            refine q_ic E 5 dL_law_169 (by decide) ?_
            refine q_ic E 0 dL_law_170 (by decide) ?_
            refine q_iast E h 30 (a := q2) (n := 6) (i := 5) (x := 0) (f := updN (updN (updN (updN (updN (fun _ => 0) 0 5) 1 2) 2 0) 3 0) 4 4) rfl (by decide) (by decide) dL_law_171 (w2 := lzA g d0 w1 w2 h0 h1 h2 s0 s1 s2 p0 hh tt la aa r0 wt mk cnt pr tol FF hf tf rw ++ [(q1, .inl (gI g, 6, .inl (aN (updN (updN (updN (updN (updN (updN (fun _ => 0) 0 3) 1 5) 2 2) 3 1) 4 3) 5 6))))] ++ [(q2, .inl (gI g, 6, .inl (aN (updN (updN (updN (updN (updN (updN (fun _ => 0) 0 5) 1 2) 2 0) 3 0) 4 4) 5 0))))]) rfl (fun H locs h => ?_)
            refine lv_astore (lv' := [(8, .ref q2), (7, .ref q1), (6, .int (nI pr)), (5, .int (nI (idl (srO (wkb wt mk pr tol)) (tgO (wkb wt mk pr tol)) pr))), (0, .ref b), (1, .ref d0), (2, .ref r0), (3, .int (nI cnt)), (4, .int (nI (grw (srO (wkb wt mk pr tol)) (tgO (wkb wt mk pr tol)) pr 12)))]) E.1.1 E.1.2.1 dL_law_172 hl (by decide) rfl (fun ls hl => ?_)
            have h := qH.arr (qH.arr h 29 (a := q1) (f := aN (updN (updN (updN (updN (updN (updN (fun _ => 0) 0 3) 1 5) 2 2) 3 1) 4 3) 5 6)) (f' := aN lesF) rfl les_eq) 30 (a := q2) (f := aN (updN (updN (updN (updN (updN (updN (fun _ => 0) 0 5) 1 2) 2 0) 3 0) 4 4) 5 0)) (f' := aN morF) rfl mor_eq
            have h : qH g A s (lzB g d0 w1 w2 h0 h1 h2 s0 s1 s2 p0 hh tt la aa r0 q1 q2 wt mk cnt pr tol FF hf tf rw) _ _ := h
            exact K q1 q2 _ _ _ h (lv_sub hl [5, 7, 8, 2, 1, 0] rfl)
          · skip
            exact absurd ((z_ia hw hcnt hp).symm.trans hb108) (by decide)
end L0
