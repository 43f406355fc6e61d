/-! the loop of the law -/
theorem lp_cmp {i L : Nat} (hL : L ≤ 2048) (hi : i ≤ 4096) (h : ¬ (Int32.ofNat L - nI 4 < nI i)) : i + 4 ≤ L := by
  rcases Nat.lt_or_ge L 4 with h4 | h4
  · refine absurd ?_ h
    refine Int32.lt_of_lt_of_le (b := 0) ?_ (nI_pos' (by omega))
    rcases (show L = 0 ∨ L = 1 ∨ L = 2 ∨ L = 3 by omega) with rfl | rfl | rfl | rfl <;> decide
  · have e : Int32.ofNat L - nI 4 = nI (L - 4) := pk_sub h4
    rw [e, nI_ltI (by omega) (by omega)] at h
    omega
theorem and31 (z : Int32) : ∃ k, k < 32 ∧ z &&& nI 31 = nI k := by
  refine ⟨(z.toBitVec &&& 31#32).toNat, ?_, ?_⟩
  · rw [BitVec.toNat_and]
    exact Nat.lt_of_le_of_lt Nat.and_le_right (by decide)
  · apply q_ext
    rw [Int32.toBitVec_and, q_bv, q_bv, BitVec.ofNat_toNat, BitVec.setWidth_eq]
set_option maxHeartbeats 4000000 in
set_option maxRecDepth 100000 in
theorem lw_loop (p : Program) (l : Launch) (e : Env) (s : State) (m : MethodId) (b : Nat) (below : List Frame) (meth : Method) (c : Code) (Q : State → Prop) (g : GK) (A : Nat → Prop) (d0 w1 w2 h0 h1 h2 s0 s1 s2 p0 hh tt : Nat) (la aa : Nat → Nat) (m0 mw ma mc mf mr mt mar mbe mou oo od : Nat) (L : Nat) (xs : Nat → Int32) (hE : lwE l p s m b c g A L xs)
    (hend : ∀ (cells slots : Nat) (H : Heap) (locs : List Loc) (ls : Array Slot), cells ≤ 601024 → slots ≤ 7293033 → (∀ q ∈ locs, A q.base) → W p l e room_1 s m #[.ref b] below meth c H locs cells slots Q (F0 m 1713 ls [])) :
    ∀ (n i cells slots : Nat), L < i + 4 * n + 4 → i ≤ 4096 → cells + n ≤ 601024 → slots + 6 * n ≤ 7293033 → lwG p l e s m b below meth c Q g A d0 w1 w2 h0 h1 h2 s0 s1 s2 p0 hh tt la aa m0 mw ma mc mf mr mt mar mbe mou oo od i cells slots 28 := by
  intro n
  induction n with
  | zero =>
    intro i cells slots hn hi hc hs wt mk cnt pr tol sd kn LL FF hf tf sP sF sS sG th cs ff fr to_ ar be ou fo fd H locs ls hI h hl
    have hE0 := hE
    obtain ⟨E, EX, hlt, hX, hbl, hbA, hL9⟩ := hE
    refine lv_iload E.1.1 E.1.2.1 dL_law_28 (lv_at hl 5 rfl) ?_
    refine lv_aload_n E.1.1 E.1.2.1 dL_law_30 rfl (lv_at hl 0 rfl) ?_
    refine va_slen E.1.1 E.1.2.1 hX hbl hbA h.2.2 dL_law_31 ?_
    refine q_ic E 4 dL_law_32 (by decide) ?_
    refine lv_isub E.1.1 E.1.2.1 dL_law_33 ?_
    refine lv_icmp_gt (tgt := 1713) E.1.1 E.1.2.1 dL_law_34 (by decide) (fun hb => ?_) (fun hb => ?_)
    · exact hend cells slots H locs ls (by omega) (by omega) h.2.2.2.2
    · exact absurd (lp_cmp hL9 hi hb) (by omega)
  | succ n ih =>
    intro i cells slots hn hi hc hs wt mk cnt pr tol sd kn LL FF hf tf sP sF sS sG th cs ff fr to_ ar be ou fo fd H locs ls hI h hl
    have hE0 := hE
    obtain ⟨E, EX, hlt, hX, hbl, hbA, hL9⟩ := hE
    refine lv_iload E.1.1 E.1.2.1 dL_law_28 (lv_at hl 5 rfl) ?_
    refine lv_aload_n E.1.1 E.1.2.1 dL_law_30 rfl (lv_at hl 0 rfl) ?_
    refine va_slen E.1.1 E.1.2.1 hX hbl hbA h.2.2 dL_law_31 ?_
    refine q_ic E 4 dL_law_32 (by decide) ?_
    refine lv_isub E.1.1 E.1.2.1 dL_law_33 ?_
    refine lv_icmp_gt (tgt := 1713) E.1.1 E.1.2.1 dL_law_34 (by decide) (fun hb => ?_) (fun hb => ?_)
    · exact hend cells slots H locs ls (by omega) (by omega) h.2.2.2.2
    have hiL := lp_cmp hL9 hi hb
    have kk : lwG p l e s m b below meth c Q g A d0 w1 w2 h0 h1 h2 s0 s1 s2 p0 hh tt la aa m0 mw ma mc mf mr mt mar mbe mou oo od i (cells + 1) (slots + 6) 1707 := by
      intro wt mk cnt pr tol sd kn LL FF hf tf sP sF sS sG th cs ff fr to_ ar be ou fo fd H locs ls hI h hl
      refine lv_iinc (v := nI (i + 4)) (lv' := [(5, .int (nI (i + 4))), (0, .ref b), (1, .ref d0), (2, .ref m0), (3, .ref oo), (4, .ref od)]) E.1.1 E.1.2.1 dL_law_1707 hl (k := 5) rfl (nI_add i 4) (by decide) rfl (fun ls hl => ?_)
      refine q_go E (tgt := 28) dL_law_1710 (by decide) ?_
      exact ih (i + 4) (cells + 1) (slots + 6) (by omega) (by omega) (by omega) (by omega) wt mk cnt pr tol sd kn LL FF hf tf sP sF sS sG th cs ff fr to_ ar be ou fo fd H locs ls hI h (lv_sub hl [1, 2, 3, 4, 5, 0] rfl)
    refine lv_aload_n E.1.1 E.1.2.1 dL_law_37 rfl (lv_at hl 0 rfl) ?_
    refine lv_iload E.1.1 E.1.2.1 dL_law_38 (lv_at hl 5 rfl) ?_
    refine q_sld E h hX hbl hbA (i := i) (by omega) hL9 rfl dL_law_40 ?_
    refine q_bi E 31 dL_law_41 (by decide) ?_
    refine lv_iand E.1.1 E.1.2.1 dL_law_43 ?_
    obtain ⟨k, hk32, hke⟩ := and31 (xs i)
    rw [hke]
    have hce : cells + 1 ≤ 601024 := by omega
    have hse : slots + 6 ≤ 7293033 := by omega
    rcases (show k = 0 ∨ k = 1 ∨ k = 2 ∨ k = 3 ∨ k = 4 ∨ k = 5 ∨ k = 6 ∨ k = 7 ∨ k = 8 ∨ k = 9 ∨ k = 10 ∨ k = 11 ∨ k = 12 ∨ k = 13 ∨ k = 14 ∨ k = 15 ∨ k = 16 ∨ k = 17 ∨ k = 18 ∨ k = 19 ∨ k = 20 ∨ k = 21 ∨ k = 22 ∨ k = 23 ∨ k = 24 ∨ k = 25 ∨ k = 26 ∨ k = 27 ∨ k = 28 ∨ 29 ≤ k by omega) with rfl | rfl | rfl | rfl | rfl | rfl | rfl | rfl | rfl | rfl | rfl | rfl | rfl | rfl | rfl | rfl | rfl | rfl | rfl | rfl | rfl | rfl | rfl | rfl | rfl | rfl | rfl | rfl | rfl | hk
    · refine lv_tableIn (off := 132) (tgt := 176) E.1.1 E.1.2.1 dL_law_44 (by decide) (by decide) rfl (by decide) ?_
      exact lwc_addArgument p l e s m b below meth c Q g A d0 w1 w2 h0 h1 h2 s0 s1 s2 p0 hh tt la aa m0 mw ma mc mf mr mt mar mbe mou oo od L xs hE0 i cells slots hiL hce hse kk wt mk cnt pr tol sd kn LL FF hf tf sP sF sS sG th cs ff fr to_ ar be ou fo fd H locs ls hI h hl
    · refine lv_tableIn (off := 188) (tgt := 232) E.1.1 E.1.2.1 dL_law_44 (by decide) (by decide) rfl (by decide) ?_
      exact lwc_setWeight p l e s m b below meth c Q g A d0 w1 w2 h0 h1 h2 s0 s1 s2 p0 hh tt la aa m0 mw ma mc mf mr mt mar mbe mou oo od L xs hE0 i cells slots hiL hce hse kk wt mk cnt pr tol sd kn LL FF hf tf sP sF sS sG th cs ff fr to_ ar be ou fo fd H locs ls hI h hl
    · refine lv_tableIn (off := 256) (tgt := 300) E.1.1 E.1.2.1 dL_law_44 (by decide) (by decide) rfl (by decide) ?_
      exact lwc_put p l e s m b below meth c Q g A d0 w1 w2 h0 h1 h2 s0 s1 s2 p0 hh tt la aa m0 mw ma mc mf mr mt mar mbe mou oo od L xs hE0 i cells slots hiL hce hse kk wt mk cnt pr tol sd kn LL FF hf tf sP sF sS sG th cs ff fr to_ ar be ou fo fd H locs ls hI h hl
    · refine lv_tableIn (off := 347) (tgt := 391) E.1.1 E.1.2.1 dL_law_44 (by decide) (by decide) rfl (by decide) ?_
      exact lwc_attack p l e s m b below meth c Q g A d0 w1 w2 h0 h1 h2 s0 s1 s2 p0 hh tt la aa m0 mw ma mc mf mr mt mar mbe mou oo od L xs hE0 i cells slots hiL hce hse kk wt mk cnt pr tol sd kn LL FF hf tf sP sF sS sG th cs ff fr to_ ar be ou fo fd H locs ls hI h hl
    · refine lv_tableIn (off := 450) (tgt := 494) E.1.1 E.1.2.1 dL_law_44 (by decide) (by decide) rfl (by decide) ?_
      exact lwc_setTolerance p l e s m b below meth c Q g A d0 w1 w2 h0 h1 h2 s0 s1 s2 p0 hh tt la aa m0 mw ma mc mf mr mt mar mbe mou oo od L xs hE0 i cells slots hiL hce hse kk wt mk cnt pr tol sd kn LL FF hf tf sP sF sS sG th cs ff fr to_ ar be ou fo fd H locs ls hI h hl
    · refine lv_tableIn (off := 506) (tgt := 550) E.1.1 E.1.2.1 dL_law_44 (by decide) (by decide) rfl (by decide) ?_
      exact lwc_argumentCount p l e s m b below meth c Q g A d0 w1 w2 h0 h1 h2 s0 s1 s2 p0 hh tt la aa m0 mw ma mc mf mr mt mar mbe mou oo od L xs hE0 i cells slots hiL hce hse kk wt mk cnt pr tol sd kn LL FF hf tf sP sF sS sG th cs ff fr to_ ar be ou fo fd H locs ls hI h hl
    · refine lv_tableIn (off := 519) (tgt := 563) E.1.1 E.1.2.1 dL_law_44 (by decide) (by decide) rfl (by decide) ?_
      exact lwc_debate p l e s m b below meth c Q g A d0 w1 w2 h0 h1 h2 s0 s1 s2 p0 hh tt la aa m0 mw ma mc mf mr mt mar mbe mou oo od L xs hE0 i cells slots hiL hce hse kk wt mk cnt pr tol sd kn LL FF hf tf sP sF sS sG th cs ff fr to_ ar be ou fo fd H locs ls hI h hl
    · refine lv_tableIn (off := 532) (tgt := 576) E.1.1 E.1.2.1 dL_law_44 (by decide) (by decide) rfl (by decide) ?_
      exact lwc_attackers p l e s m b below meth c Q g A d0 w1 w2 h0 h1 h2 s0 s1 s2 p0 hh tt la aa m0 mw ma mc mf mr mt mar mbe mou oo od L xs hE0 i cells slots hiL hce hse kk wt mk cnt pr tol sd kn LL FF hf tf sP sF sS sG th cs ff fr to_ ar be ou fo fd H locs ls hI h hl
    · refine lv_tableIn (off := 588) (tgt := 632) E.1.1 E.1.2.1 dL_law_44 (by decide) (by decide) rfl (by decide) ?_
      exact lwc_attacked p l e s m b below meth c Q g A d0 w1 w2 h0 h1 h2 s0 s1 s2 p0 hh tt la aa m0 mw ma mc mf mr mt mar mbe mou oo od L xs hE0 i cells slots hiL hce hse kk wt mk cnt pr tol sd kn LL FF hf tf sP sF sS sG th cs ff fr to_ ar be ou fo fd H locs ls hI h hl
    · refine lv_tableIn (off := 644) (tgt := 688) E.1.1 E.1.2.1 dL_law_44 (by decide) (by decide) rfl (by decide) ?_
      exact lwc_attackCount p l e s m b below meth c Q g A d0 w1 w2 h0 h1 h2 s0 s1 s2 p0 hh tt la aa m0 mw ma mc mf mr mt mar mbe mou oo od L xs hE0 i cells slots hiL hce hse kk wt mk cnt pr tol sd kn LL FF hf tf sP sF sS sG th cs ff fr to_ ar be ou fo fd H locs ls hI h hl
    · refine lv_tableIn (off := 657) (tgt := 701) E.1.1 E.1.2.1 dL_law_44 (by decide) (by decide) rfl (by decide) ?_
      exact lwc_isFree p l e s m b below meth c Q g A d0 w1 w2 h0 h1 h2 s0 s1 s2 p0 hh tt la aa m0 mw ma mc mf mr mt mar mbe mou oo od L xs hE0 i cells slots hiL hce hse kk wt mk cnt pr tol sd kn LL FF hf tf sP sF sS sG th cs ff fr to_ ar be ou fo fd H locs ls hI h hl
    · refine lv_tableIn (off := 720) (tgt := 764) E.1.1 E.1.2.1 dL_law_44 (by decide) (by decide) rfl (by decide) ?_
      exact lwc_defended p l e s m b below meth c Q g A d0 w1 w2 h0 h1 h2 s0 s1 s2 p0 hh tt la aa m0 mw ma mc mf mr mt mar mbe mou oo od L xs hE0 i cells slots hiL hce hse kk wt mk cnt pr tol sd kn LL FF hf tf sP sF sS sG th cs ff fr to_ ar be ou fo fd H locs ls hI h hl
    · refine lv_tableIn (off := 776) (tgt := 820) E.1.1 E.1.2.1 dL_law_44 (by decide) (by decide) rfl (by decide) ?_
      exact lwc_isAdmissible p l e s m b below meth c Q g A d0 w1 w2 h0 h1 h2 s0 s1 s2 p0 hh tt la aa m0 mw ma mc mf mr mt mar mbe mou oo od L xs hE0 i cells slots hiL hce hse kk wt mk cnt pr tol sd kn LL FF hf tf sP sF sS sG th cs ff fr to_ ar be ou fo fd H locs ls hI h hl
    · refine lv_tableIn (off := 839) (tgt := 883) E.1.1 E.1.2.1 dL_law_44 (by decide) (by decide) rfl (by decide) ?_
      exact lwc_label p l e s m b below meth c Q g A d0 w1 w2 h0 h1 h2 s0 s1 s2 p0 hh tt la aa m0 mw ma mc mf mr mt mar mbe mou oo od L xs hE0 i cells slots hiL hce hse kk wt mk cnt pr tol sd kn LL FF hf tf sP sF sS sG th cs ff fr to_ ar be ou fo fd H locs ls hI h hl
    · refine lv_tableIn (off := 907) (tgt := 951) E.1.1 E.1.2.1 dL_law_44 (by decide) (by decide) rfl (by decide) ?_
      exact lwc_repair p l e s m b below meth c Q g A d0 w1 w2 h0 h1 h2 s0 s1 s2 p0 hh tt la aa m0 mw ma mc mf mr mt mar mbe mou oo od L xs hE0 i cells slots hiL hce hse kk wt mk cnt pr tol sd kn LL FF hf tf sP sF sS sG th cs ff fr to_ ar be ou fo fd H locs ls hI h hl
    · refine lv_tableIn (off := 963) (tgt := 1007) E.1.1 E.1.2.1 dL_law_44 (by decide) (by decide) rfl (by decide) ?_
      exact lwc_positions p l e s m b below meth c Q g A d0 w1 w2 h0 h1 h2 s0 s1 s2 p0 hh tt la aa m0 mw ma mc mf mr mt mar mbe mou oo od L xs hE0 i cells slots hiL hce hse kk wt mk cnt pr tol sd kn LL FF hf tf sP sF sS sG th cs ff fr to_ ar be ou fo fd H locs ls hI h hl
    · refine lv_tableIn (off := 1019) (tgt := 1063) E.1.1 E.1.2.1 dL_law_44 (by decide) (by decide) rfl (by decide) ?_
      exact lwc_position p l e s m b below meth c Q g A d0 w1 w2 h0 h1 h2 s0 s1 s2 p0 hh tt la aa m0 mw ma mc mf mr mt mar mbe mou oo od L xs hE0 i cells slots hiL hce hse kk wt mk cnt pr tol sd kn LL FF hf tf sP sF sS sG th cs ff fr to_ ar be ou fo fd H locs ls hI h hl
    · refine lv_tableIn (off := 1087) (tgt := 1131) E.1.1 E.1.2.1 dL_law_44 (by decide) (by decide) rfl (by decide) ?_
      exact lwc_accepted p l e s m b below meth c Q g A d0 w1 w2 h0 h1 h2 s0 s1 s2 p0 hh tt la aa m0 mw ma mc mf mr mt mar mbe mou oo od L xs hE0 i cells slots hiL hce hse kk wt mk cnt pr tol sd kn LL FF hf tf sP sF sS sG th cs ff fr to_ ar be ou fo fd H locs ls hI h hl
    · refine lv_tableIn (off := 1171) (tgt := 1215) E.1.1 E.1.2.1 dL_law_44 (by decide) (by decide) rfl (by decide) ?_
      exact lwc_heaviest p l e s m b below meth c Q g A d0 w1 w2 h0 h1 h2 s0 s1 s2 p0 hh tt la aa m0 mw ma mc mf mr mt mar mbe mou oo od L xs hE0 i cells slots hiL hce hse kk wt mk cnt pr tol sd kn LL FF hf tf sP sF sS sG th cs ff fr to_ ar be ou fo fd H locs ls hI h hl
    · refine lv_tableIn (off := 1227) (tgt := 1271) E.1.1 E.1.2.1 dL_law_44 (by decide) (by decide) rfl (by decide) ?_
      exact lwc_support p l e s m b below meth c Q g A d0 w1 w2 h0 h1 h2 s0 s1 s2 p0 hh tt la aa m0 mw ma mc mf mr mt mar mbe mou oo od L xs hE0 i cells slots hiL hce hse kk wt mk cnt pr tol sd kn LL FF hf tf sP sF sS sG th cs ff fr to_ ar be ou fo fd H locs ls hI h hl
    · refine lv_tableIn (off := 1304) (tgt := 1348) E.1.1 E.1.2.1 dL_law_44 (by decide) (by decide) rfl (by decide) ?_
      exact lwc_round p l e s m b below meth c Q g A d0 w1 w2 h0 h1 h2 s0 s1 s2 p0 hh tt la aa m0 mw ma mc mf mr mt mar mbe mou oo od L xs hE0 i cells slots hiL hce hse kk wt mk cnt pr tol sd kn LL FF hf tf sP sF sS sG th cs ff fr to_ ar be ou fo fd H locs ls hI h hl
    · refine lv_tableIn (off := 1360) (tgt := 1404) E.1.1 E.1.2.1 dL_law_44 (by decide) (by decide) rfl (by decide) ?_
      exact lwc_rounds p l e s m b below meth c Q g A d0 w1 w2 h0 h1 h2 s0 s1 s2 p0 hh tt la aa m0 mw ma mc mf mr mt mar mbe mou oo od L xs hE0 i cells slots hiL hce hse kk wt mk cnt pr tol sd kn LL FF hf tf sP sF sS sG th cs ff fr to_ ar be ou fo fd H locs ls hI h hl
    · refine lv_tableIn (off := 1373) (tgt := 1417) E.1.1 E.1.2.1 dL_law_44 (by decide) (by decide) rfl (by decide) ?_
      exact lwc_wins p l e s m b below meth c Q g A d0 w1 w2 h0 h1 h2 s0 s1 s2 p0 hh tt la aa m0 mw ma mc mf mr mt mar mbe mou oo od L xs hE0 i cells slots hiL hce hse kk wt mk cnt pr tol sd kn LL FF hf tf sP sF sS sG th cs ff fr to_ ar be ou fo fd H locs ls hI h hl
    · refine lv_tableIn (off := 1436) (tgt := 1480) E.1.1 E.1.2.1 dL_law_44 (by decide) (by decide) rfl (by decide) ?_
      exact lwc_silence p l e s m b below meth c Q g A d0 w1 w2 h0 h1 h2 s0 s1 s2 p0 hh tt la aa m0 mw ma mc mf mr mt mar mbe mou oo od L xs hE0 i cells slots hiL hce hse kk wt mk cnt pr tol sd kn LL FF hf tf sP sF sS sG th cs ff fr to_ ar be ou fo fd H locs ls hI h hl
    · refine lv_tableIn (off := 1492) (tgt := 1536) E.1.1 E.1.2.1 dL_law_44 (by decide) (by decide) rfl (by decide) ?_
      exact lwc_tolerable p l e s m b below meth c Q g A d0 w1 w2 h0 h1 h2 s0 s1 s2 p0 hh tt la aa m0 mw ma mc mf mr mt mar mbe mou oo od L xs hE0 i cells slots hiL hce hse kk wt mk cnt pr tol sd kn LL FF hf tf sP sF sS sG th cs ff fr to_ ar be ou fo fd H locs ls hI h hl
    · refine lv_tableIn (off := 1548) (tgt := 1592) E.1.1 E.1.2.1 dL_law_44 (by decide) (by decide) rfl (by decide) ?_
      exact lwc_leads p l e s m b below meth c Q g A d0 w1 w2 h0 h1 h2 s0 s1 s2 p0 hh tt la aa m0 mw ma mc mf mr mt mar mbe mou oo od L xs hE0 i cells slots hiL hce hse kk wt mk cnt pr tol sd kn LL FF hf tf sP sF sS sG th cs ff fr to_ ar be ou fo fd H locs ls hI h hl
    · refine lv_tableIn (off := 1623) (tgt := 1667) E.1.1 E.1.2.1 dL_law_44 (by decide) (by decide) rfl (by decide) ?_
      exact lwc_even p l e s m b below meth c Q g A d0 w1 w2 h0 h1 h2 s0 s1 s2 p0 hh tt la aa m0 mw ma mc mf mr mt mar mbe mou oo od L xs hE0 i cells slots hiL hce hse kk wt mk cnt pr tol sd kn LL FF hf tf sP sF sS sG th cs ff fr to_ ar be ou fo fd H locs ls hI h hl
    · refine lv_tableIn (off := 1636) (tgt := 1680) E.1.1 E.1.2.1 dL_law_44 (by decide) (by decide) rfl (by decide) ?_
      exact lwc_odd p l e s m b below meth c Q g A d0 w1 w2 h0 h1 h2 s0 s1 s2 p0 hh tt la aa m0 mw ma mc mf mr mt mar mbe mou oo od L xs hE0 i cells slots hiL hce hse kk wt mk cnt pr tol sd kn LL FF hf tf sP sF sS sG th cs ff fr to_ ar be ou fo fd H locs ls hI h hl
    · refine lv_tableIn (off := 1649) (tgt := 1693) E.1.1 E.1.2.1 dL_law_44 (by decide) (by decide) rfl (by decide) ?_
      exact lwc_digest p l e s m b below meth c Q g A d0 w1 w2 h0 h1 h2 s0 s1 s2 p0 hh tt la aa m0 mw ma mc mf mr mt mar mbe mou oo od L xs hE0 i cells slots hiL hce hse kk wt mk cnt pr tol sd kn LL FF hf tf sP sF sS sG th cs ff fr to_ ar be ou fo fd H locs ls hI h hl
    · refine lv_tableOut (tgt := 1707) E.1.1 E.1.2.1 dL_law_44 (Or.inr (by rw [nI_toInt (by omega)]; omega)) (by decide) ?_
      refine W.widen (k := cells + 1) (n := slots + 6) (by omega) (by omega) ?_
      exact kk wt mk cnt pr tol sd kn LL FF hf tf sP sF sS sG th cs ff fr to_ ar be ou fo fd H locs ls hI h hl
