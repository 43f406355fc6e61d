/-! pure 14: the lists, three: ideal; all of them -/
theorem coU_tb {f : Nat → Nat} {al i : Nat} : ∀ {n : Nat}, (coU f al n).testBit i = true ↔ al.testBit i = true ∧ ∀ k, k < n → (f k).testBit i = true
  | 0 => ⟨fun h => ⟨h, fun k hk => absurd hk (Nat.not_lt_zero k)⟩, fun h => h.1⟩
  | n + 1 => by
    show (coU f al n &&& f n).testBit i = true ↔ _
    rw [Nat.testBit_and, Bool.and_eq_true, coU_tb (n := n)]
    constructor
    · rintro ⟨⟨h1, h2⟩, h3⟩
      refine ⟨h1, fun k hk => ?_⟩
      by_cases e : k = n
      · rw [e]; exact h3
      · exact h2 k (by omega)
    · rintro ⟨h1, h2⟩
      exact ⟨⟨h1, fun k hk => h2 k (by omega)⟩, h2 n (Nat.lt_succ_self n)⟩
theorem idU_max {P : Nat → Bool} {g : Nat} (hg12 : g < 4096) (hg : P g = true) (hm : ∀ s, P s = true → sub s g) : ∀ n, sub (idU P n) g ∧ (g < n → idU P n = g)
  | 0 => ⟨fun i hi => by rw [show idU P 0 = 0 from rfl, Nat.zero_testBit] at hi; exact absurd hi (by decide), fun h => absurd h (Nat.not_lt_zero g)⟩
  | n + 1 => by
    obtain ⟨h1, h2⟩ := idU_max hg12 hg hm n
    by_cases hp : P n = true
    · by_cases hq : pc (idU P n) < pc n
      · rw [idU_t hp hq]
        refine ⟨hm n hp, fun h => ?_⟩
        by_cases e : g = n
        · exact e.symm
        · rw [h2 (by omega)] at hq
          have := pcU_mono (hm n hp) 12
          exact absurd hq (Nat.not_lt.mpr this)
      · rw [idU_f2 (Nat.le_of_not_lt hq)]
        refine ⟨h1, fun h => ?_⟩
        by_cases e : g = n
        · by_cases e2 : idU P n = g
          · exact e2
          · refine absurd ?_ hq
            have h9 := pc_lt_of hg12 h1 e2
            rw [e] at h9
            exact h9
        · exact h2 (by omega)
    · rw [idU_f1 (Bool.eq_false_iff.mpr hp)]
      refine ⟨h1, fun h => ?_⟩
      by_cases e : g = n
      · rw [e] at hg; exact absurd hg hp
      · exact h2 (by omega)
section P14
variable {sr tg : Nat → Nat} {pr cnt sf : Nat}
theorem gpa_sub {n : Nat} : ∀ k, sub (gpa sr tg pr k n) n
  | 0 => sub_rf n
  | k + 1 => fun i hi => by
    have h : (gpa sr tg pr k n &&& gby sr tg pr (gpa sr tg pr k n)).testBit i = true := hi
    rw [Nat.testBit_and, Bool.and_eq_true] at h
    exact gpa_sub k i h.1
theorem gpa_has {n s : Nat} (h1 : sub s n) (h2 : sub s (gby sr tg pr s)) : ∀ k, sub s (gpa sr tg pr k n)
  | 0 => h1
  | k + 1 => fun i hi => by
    show (gpa sr tg pr k n &&& gby sr tg pr (gpa sr tg pr k n)).testBit i = true
    rw [Nat.testBit_and, Bool.and_eq_true]
    exact ⟨gpa_has h1 h2 k i hi, gby_mono (gpa_has h1 h2 k) i (h2 i hi)⟩
theorem e_ide (hw : wOK sr tg pr) (hc : cnt ≤ 12) (hp : pr < 2 ^ cnt) : gpa sr tg pr 12 (coU (gl (lPre sr tg pr)) pr (lPre sr tg pr).length) = idU (mI sr tg pr cnt) (2 ^ cnt) := by
  have hp12 := pr12 hc hp
  have hco : mCo sr tg pr cnt (2 ^ cnt) = coU (gl (lPre sr tg pr)) pr (lPre sr tg pr).length := by
    unfold mCo
    rw [e_pre hw hc hp]
  have h0 : arQ sr tg pr 0 = true := (arQ_iff hw hp12).mpr ⟨fun i hi => by rw [Nat.zero_testBit] at hi; exact absurd hi (by decide), fun a b ha _ _ => by rw [Nat.zero_testBit] at ha; exact absurd ha (by decide), fun i hi => by rw [Nat.zero_testBit] at hi; exact absurd hi (by decide)⟩
  obtain ⟨t, ht, _⟩ := pre_ext hw hc hp 13 0 (by omega) h0
  have htL : t ∈ lPre sr tg pr := by
    rw [e_pre hw hc hp]
    exact sel_mem.mpr ⟨sub_lt (sub_ldf.mpr (mP_in hw hp12 ht)) hp, ht⟩
  obtain ⟨j, hj, hjt⟩ := mem_gl htL
  have hmI : ∀ s, mI sr tg pr cnt s = true ↔ arQ sr tg pr s = true ∧ sub s (coU (gl (lPre sr tg pr)) pr (lPre sr tg pr).length) := fun s => by
    unfold mI
    rw [Bool.and_eq_true, beq_iff_eq, hco, sub_ldf]
  have hcp : sub (coU (gl (lPre sr tg pr)) pr (lPre sr tg pr).length) pr := fun i hi => (coU_tb.mp hi).1
  have hct : sub (coU (gl (lPre sr tg pr)) pr (lPre sr tg pr).length) t := fun i hi => by
    have := (coU_tb.mp hi).2 j hj
    rw [hjt] at this
    exact this
  generalize coU (gl (lPre sr tg pr)) pr (lPre sr tg pr).length = co at hmI hcp hct
  have hco12 : co < 4096 := sub_lt (n := 12) (sub_ldf.mpr hcp) hp12
  have hg := gpa_12 (sr := sr) (tg := tg) (pr := pr) hco12
  have hgc := gpa_sub (sr := sr) (tg := tg) (pr := pr) (n := co) 12
  have hgm := fun s (h1 : sub s co) (h2 : sub s (gby sr tg pr s)) => gpa_has (pr := pr) h1 h2 12
  generalize gpa sr tg pr 12 co = gg at hg hgc hgm
  have hgg : sub gg (gby sr tg pr gg) := fun i hi => by
    rw [← hg, Nat.testBit_and, Bool.and_eq_true] at hi
    exact hi.2
  have hgA : arQ sr tg pr gg = true := (arQ_iff hw hp12).mpr ⟨sub_tr hgc hcp, fre_sub (sub_tr hgc hct) ((arQ_iff hw hp12).mp (mP_arQ ht)).2.1, hgg⟩
  have hlt : gg < 2 ^ cnt := sub_lt (sub_ldf.mpr (sub_tr hgc hcp)) hp
  exact ((idU_max (Nat.lt_of_lt_of_le hlt (cnt_p12 hc)) ((hmI gg).mpr ⟨hgA, hgc⟩) (fun s hs => hgm s ((hmI s).mp hs).2 ((arQ_iff hw hp12).mp ((hmI s).mp hs).1).2.2) (2 ^ cnt)).2 hlt).symm
theorem e_y0 (hw : wOK sr tg pr) (hc : cnt ≤ 12) (hp : pr < 2 ^ cnt) : (yL sr tg pr cnt 0).length ≠ 0 := by
  have hp12 := pr12 hc hp
  have hs : sub (grw sr tg pr 12) pr := fun i hi => (grw_in hi).2
  have hm : grw sr tg pr 12 ∈ yL sr tg pr cnt 0 := sel_mem.mpr ⟨sub_lt (sub_ldf.mpr hs) hp, (mC_iff hw hp12).mpr ⟨hs, fun a b h1 h2 h3 => grw_cf hw 12 a b h1 h2 h3, grw_12 sr tg pr⟩⟩
  have := List.length_pos_of_mem hm
  omega
end P14
/-- the class's lists are the reference's -/
theorem e_lists {wt mk : Nat → Nat} {pr tol cnt kd : Nat} (hc : cnt ≤ 12) (hp : pr < 2 ^ cnt) (hk : kd < 7) : xL wt mk pr tol kd = yL (srO (wkb wt mk pr tol)) (tgO (wkb wt mk pr tol)) pr cnt kd := by
  have hp12 := pr12 hc hp
  have hw := wOK_of (wt := wt) (mk := mk) (tol := tol) hp12
  have hsf : ∀ a, (slO (wkb wt mk pr tol)).testBit a = (tgO (wkb wt mk pr tol) a).testBit a := fun a => by
    unfold slO tgO
    rw [mks_tb, mks_tb]
  unfold xL posK
  rcases (show kd = 0 ∨ kd = 1 ∨ kd = 2 ∨ kd = 3 ∨ kd = 4 ∨ kd = 5 ∨ kd = 6 by omega) with rfl | rfl | rfl | rfl | rfl | rfl | rfl
  · exact e_com hw hc hp
  · rfl
  · exact e_pre hw hc hp
  · exact e_sta hw hc hp
  · exact e_stg hw hc hp hsf
  · exact e_sem hw hc hp
  · exact congrArg (fun z => [z]) (e_ide hw hc hp)
theorem dgK_ext {LL LL' : Nat → List Nat} {s : Int64} : ∀ {n : Nat}, (∀ k, k < n → LL k = LL' k) → dgK LL s n = dgK LL' s n
  | 0, _ => rfl
  | n + 1, h => by
    show dgL (gl (LL n)) (mxI (dgK LL s n) (LL n).length) (LL n).length = dgL (gl (LL' n)) (mxI (dgK LL' s n) (LL' n).length) (LL' n).length
    rw [dgK_ext (n := n) (fun k hk => h k (by omega)), h n (Nat.lt_succ_self n)]
theorem e_dig {wt mk : Nat → Nat} {pr tol cnt : Nat} (hc : cnt ≤ 12) (hp : pr < 2 ^ cnt) : dgT wt cnt pr tol (srO (wkb wt mk pr tol)) (xL wt mk pr tol) = dgT wt cnt pr tol (srO (wkb wt mk pr tol)) (yL (srO (wkb wt mk pr tol)) (tgO (wkb wt mk pr tol)) pr cnt) := dgK_ext (fun _ hk => e_lists hc hp hk)
