/-! pure 12: the lists, one: sets by what they hold, complete and preferred ones -/
def sub (a b : Nat) : Prop := ∀ i, a.testBit i = true → b.testBit i = true
def fre (tg : Nat → Nat) (s : Nat) : Prop := ∀ a b, s.testBit a = true → s.testBit b = true → (tg a).testBit b = true → False
theorem sub_ldf {a b : Nat} : ldf a b = 0 ↔ sub a b := ldf_0
theorem sub_rf (a : Nat) : sub a a := fun _ h => h
theorem sub_tr {a b c : Nat} (h : sub a b) (h' : sub b c) : sub a c := fun i hi => h' i (h i hi)
theorem sub_anti {a b : Nat} (h : sub a b) (h' : sub b a) : a = b := nat_tb_ext (fun i => ⟨h i, h' i⟩)
theorem sub_le {a b : Nat} (h : sub a b) : a ≤ b := by
  have e : a &&& b = a := ldf_and.mp (ldf_0.mpr h)
  rw [← e]
  exact Nat.and_le_right
theorem fre_sub {tg : Nat → Nat} {a b : Nat} (h : sub a b) (hb : fre tg b) : fre tg a := fun x y h1 h2 h3 => hb x y (h x h1) (h y h2) h3
-- ===== lists: ascending; by their elements =====
theorem mem_gl {L : List Nat} {x : Nat} (h : x ∈ L) : ∃ i, i < L.length ∧ gl L i = x := by
  obtain ⟨i, hi, e⟩ := List.mem_iff_getElem.mp h
  refine ⟨i, hi, ?_⟩
  unfold gl
  rw [List.getD_eq_getElem?_getD, List.getElem?_eq_getElem hi]
  exact e
theorem sel_asc {P : Nat → Bool} : ∀ (n i j : Nat), i < j → j < (sel P n).length → gl (sel P n) i < gl (sel P n) j
  | 0, i, j, _, h2 => absurd h2 (Nat.not_lt_zero _)
  | n + 1, i, j, h1, h2 => by
    cases hp : P n
    · rw [show sel P (n + 1) = sel P n from adl_f hp] at h2 ⊢
      exact sel_asc n i j h1 h2
    · rw [show sel P (n + 1) = sel P n ++ [n] from adl_t hp] at h2 ⊢
      rw [List.length_append] at h2
      have h3 : j < (sel P n).length ∨ j = (sel P n).length := by
        have : [n].length = 1 := rfl
        omega
      rcases h3 with h3 | h3
      · rw [gl_app_l (by omega), gl_app_l h3]; exact sel_asc n i j h1 h3
      · rw [h3, gl_last, gl_app_l (by omega)]
        exact (sel_mem.mp (gl_in (by omega))).1
theorem kp_app {q : Nat → Bool} {L M : List Nat} : ∀ {k : Nat}, k ≤ L.length → kp q (L ++ M) k = kp q L k
  | 0, _ => rfl
  | k + 1, h => by
    show adl (q k) (kp q (L ++ M) k) (gl (L ++ M) k) = adl (q k) (kp q L k) (gl L k)
    rw [kp_app (k := k) (by omega), gl_app_l (by omega)]
theorem flt_sel {q Q P : Nat → Bool} : ∀ {n : Nat}, (∀ i, i < (sel P n).length → q i = Q (gl (sel P n) i)) → flt q (sel P n) = sel (fun x => P x && Q x) n
  | 0, _ => rfl
  | n + 1, h => by
    show flt q (adl (P n) (sel P n) n) = adl (P n && Q n) (sel (fun x => P x && Q x) n) n
    have h0 : ∀ i, i < (adl (P n) (sel P n) n).length → q i = Q (gl (adl (P n) (sel P n) n) i) := h
    cases hp : P n
    · rw [hp, adl_f rfl] at h0
      rw [adl_f rfl, Bool.false_and, adl_f rfl]
      exact flt_sel h0
    · rw [hp, adl_t rfl] at h0
      rw [adl_t rfl, Bool.true_and]
      have hl : (sel P n ++ [n]).length = (sel P n).length + 1 := by rw [List.length_append]; rfl
      have h1 : ∀ i, i < (sel P n).length → q i = Q (gl (sel P n) i) := fun i hi => by
        have := h0 i (by omega)
        rw [gl_app_l hi] at this
        exact this
      have h2 : q (sel P n).length = Q n := by
        have := h0 (sel P n).length (by omega)
        rw [gl_last] at this
        exact this
      show kp q (sel P n ++ [n]) (sel P n ++ [n]).length = _
      rw [hl]
      show adl (q (sel P n).length) (kp q (sel P n ++ [n]) (sel P n).length) (gl (sel P n ++ [n]) (sel P n).length) = _
      rw [kp_app (Nat.le_refl _), gl_last, h2]
      have := flt_sel h1
      unfold flt at this
      rw [this]
theorem e_lgst {P : Nat → Bool} {n i : Nat} (hi : i < (sel P n).length) : lgst (sel P n) i = !blw P n (gl (sel P n) i) := by
  apply bool_ext
  rw [Bool.not_eq_true']
  unfold lgst
  rw [allF_true]
  constructor
  · intro h
    cases hb : blw P n (gl (sel P n) i)
    · rfl
    · exfalso
      obtain ⟨t, ht, hp, hs, hne⟩ := blw_iff.mp hb
      obtain ⟨j, hj, rfl⟩ := mem_gl (sel_mem.mpr ⟨ht, hp⟩)
      have h1 := h j hj
      unfold lgP at h1
      rw [hs] at h1
      have h2 : j ≤ i := by
        by_cases q : j ≤ i
        · exact q
        · rw [decide_eq_false q] at h1; exact absurd h1 (by decide)
      have h3 := sub_le (sub_ldf.mp hs)
      by_cases e : j = i
      · rw [e] at hne; exact hne rfl
      · have := sel_asc n j i (by omega) hi
        omega
  · intro hb t ht
    unfold lgP
    by_cases e : t ≤ i
    · rw [decide_eq_true e]; rfl
    · rw [decide_eq_false e, Bool.false_or, bne_iff_ne]
      intro h0
      have h1 : blw P n (gl (sel P n) i) = true := blw_iff.mpr ⟨gl (sel P n) t, (sel_mem.mp (gl_in ht)).1, (sel_mem.mp (gl_in ht)).2, h0, fun q => by
        have := sel_asc n i t (by omega) ht
        omega⟩
      rw [hb] at h1
      exact absurd h1 (by decide)
theorem sel_cut {P : Nat → Bool} {pr cnt : Nat} (hc : cnt ≤ 12) (hp : pr < 2 ^ cnt) (h : ∀ n, P n = true → sub n pr) : sel P 4096 = sel P (2 ^ cnt) :=
  sel_skip (cnt_p12 hc) (fun j h1 _ => by
    cases hq : P j
    · rfl
    · have := sub_lt (sub_ldf.mpr (h j hq)) hp
      omega)
-- ===== admissible, complete, preferred =====
section P12
variable {sr tg : Nat → Nat} {pr cnt : Nat}
theorem hit_in (hw : wOK sr tg pr) {s i : Nat} (h : (hit tg s).testBit i = true) : pr.testBit i = true := by
  obtain ⟨j, _, _, h2⟩ := hit_tb.mp h
  exact (hw.2 j i h2).2
theorem fre_iff (hw : wOK sr tg pr) (hp : pr < 4096) {s : Nat} : (hit tg s &&& s == 0) = true ↔ fre tg s := by
  rw [beq_iff_eq, and_0]
  constructor
  · intro h a b ha hb hab
    exact h b (hit_tb.mpr ⟨a, in_cnt (cnt := 12) hp (hw.2 a b hab).1, ha, hab⟩) hb
  · intro h i h1 h2
    obtain ⟨j, _, h3, h4⟩ := hit_tb.mp h1
    exact h j i h3 h2 h4
theorem arQ_iff (hw : wOK sr tg pr) (hp : pr < 4096) {s : Nat} : arQ sr tg pr s = true ↔ sub s pr ∧ fre tg s ∧ sub s (gby sr tg pr s) := by
  unfold arQ adQ
  rw [Bool.and_eq_true, Bool.and_eq_true, fre_iff hw hp, beq_iff_eq, beq_iff_eq, sub_ldf, sub_ldf]
theorem mC_iff (hw : wOK sr tg pr) (hp : pr < 4096) {s : Nat} : mC sr tg pr s = true ↔ sub s pr ∧ fre tg s ∧ gby sr tg pr s = s := by
  unfold mC
  rw [Bool.and_eq_true, arQ_iff hw hp, beq_iff_eq]
  constructor
  · rintro ⟨⟨h1, h2, _⟩, h4⟩; exact ⟨h1, h2, h4⟩
  · rintro ⟨h1, h2, h4⟩; exact ⟨⟨h1, h2, by rw [h4]; exact sub_rf s⟩, h4⟩
theorem gby_in {s i : Nat} (h : (gby sr tg pr s).testBit i = true) : pr.testBit i = true := (gby_tb.mp h).2.1
theorem gby_hit (hw : wOK sr tg pr) {s a i : Nat} (h : (gby sr tg pr s).testBit a = true) (hi : (tg i).testBit a = true) : (hit tg s).testBit i = true := (gby_tb.mp h).2.2 i (by rw [hw.1]; exact hi) (hw.2 i a hi).1
theorem pC_iff (hw : wOK sr tg pr) (hp : pr < 4096) {s : Nat} : pC sr tg pr s = true ↔ sub s pr ∧ fre tg s ∧ gby sr tg pr s = s := by
  unfold pC
  rw [Bool.and_eq_true, Bool.and_eq_true, Bool.and_eq_true, e_free, fre_iff hw hp, beq_iff_eq, beq_iff_eq, beq_iff_eq, sub_ldf]
  constructor
  · rintro ⟨h1, h2, _, h4⟩; exact ⟨h1, h2, h4⟩
  · rintro ⟨h1, h2, h4⟩
    refine ⟨h1, h2, ldf_0.mpr (fun i hi => ?_), h4⟩
    obtain ⟨j, _, h5, h6⟩ := hit_tb.mp hi
    have h7 : (gby sr tg pr s).testBit j = true := by rw [h4]; exact h5
    exact gby_hit hw h7 (by rw [← hw.1]; exact h6)
theorem e_pm (hw : wOK sr tg pr) (hp : pr < 4096) : pC sr tg pr = mC sr tg pr := funext fun _ => bool_ext ((pC_iff hw hp).trans (mC_iff hw hp).symm)
theorem fre_gby (hw : wOK sr tg pr) {s : Nat} (h : fre tg s) : fre tg (gby sr tg pr s) := by
  intro a b ha hb hab
  obtain ⟨c, _, hc1, hc2⟩ := hit_tb.mp (gby_hit hw hb hab)
  obtain ⟨d, _, hd1, hd2⟩ := hit_tb.mp (gby_hit hw ha hc2)
  exact h d c hd1 hc1 hd2
/-- an admissible set lies in a complete one -/
theorem adm_com (hw : wOK sr tg pr) (hp : pr < 4096) {s : Nat} (h : arQ sr tg pr s = true) : ∃ t, mC sr tg pr t = true ∧ sub s t := by
  obtain ⟨h1, h2, h3⟩ := (arQ_iff hw hp).mp h
  have hs : s < 4096 := sub_lt (n := 12) (sub_ldf.mpr h1) hp
  have hF : ∀ y, y < 4096 → gby sr tg pr (y ||| s) < 4096 := fun y _ => gby_lt _ _ _ _
  have hfix := itN_inc (F := fun y => gby sr tg pr (y ||| s)) hF (fun y z _ _ hyz i hi => gby_mono (fun j hj => by
    rcases hit_or_sub.mp hj with q | q
    · exact hit_or_sub.mpr (Or.inl (hyz j q))
    · exact hit_or_sub.mpr (Or.inr q)) i hi)
  have hall : ∀ k, fre tg (itN (fun y => gby sr tg pr (y ||| s)) k 0 ||| s) := by
    intro k
    induction k with
    | zero => exact fre_sub (fun i hi => by
        rcases hit_or_sub.mp hi with q | q
        · rw [show itN (fun y => gby sr tg pr (y ||| s)) 0 0 = 0 from rfl, Nat.zero_testBit] at q; exact absurd q (by decide)
        · exact q) h2
    | succ k ih =>
      refine fre_sub (fun i hi => ?_) (fre_gby hw ih)
      rcases hit_or_sub.mp hi with q | q
      · exact q
      · exact gby_mono (fun j hj => hit_or_sub.mpr (Or.inr hj)) i (h3 i q)
  have hf := hall 12
  generalize itN (fun y => gby sr tg pr (y ||| s)) 12 0 = t at hfix hf
  have hst : sub s t := fun i hi => by
    have : (gby sr tg pr (t ||| s)).testBit i = true := gby_mono (fun j hj => hit_or_sub.mpr (Or.inr hj)) i (h3 i hi)
    rw [hfix] at this
    exact this
  have e : t ||| s = t := or_abs hst
  rw [e] at hfix hf
  exact ⟨t, (mC_iff hw hp).mpr ⟨fun i hi => by rw [← hfix] at hi; exact gby_in hi, hf, hfix⟩, hst⟩
theorem mC_arQ {s : Nat} (h : mC sr tg pr s = true) : arQ sr tg pr s = true := by
  unfold mC at h
  rw [Bool.and_eq_true] at h
  exact h.1
theorem e_preP (hw : wOK sr tg pr) (hc : cnt ≤ 12) (hp : pr < 2 ^ cnt) (x : Nat) : (mC sr tg pr x && !blw (mC sr tg pr) 4096 x) = mP sr tg pr cnt x := by
  have hp12 := pr12 hc hp
  have hlt : ∀ t, arQ sr tg pr t = true → t < 2 ^ cnt := fun t h => sub_lt (sub_ldf.mpr ((arQ_iff hw hp12).mp h).1) hp
  unfold mP
  apply bool_ext
  rw [Bool.and_eq_true, Bool.and_eq_true, Bool.not_eq_true', Bool.not_eq_true']
  constructor
  · rintro ⟨h1, h2⟩
    refine ⟨mC_arQ h1, ?_⟩
    cases hb : blw (arQ sr tg pr) (2 ^ cnt) x
    · rfl
    · obtain ⟨t, _, ht, hs, hne⟩ := blw_iff.mp hb
      obtain ⟨u, hu, hsu⟩ := adm_com hw hp12 ht
      have : blw (mC sr tg pr) 4096 x = true := blw_iff.mpr ⟨u, Nat.lt_of_lt_of_le (hlt u (mC_arQ hu)) (cnt_p12 hc), hu, sub_ldf.mpr (sub_tr (sub_ldf.mp hs) hsu), fun e => hne (sub_anti (sub_ldf.mp hs) (by rw [e]; exact hsu))⟩
      rw [h2] at this
      exact absurd this (by decide)
  · rintro ⟨h1, h2⟩
    have hno : ∀ t, arQ sr tg pr t = true → sub x t → x = t := fun t ht hs => by
      by_cases e : x = t
      · exact e
      · have : blw (arQ sr tg pr) (2 ^ cnt) x = true := blw_iff.mpr ⟨t, hlt t ht, ht, sub_ldf.mpr hs, e⟩
        rw [h2] at this
        exact absurd this (by decide)
    obtain ⟨u, hu, hsu⟩ := adm_com hw hp12 h1
    have e := hno u (mC_arQ hu) hsu
    refine ⟨by rw [e]; exact hu, ?_⟩
    cases hb : blw (mC sr tg pr) 4096 x
    · rfl
    · obtain ⟨t, _, ht, hs, hne⟩ := blw_iff.mp hb
      exact absurd (hno t (mC_arQ ht) (sub_ldf.mp hs)) hne
theorem mC_in {x : Nat} (h : mC sr tg pr x = true) : sub x pr := by
  have h2 := mC_arQ h
  unfold arQ at h2
  rw [Bool.and_eq_true, beq_iff_eq] at h2
  exact sub_ldf.mp h2.1
theorem mP_arQ {x : Nat} (h : mP sr tg pr cnt x = true) : arQ sr tg pr x = true := by
  unfold mP at h
  rw [Bool.and_eq_true] at h
  exact h.1
theorem e_com (hw : wOK sr tg pr) (hc : cnt ≤ 12) (hp : pr < 2 ^ cnt) : lCom sr tg pr = sel (mC sr tg pr) (2 ^ cnt) := by
  unfold lCom
  rw [e_pm hw (pr12 hc hp)]
  exact sel_cut hc hp (fun n h => mC_in h)
theorem lPre_P (hw : wOK sr tg pr) (hc : cnt ≤ 12) (hp : pr < 2 ^ cnt) : lPre sr tg pr = sel (mP sr tg pr cnt) 4096 := by
  unfold lPre lCom
  rw [e_pm hw (pr12 hc hp), flt_sel (Q := fun x => !blw (mC sr tg pr) 4096 x) (fun i hi => e_lgst hi)]
  exact sel_cong (fun k _ => e_preP hw hc hp k)
theorem mP_in (hw : wOK sr tg pr) (hp : pr < 4096) {x : Nat} (h : mP sr tg pr cnt x = true) : sub x pr := ((arQ_iff hw hp).mp (mP_arQ h)).1
theorem e_pre (hw : wOK sr tg pr) (hc : cnt ≤ 12) (hp : pr < 2 ^ cnt) : lPre sr tg pr = sel (mP sr tg pr cnt) (2 ^ cnt) := by
  rw [lPre_P hw hc hp]
  exact sel_cut hc hp (fun n h => mP_in hw (pr12 hc hp) h)
theorem e_sta (hw : wOK sr tg pr) (hc : cnt ≤ 12) (hp : pr < 2 ^ cnt) : lSta tg pr = sel (mS tg pr) (2 ^ cnt) := by
  unfold lSta
  have e : pS tg pr = mS tg pr := funext fun n => by
    unfold pS mS frQ
    rw [e_free]
  rw [e]
  refine sel_cut hc hp (fun n h => ?_)
  unfold mS at h
  rw [Bool.and_eq_true, beq_iff_eq] at h
  exact sub_ldf.mp h.1
end P12
