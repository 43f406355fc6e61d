/-! pure 13: the lists, two: stage, semistable, ideal -/
def bW (tg : Nat → Nat) (P : Nat → Bool) (n x : Nat) : Bool := anyU (fun t => P t && prp (covH (hit tg) x) (covH (hit tg) t)) n
theorem prp_iff {a b : Nat} : prp a b = true ↔ a ≠ b ∧ sub a b := by
  unfold prp
  rw [Bool.and_eq_true, bne_iff_ne, beq_iff_eq, sub_ldf]
theorem prp_tr {a b c : Nat} (h : prp a b = true) (h' : sub b c) : prp a c = true := by
  obtain ⟨h1, h2⟩ := prp_iff.mp h
  exact prp_iff.mpr ⟨fun e => h1 (sub_anti h2 (by rw [e]; exact h')), sub_tr h2 h'⟩
theorem bW_iff {tg : Nat → Nat} {P : Nat → Bool} {n x : Nat} : bW tg P n x = true ↔ ∃ t, t < n ∧ P t = true ∧ prp (covH (hit tg) x) (covH (hit tg) t) = true := by
  unfold bW
  rw [anyU_iff]
  refine exists_congr (fun t => and_congr_right (fun _ => ?_))
  rw [Bool.and_eq_true]
theorem cov_mono {tg : Nat → Nat} {u t : Nat} (h : sub u t) : sub (covH (hit tg) u) (covH (hit tg) t) := fun i hi => by
  unfold covH at hi ⊢
  rcases hit_or_sub.mp hi with q | q
  · exact hit_or_sub.mpr (Or.inl (h i q))
  · exact hit_or_sub.mpr (Or.inr (hit_mono h i q))
theorem e_wid {tg : Nat → Nat} {P : Nat → Bool} {n : Nat} : lWid (hit tg) (sel P n) = sel (fun x => P x && !bW tg P n x) n := by
  unfold lWid
  refine flt_sel (Q := fun x => !bW tg P n x) (fun i hi => ?_)
  apply bool_ext
  unfold wdst
  rw [allF_true, Bool.not_eq_true']
  constructor
  · intro h
    cases hb : bW tg P n (gl (sel P n) i)
    · rfl
    · obtain ⟨t, ht, hp, hq⟩ := bW_iff.mp hb
      obtain ⟨j, hj, rfl⟩ := mem_gl (sel_mem.mpr ⟨ht, hp⟩)
      have h1 := h j hj
      unfold wdP at h1
      rw [hq] at h1
      exact absurd h1 (by decide)
  · intro hb t ht
    unfold wdP
    cases hq : prp (covH (hit tg) (gl (sel P n) i)) (covH (hit tg) (gl (sel P n) t))
    · rfl
    · have h1 : bW tg P n (gl (sel P n) i) = true := bW_iff.mpr ⟨_, (sel_mem.mp (gl_in ht)).1, (sel_mem.mp (gl_in ht)).2, hq⟩
      rw [hb] at h1
      exact absurd h1 (by decide)
section P13
variable {sr tg : Nat → Nat} {pr cnt sf : Nat}
theorem rgQ_in {t : Bool} {s : Nat} (h : rgQ sr tg pr t s = true) : sub s pr := by
  unfold rgQ at h
  rw [Bool.and_eq_true, beq_iff_eq] at h
  exact sub_ldf.mp h.1
theorem cov_in (hw : wOK sr tg pr) {s : Nat} (h : sub s pr) : sub (covH (hit tg) s) pr := fun i hi => by
  unfold covH at hi
  rcases hit_or_sub.mp hi with q | q
  · exact h i q
  · exact hit_in hw q
theorem blw_rgA (hw : wOK sr tg pr) (hp : pr < 2 ^ cnt) {t : Bool} {j : Nat} : blw (rgA sr tg pr t (2 ^ cnt)) (2 ^ cnt) j = true ↔ ∃ u, rgQ sr tg pr t u = true ∧ prp j (covH (hit tg) u) = true := by
  rw [blw_iff]
  constructor
  · rintro ⟨j', _, h1, h2, h3⟩
    unfold rgA at h1
    obtain ⟨u, _, hu⟩ := anyU_iff.mp h1
    rw [Bool.and_eq_true, beq_iff_eq] at hu
    refine ⟨u, hu.1, ?_⟩
    show prp j (u ||| hit tg u) = true
    rw [hu.2]
    exact prp_iff.mpr ⟨h3, sub_ldf.mp h2⟩
  · rintro ⟨u, hu, hq⟩
    obtain ⟨h1, h2⟩ := prp_iff.mp hq
    have hu2 := rgQ_in hu
    refine ⟨covH (hit tg) u, sub_lt (sub_ldf.mpr (cov_in hw hu2)) hp, ?_, sub_ldf.mpr h2, h1⟩
    unfold rgA
    refine anyU_iff.mpr ⟨u, sub_lt (sub_ldf.mpr hu2) hp, ?_⟩
    rw [Bool.and_eq_true, beq_iff_eq]
    exact ⟨hu, rfl⟩
theorem mR_iff (hw : wOK sr tg pr) (hp : pr < 2 ^ cnt) {t : Bool} {s : Nat} : mR sr tg pr cnt t s = true ↔ rgQ sr tg pr t s = true ∧ ∀ u, rgQ sr tg pr t u = true → prp (covH (hit tg) s) (covH (hit tg) u) = true → False := by
  unfold mR
  rw [Bool.and_eq_true, Bool.not_eq_true']
  refine and_congr_right (fun _ => ?_)
  constructor
  · intro h u h1 h2
    have : blw (rgA sr tg pr t (2 ^ cnt)) (2 ^ cnt) (s ||| hit tg s) = true := (blw_rgA hw hp).mpr ⟨u, h1, h2⟩
    rw [h] at this
    exact absurd this (by decide)
  · intro h
    cases hb : blw (rgA sr tg pr t (2 ^ cnt)) (2 ^ cnt) (s ||| hit tg s)
    · rfl
    · obtain ⟨u, h1, h2⟩ := (blw_rgA hw hp).mp hb
      exact (h u h1 h2).elim
theorem rgF_iff (hw : wOK sr tg pr) (hp : pr < 4096) {s : Nat} : rgQ sr tg pr false s = true ↔ sub s pr ∧ fre tg s := by
  show ((ldf s pr == 0) && frQ tg s) = true ↔ _
  unfold frQ
  rw [Bool.and_eq_true, fre_iff hw hp, beq_iff_eq, sub_ldf]
theorem pL_iff (hw : wOK sr tg pr) (hp : pr < 4096) (hsf : ∀ a, sf.testBit a = (tg a).testBit a) {s : Nat} : pL sr tg pr sf s = true ↔ sub s pr ∧ fre tg s ∧ ∀ a, pr.testBit a = true → s.testBit a = true ∨ (hit tg s).testBit a = true ∨ (hit sr s).testBit a = true ∨ sf.testBit a = true := by
  unfold pL
  rw [Bool.and_eq_true, Bool.and_eq_true, e_free, fre_iff hw hp, beq_iff_eq, beq_iff_eq, sub_ldf]
  refine and_congr_right (fun h1 => and_congr_right (fun _ => ?_))
  constructor
  · intro h a ha
    rw [← h, hit_or_sub, hit_or_sub, hit_or_sub] at ha
    rcases ha with ((q | q) | q) | q
    · exact Or.inl q
    · exact Or.inr (Or.inl q)
    · exact Or.inr (Or.inr (Or.inl q))
    · exact Or.inr (Or.inr (Or.inr q))
  · intro h
    refine nat_tb_ext (fun a => ?_)
    rw [hit_or_sub, hit_or_sub, hit_or_sub]
    constructor
    · rintro (((q | q) | q) | q)
      · exact h1 a q
      · exact hit_in hw q
      · obtain ⟨j, _, _, h3⟩ := hit_tb.mp q
        rw [hw.1] at h3
        exact (hw.2 a j h3).1
      · rw [hsf] at q; exact (hw.2 a a q).1
    · intro ha
      rcases h a ha with q | q | q | q
      · exact Or.inl (Or.inl (Or.inl q))
      · exact Or.inl (Or.inl (Or.inr q))
      · exact Or.inl (Or.inr q)
      · exact Or.inr q
theorem add_fre (hw : wOK sr tg pr) (hp : pr < 4096) (hsf : ∀ a, sf.testBit a = (tg a).testBit a) {u a : Nat} (hu : fre tg u) (h2 : ¬ (hit tg u).testBit a = true) (h3 : ¬ (hit sr u).testBit a = true) (h4 : ¬ sf.testBit a = true) : fre tg (u ||| 2 ^ a) := by
  intro x y hx hy hxy
  rcases or_bit_tb.mp hx with q | q
  · rcases or_bit_tb.mp hy with r | r
    · exact hu x y q r hxy
    · rw [← r] at hxy
      exact h2 (hit_tb.mpr ⟨x, in_cnt (cnt := 12) hp (hw.2 x a hxy).1, q, hxy⟩)
  · rw [← q] at hxy
    rcases or_bit_tb.mp hy with r | r
    · exact h3 (hit_tb.mpr ⟨y, in_cnt (cnt := 12) hp (hw.2 a y hxy).2, r, by rw [hw.1]; exact hxy⟩)
    · rw [← r] at hxy
      exact h4 (by rw [hsf]; exact hxy)
theorem not_pL (hw : wOK sr tg pr) (hp : pr < 4096) (hsf : ∀ a, sf.testBit a = (tg a).testBit a) {u : Nat} (h1 : sub u pr) (h2 : fre tg u) (h : ¬ pL sr tg pr sf u = true) : ∃ a, pr.testBit a = true ∧ ¬ u.testBit a = true ∧ ¬ (hit tg u).testBit a = true ∧ ¬ (hit sr u).testBit a = true ∧ ¬ sf.testBit a = true := by
  by_cases q : ∃ a, pr.testBit a = true ∧ ¬ u.testBit a = true ∧ ¬ (hit tg u).testBit a = true ∧ ¬ (hit sr u).testBit a = true ∧ ¬ sf.testBit a = true
  · exact q
  · refine absurd ((pL_iff hw hp hsf).mpr ⟨h1, h2, fun a ha => ?_⟩) h
    by_cases q1 : u.testBit a = true
    · exact Or.inl q1
    · by_cases q2 : (hit tg u).testBit a = true
      · exact Or.inr (Or.inl q2)
      · by_cases q3 : (hit sr u).testBit a = true
        · exact Or.inr (Or.inr (Or.inl q3))
        · by_cases q4 : sf.testBit a = true
          · exact Or.inr (Or.inr (Or.inr q4))
          · exact (q ⟨a, ha, q1, q2, q3, q4⟩).elim
theorem sub_or {u a : Nat} (h1 : sub u pr) (ha : pr.testBit a = true) : sub (u ||| 2 ^ a) pr := fun i hi => by
  rcases or_bit_tb.mp hi with q | q
  · exact h1 i q
  · rw [← q]; exact ha
theorem nai_ext (hw : wOK sr tg pr) (hp : pr < 4096) (hsf : ∀ a, sf.testBit a = (tg a).testBit a) : ∀ (n u : Nat), 12 - pc u < n → sub u pr → fre tg u → ∃ t, pL sr tg pr sf t = true ∧ sub u t := by
  intro n
  induction n with
  | zero => intro u h _ _; exact absurd h (Nat.not_lt_zero _)
  | succ n ih =>
    intro u hn h1 h2
    by_cases q : pL sr tg pr sf u = true
    · exact ⟨u, q, sub_rf u⟩
    · obtain ⟨a, ha, q1, q2, q3, q4⟩ := not_pL hw hp hsf h1 h2 q
      have hlt : pc u < pc (u ||| 2 ^ a) := by
        have ha12 : a < 12 := in_cnt (cnt := 12) hp ha
        exact pcU_lt (fun i hi => or_bit_tb.mpr (Or.inl hi)) (or_bit_tb.mpr (Or.inr rfl)) (Bool.eq_false_iff.mpr q1) ha12
      have hle := pc_le (u ||| 2 ^ a)
      obtain ⟨t, ht, hs⟩ := ih (u ||| 2 ^ a) (by omega) (sub_or h1 ha) (add_fre hw hp hsf h2 q2 q3 q4)
      exact ⟨t, ht, sub_tr (fun i hi => or_bit_tb.mpr (Or.inl hi)) hs⟩
theorem e_stg (hw : wOK sr tg pr) (hc : cnt ≤ 12) (hp : pr < 2 ^ cnt) (hsf : ∀ a, sf.testBit a = (tg a).testBit a) : lWid (hit tg) (lLar sr tg pr sf) = sel (mR sr tg pr cnt false) (2 ^ cnt) := by
  have hp12 := pr12 hc hp
  unfold lLar
  rw [e_wid]
  have e : ∀ x, (pL sr tg pr sf x && !bW tg (pL sr tg pr sf) 4096 x) = mR sr tg pr cnt false x := fun x => by
    apply bool_ext
    rw [Bool.and_eq_true, Bool.not_eq_true', mR_iff hw hp]
    constructor
    · rintro ⟨h1, h2⟩
      have h3 := (pL_iff hw hp12 hsf).mp h1
      refine ⟨(rgF_iff hw hp12).mpr ⟨h3.1, h3.2.1⟩, fun u hu hq => ?_⟩
      obtain ⟨u1, u2⟩ := (rgF_iff hw hp12).mp hu
      obtain ⟨t, ht, hs⟩ := nai_ext hw hp12 hsf 13 u (by omega) u1 u2
      have h4 : bW tg (pL sr tg pr sf) 4096 x = true := bW_iff.mpr ⟨t, sub_lt (n := 12) (sub_ldf.mpr ((pL_iff hw hp12 hsf).mp ht).1) hp12, ht, prp_tr hq (cov_mono hs)⟩
      rw [h2] at h4
      exact absurd h4 (by decide)
    · rintro ⟨h1, h2⟩
      obtain ⟨x1, x2⟩ := (rgF_iff hw hp12).mp h1
      constructor
      · by_cases q : pL sr tg pr sf x = true
        · exact q
        · obtain ⟨a, ha, q1, q2, q3, q4⟩ := not_pL hw hp12 hsf x1 x2 q
          refine (h2 (x ||| 2 ^ a) ((rgF_iff hw hp12).mpr ⟨sub_or x1 ha, add_fre hw hp12 hsf x2 q2 q3 q4⟩) (prp_iff.mpr ⟨fun e => ?_, cov_mono (fun i hi => or_bit_tb.mpr (Or.inl hi))⟩)).elim
          have h5 : (covH (hit tg) (x ||| 2 ^ a)).testBit a = true := hit_or_sub.mpr (Or.inl (or_bit_tb.mpr (Or.inr rfl)))
          rw [← e] at h5
          rcases hit_or_sub.mp h5 with r | r
          · exact q1 r
          · exact q2 r
      · cases hb : bW tg (pL sr tg pr sf) 4096 x
        · rfl
        · obtain ⟨t, _, ht, hq⟩ := bW_iff.mp hb
          have h3 := (pL_iff hw hp12 hsf).mp ht
          exact (h2 t ((rgF_iff hw hp12).mpr ⟨h3.1, h3.2.1⟩) hq).elim
  rw [sel_cong (fun k _ => e k)]
  exact sel_cut hc hp (fun n h => rgQ_in ((mR_iff hw hp).mp h).1)
theorem pre_ext (hw : wOK sr tg pr) (hc : cnt ≤ 12) (hp : pr < 2 ^ cnt) : ∀ (n u : Nat), 12 - pc u < n → arQ sr tg pr u = true → ∃ t, mP sr tg pr cnt t = true ∧ sub u t := by
  have hp12 := pr12 hc hp
  intro n
  induction n with
  | zero => intro u h _; exact absurd h (Nat.not_lt_zero _)
  | succ n ih =>
    intro u hn h1
    cases hb : blw (arQ sr tg pr) (2 ^ cnt) u
    · exact ⟨u, by unfold mP; rw [h1, hb]; rfl, sub_rf u⟩
    · obtain ⟨t, ht1, ht, hs, hne⟩ := blw_iff.mp hb
      have ht12 : t < 4096 := sub_lt (n := 12) (sub_ldf.mpr ((arQ_iff hw hp12).mp ht).1) hp12
      have hlt : pc u < pc t := pc_lt_of ht12 (sub_ldf.mp hs) hne
      have hle := pc_le t
      obtain ⟨w, hw1, hw2⟩ := ih t (by omega) ht
      exact ⟨w, hw1, sub_tr (sub_ldf.mp hs) hw2⟩
theorem e_sem (hw : wOK sr tg pr) (hc : cnt ≤ 12) (hp : pr < 2 ^ cnt) : lWid (hit tg) (lPre sr tg pr) = sel (mR sr tg pr cnt true) (2 ^ cnt) := by
  have hp12 := pr12 hc hp
  rw [lPre_P hw hc hp, e_wid]
  have hT : ∀ u, rgQ sr tg pr true u = arQ sr tg pr u := fun _ => rfl
  have e : ∀ x, (mP sr tg pr cnt x && !bW tg (mP sr tg pr cnt) 4096 x) = mR sr tg pr cnt true x := fun x => by
    apply bool_ext
    rw [Bool.and_eq_true, Bool.not_eq_true', mR_iff hw hp]
    constructor
    · rintro ⟨h1, h2⟩
      refine ⟨mP_arQ h1, fun u hu hq => ?_⟩
      obtain ⟨t, ht, hs⟩ := pre_ext hw hc hp 13 u (by omega) hu
      have h4 : bW tg (mP sr tg pr cnt) 4096 x = true := bW_iff.mpr ⟨t, sub_lt (n := 12) (sub_ldf.mpr (mP_in hw hp12 ht)) hp12, ht, prp_tr hq (cov_mono hs)⟩
      rw [h2] at h4
      exact absurd h4 (by decide)
    · rintro ⟨h1, h2⟩
      have h1' : arQ sr tg pr x = true := h1
      constructor
      · cases hb : blw (arQ sr tg pr) (2 ^ cnt) x
        · unfold mP; rw [h1', hb]; rfl
        · obtain ⟨t, _, ht, hs, hne⟩ := blw_iff.mp hb
          refine (h2 t ht (prp_iff.mpr ⟨fun e => ?_, cov_mono (sub_ldf.mp hs)⟩)).elim
          have htf := ((arQ_iff hw hp12).mp ht).2.1
          refine hne (sub_anti (sub_ldf.mp hs) (fun i hi => ?_))
          have h5 : (covH (hit tg) t).testBit i = true := hit_or_sub.mpr (Or.inl hi)
          rw [← e] at h5
          rcases hit_or_sub.mp h5 with r | r
          · exact r
          · obtain ⟨j, _, h6, h7⟩ := hit_tb.mp r
            exact (htf j i (sub_ldf.mp hs j h6) hi h7).elim
      · cases hb : bW tg (mP sr tg pr cnt) 4096 x
        · rfl
        · obtain ⟨t, _, ht, hq⟩ := bW_iff.mp hb
          exact (h2 t (mP_arQ ht) hq).elim
  rw [sel_cong (fun k _ => e k)]
  exact sel_cut hc hp (fun n h => rgQ_in ((mR_iff hw hp).mp h).1)
end P13
