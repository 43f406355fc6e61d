/-! pure 15: what the positions of all kinds have to do with each other -/
theorem unU_tb {f : Nat → Nat} {i : Nat} : ∀ {n : Nat}, (unU f n).testBit i = true ↔ ∃ k, k < n ∧ (f k).testBit i = true
  | 0 => ⟨fun h => by rw [show unU f 0 = 0 from rfl, Nat.zero_testBit] at h; exact absurd h (by decide), fun ⟨k, h, _⟩ => absurd h (Nat.not_lt_zero k)⟩
  | n + 1 => by
    show (unU f n ||| f n).testBit i = true ↔ _
    rw [hit_or_sub, unU_tb (n := n)]
    constructor
    · rintro (⟨k, h1, h2⟩ | h)
      · exact ⟨k, by omega, h2⟩
      · exact ⟨n, Nat.lt_succ_self n, h⟩
    · rintro ⟨k, h1, h2⟩
      by_cases e : k = n
      · rw [← e]; exact Or.inr h2
      · exact Or.inl ⟨k, by omega, h2⟩
theorem unL_tb {L : List Nat} {i : Nat} : (unU (gl L) L.length).testBit i = true ↔ ∃ x, x ∈ L ∧ x.testBit i = true := by
  rw [unU_tb]
  constructor
  · rintro ⟨k, h1, h2⟩; exact ⟨_, gl_in h1, h2⟩
  · rintro ⟨x, h1, h2⟩
    obtain ⟨k, hk, rfl⟩ := mem_gl h1
    exact ⟨k, hk, h2⟩
theorem coL_tb {L : List Nat} {al i : Nat} : (coU (gl L) al L.length).testBit i = true ↔ al.testBit i = true ∧ ∀ x, x ∈ L → x.testBit i = true := by
  rw [coU_tb]
  refine and_congr_right (fun _ => ?_)
  constructor
  · intro h x hx
    obtain ⟨k, hk, rfl⟩ := mem_gl hx
    exact h k hk
  · intro h k hk
    exact h _ (gl_in hk)
/-- every set of the one list is one of the other -/
def inL (S M : List Nat) : Prop := ∀ i, i < S.length → ∃ p, p < M.length ∧ gl M p = gl S i
theorem inL_of {S M : List Nat} (h : ∀ x, x ∈ S → x ∈ M) : inL S M := fun _ hi => mem_gl (h _ (gl_in hi))
def ascL (L : List Nat) : Prop := ∀ i j, i < j → j < L.length → gl L i < gl L j
theorem asc1 (x : Nat) : ascL [x] := fun i j h1 h2 => by
  have : [x].length = 1 := rfl
  omega
section P15
variable {sr tg : Nat → Nat} {pr cnt sf : Nat}
theorem memC (hw : wOK sr tg pr) (hp : pr < 4096) {x : Nat} : x ∈ lCom sr tg pr ↔ sub x pr ∧ fre tg x ∧ gby sr tg pr x = x := by
  unfold lCom
  rw [sel_mem, pC_iff hw hp]
  exact ⟨fun h => h.2, fun h => ⟨sub_lt (n := 12) (sub_ldf.mpr h.1) hp, h⟩⟩
theorem mP_iff (hw : wOK sr tg pr) (hc : cnt ≤ 12) (hp : pr < 2 ^ cnt) {x : Nat} : mP sr tg pr cnt x = true ↔ arQ sr tg pr x = true ∧ ∀ t, arQ sr tg pr t = true → sub x t → x = t := by
  have hp12 := pr12 hc hp
  unfold mP
  rw [Bool.and_eq_true, Bool.not_eq_true']
  refine and_congr_right (fun _ => ?_)
  constructor
  · intro h t ht hs
    by_cases e : x = t
    · exact e
    · have : blw (arQ sr tg pr) (2 ^ cnt) x = true := blw_iff.mpr ⟨t, sub_lt (sub_ldf.mpr ((arQ_iff hw hp12).mp ht).1) hp, ht, sub_ldf.mpr hs, e⟩
      rw [h] at this
      exact absurd this (by decide)
  · intro h
    cases hb : blw (arQ sr tg pr) (2 ^ cnt) x
    · rfl
    · obtain ⟨t, _, ht, hs, hne⟩ := blw_iff.mp hb
      exact absurd (h t ht (sub_ldf.mp hs)) hne
theorem memP (hw : wOK sr tg pr) (hc : cnt ≤ 12) (hp : pr < 2 ^ cnt) {x : Nat} : x ∈ lPre sr tg pr ↔ mP sr tg pr cnt x = true := by
  rw [lPre_P hw hc hp, sel_mem]
  exact ⟨fun h => h.2, fun h => ⟨sub_lt (n := 12) (sub_ldf.mpr (mP_in hw (pr12 hc hp) h)) (pr12 hc hp), h⟩⟩
theorem mP_mC (hw : wOK sr tg pr) (hc : cnt ≤ 12) (hp : pr < 2 ^ cnt) {x : Nat} (h : mP sr tg pr cnt x = true) : mC sr tg pr x = true := by
  rw [← e_preP hw hc hp, Bool.and_eq_true] at h
  exact h.1
theorem mS_iff (hw : wOK sr tg pr) (hp : pr < 4096) {x : Nat} : mS tg pr x = true ↔ sub x pr ∧ fre tg x ∧ covH (hit tg) x = pr := by
  unfold mS frQ
  rw [Bool.and_eq_true, Bool.and_eq_true, fre_iff hw hp, beq_iff_eq, beq_iff_eq, sub_ldf]
  exact Iff.rfl
theorem rgT_iff (hw : wOK sr tg pr) (hp : pr < 4096) {s : Nat} : rgQ sr tg pr true s = true ↔ sub s pr ∧ fre tg s ∧ sub s (gby sr tg pr s) := arQ_iff hw hp
-- ===== stable ones =====
theorem sta_arQ (hw : wOK sr tg pr) (hp : pr < 4096) {x : Nat} (h : mS tg pr x = true) : arQ sr tg pr x = true := by
  obtain ⟨h1, h2, h3⟩ := (mS_iff hw hp).mp h
  refine (arQ_iff hw hp).mpr ⟨h1, h2, fun a ha => gby_tb.mpr ⟨in_cnt (cnt := 12) hp (h1 a ha), h1 a ha, fun i hi hip => ?_⟩⟩
  rw [hw.1] at hi
  rw [← h3] at hip
  rcases hit_or_sub.mp hip with q | q
  · exact (h2 i a q ha hi).elim
  · exact q
theorem sta_pre (hw : wOK sr tg pr) (hc : cnt ≤ 12) (hp : pr < 2 ^ cnt) {x : Nat} (h : mS tg pr x = true) : mP sr tg pr cnt x = true := by
  have hp12 := pr12 hc hp
  obtain ⟨h1, h2, h3⟩ := (mS_iff hw hp12).mp h
  refine (mP_iff hw hc hp).mpr ⟨sta_arQ hw hp12 h, fun t ht hs => sub_anti hs (fun i hi => ?_)⟩
  obtain ⟨t1, t2, _⟩ := (arQ_iff hw hp12).mp ht
  have hip := t1 i hi
  rw [← h3] at hip
  rcases hit_or_sub.mp hip with q | q
  · exact q
  · obtain ⟨j, _, q1, q2⟩ := hit_tb.mp q
    exact (t2 j i (hs j q1) hi q2).elim
theorem sta_mR (hw : wOK sr tg pr) (hc : cnt ≤ 12) (hp : pr < 2 ^ cnt) (t : Bool) {x : Nat} (h : mS tg pr x = true) : mR sr tg pr cnt t x = true := by
  have hp12 := pr12 hc hp
  obtain ⟨h1, h2, h3⟩ := (mS_iff hw hp12).mp h
  refine (mR_iff hw hp).mpr ⟨?_, fun u hu hq => ?_⟩
  · cases t
    · exact (rgF_iff hw hp12).mpr ⟨h1, h2⟩
    · exact sta_arQ hw hp12 h
  · obtain ⟨q1, q2⟩ := prp_iff.mp hq
    rw [h3] at q1 q2
    exact q1 (sub_anti q2 (cov_in hw (rgQ_in hu)))
theorem mR_sta (hw : wOK sr tg pr) (hc : cnt ≤ 12) (hp : pr < 2 ^ cnt) (t : Bool) {x y : Nat} (hy : mS tg pr y = true) (h : mR sr tg pr cnt t x = true) : mS tg pr x = true := by
  have hp12 := pr12 hc hp
  obtain ⟨h1, h2⟩ := (mR_iff hw hp).mp h
  have hyR := ((mR_iff hw hp).mp (sta_mR hw hc hp t hy)).1
  obtain ⟨_, _, y3⟩ := (mS_iff hw hp12).mp hy
  have hx1 := rgQ_in h1
  refine (mS_iff hw hp12).mpr ⟨hx1, ?_, ?_⟩
  · cases t
    · exact ((rgF_iff hw hp12).mp h1).2
    · exact ((rgT_iff hw hp12).mp h1).2.1
  · by_cases e : covH (hit tg) x = pr
    · exact e
    · exact (h2 y hyR (prp_iff.mpr ⟨by rw [y3]; exact e, by rw [y3]; exact cov_in hw hx1⟩)).elim
theorem sta_all (hw : wOK sr tg pr) (hc : cnt ≤ 12) (hp : pr < 2 ^ cnt) (t : Bool) (h : 0 < (sel (mS tg pr) (2 ^ cnt)).length) : sel (mR sr tg pr cnt t) (2 ^ cnt) = sel (mS tg pr) (2 ^ cnt) := by
  obtain ⟨y, hy⟩ := List.exists_mem_of_length_pos h
  have hyS := (sel_mem.mp hy).2
  exact sel_cong (fun k _ => bool_ext ⟨mR_sta hw hc hp t hyS, sta_mR hw hc hp t⟩)
-- ===== the grounded one =====
theorem grw_mC (hw : wOK sr tg pr) (hp : pr < 4096) : mC sr tg pr (grw sr tg pr 12) = true := (mC_iff hw hp).mpr ⟨fun _ hi => (grw_in hi).2, fun a b h1 h2 h3 => grw_cf hw 12 a b h1 h2 h3, grw_12 sr tg pr⟩
theorem grw_sub {x : Nat} (h : sub (gby sr tg pr x) x) : ∀ k, sub (grw sr tg pr k) x
  | 0 => fun i hi => by rw [grw_z] at hi; exact absurd hi (by decide)
  | k + 1 => fun i hi => by
    rw [grw_s] at hi
    exact h i (gby_mono (grw_sub h k) i hi)
theorem grw_C (hw : wOK sr tg pr) (hp : pr < 4096) {x : Nat} (h : mC sr tg pr x = true) : sub (grw sr tg pr 12) x := grw_sub (by rw [((mC_iff hw hp).mp h).2.2]; exact sub_rf x) 12
theorem memC2 (hw : wOK sr tg pr) (hp : pr < 4096) {x : Nat} : x ∈ lCom sr tg pr ↔ mC sr tg pr x = true := (memC hw hp).trans (mC_iff hw hp).symm
theorem z_cg (hw : wOK sr tg pr) (hp : pr < 4096) : coU (gl (lCom sr tg pr)) pr (lCom sr tg pr).length = grw sr tg pr 12 := by
  refine nat_tb_ext (fun i => ?_)
  rw [coL_tb]
  constructor
  · rintro ⟨_, h⟩
    exact h _ ((memC2 hw hp).mpr (grw_mC hw hp))
  · intro h
    exact ⟨(grw_in h).2, fun x hx => grw_C hw hp ((memC2 hw hp).mp hx) i h⟩
theorem z_uu (hw : wOK sr tg pr) (hc : cnt ≤ 12) (hp : pr < 2 ^ cnt) : unU (gl (lCom sr tg pr)) (lCom sr tg pr).length = unU (gl (lPre sr tg pr)) (lPre sr tg pr).length := by
  have hp12 := pr12 hc hp
  refine nat_tb_ext (fun i => ?_)
  rw [unL_tb, unL_tb]
  constructor
  · rintro ⟨x, h1, h2⟩
    obtain ⟨t, ht, hs⟩ := pre_ext hw hc hp 13 x (by omega) (mC_arQ ((memC2 hw hp12).mp h1))
    exact ⟨t, (memP hw hc hp).mpr ht, hs i h2⟩
  · rintro ⟨x, h1, h2⟩
    exact ⟨x, (memC2 hw hp12).mpr (mP_mC hw hc hp ((memP hw hc hp).mp h1)), h2⟩
-- ===== the ideal one =====
def idl (sr tg : Nat → Nat) (pr : Nat) : Nat := gpa sr tg pr 12 (coU (gl (lPre sr tg pr)) pr (lPre sr tg pr).length)
theorem z_ip : ldf (idl sr tg pr) (coU (gl (lPre sr tg pr)) pr (lPre sr tg pr).length) = 0 := sub_ldf.mpr (gpa_sub 12)
theorem idl_in : sub (idl sr tg pr) pr := fun i hi => (coU_tb.mp (gpa_sub 12 i hi)).1
theorem idl_pst (hp : pr < 4096) : sub (idl sr tg pr) (gby sr tg pr (idl sr tg pr)) := by
  have hco12 : coU (gl (lPre sr tg pr)) pr (lPre sr tg pr).length < 4096 := Nat.lt_of_le_of_lt (coU_le _ _ _) hp
  have hg := gpa_12 (sr := sr) (tg := tg) (pr := pr) hco12
  intro i hi
  have h : (gpa sr tg pr 12 (coU (gl (lPre sr tg pr)) pr (lPre sr tg pr).length)).testBit i = true := hi
  rw [← hg, Nat.testBit_and, Bool.and_eq_true] at h
  exact h.2
theorem idl_pre (hw : wOK sr tg pr) (hc : cnt ≤ 12) (hp : pr < 2 ^ cnt) {x : Nat} (h : mP sr tg pr cnt x = true) : sub (idl sr tg pr) x := fun i hi => (coL_tb.mp (gpa_sub 12 i hi)).2 x ((memP hw hc hp).mpr h)
theorem idl_mC (hw : wOK sr tg pr) (hc : cnt ≤ 12) (hp : pr < 2 ^ cnt) : mC sr tg pr (idl sr tg pr) = true := by
  have hp12 := pr12 hc hp
  have h0 : arQ sr tg pr 0 = true := (arQ_iff hw hp12).mpr ⟨fun i hi => by rw [Nat.zero_testBit] at hi; exact absurd hi (by decide), fun a b ha _ _ => by rw [Nat.zero_testBit] at ha; exact absurd ha (by decide), fun i hi => by rw [Nat.zero_testBit] at hi; exact absurd hi (by decide)⟩
  obtain ⟨t, ht, _⟩ := pre_ext hw hc hp 13 0 (by omega) h0
  have hps := idl_pst (sr := sr) (tg := tg) hp12
  refine (mC_iff hw hp12).mpr ⟨idl_in, fre_sub (idl_pre hw hc hp ht) ((arQ_iff hw hp12).mp (mP_arQ ht)).2.1, sub_anti ?_ hps⟩
  refine gpa_has (fun i hi => coL_tb.mpr ⟨gby_in hi, fun x hx => ?_⟩) (fun i hi => gby_mono hps i hi) 12
  have hxP := (memP hw hc hp).mp hx
  have hxC := ((mC_iff hw hp12).mp (mP_mC hw hc hp hxP)).2.2
  rw [← hxC]
  exact gby_mono (idl_pre hw hc hp hxP) i hi
theorem z_gi (hw : wOK sr tg pr) (hc : cnt ≤ 12) (hp : pr < 2 ^ cnt) : ldf (grw sr tg pr 12) (idl sr tg pr) = 0 := sub_ldf.mpr (grw_C hw (pr12 hc hp) (idl_mC hw hc hp))
theorem and_self_of {a b : Nat} (h : sub a b) : a &&& b = a := ldf_and.mp (sub_ldf.mpr h)
theorem z_ia (hw : wOK sr tg pr) (hc : cnt ≤ 12) (hp : pr < 2 ^ cnt) : (((idl sr tg pr &&& pr) &&& hit tg (idl sr tg pr &&& pr) == 0) && (ldf (idl sr tg pr &&& pr) (gby sr tg pr (idl sr tg pr &&& pr)) == 0)) = true := by
  have hp12 := pr12 hc hp
  rw [and_self_of idl_in, e_free, Bool.and_eq_true, fre_iff hw hp12, beq_iff_eq, sub_ldf]
  exact ⟨((mC_iff hw hp12).mp (idl_mC hw hc hp)).2.1, idl_pst hp12⟩
end P15
