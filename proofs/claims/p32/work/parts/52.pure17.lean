/-! pure 17: what the law asks, over the class's own lists -/
theorem fnd_pos {p : Nat → Bool} : ∀ {n : Nat}, fnd p n ≠ 0 ↔ ∃ k, 1 ≤ k ∧ k ≤ n ∧ p k = true
  | 0 => ⟨fun h => absurd rfl h, fun ⟨k, h1, h2, _⟩ => by omega⟩
  | n + 1 => by
    have ih := fnd_pos (p := p) (n := n)
    unfold fnd
    by_cases q : fnd p n ≠ 0
    · rw [if_pos q]
      exact ⟨fun _ => by obtain ⟨k, h1, h2, h3⟩ := ih.mp q; exact ⟨k, h1, by omega, h3⟩, fun _ => q⟩
    · rw [if_neg q]
      cases hp : p (n + 1)
      · rw [if_neg (by decide)]
        refine ⟨fun h => absurd rfl h, fun ⟨k, h1, h2, h3⟩ => ?_⟩
        by_cases e : k = n + 1
        · rw [e, hp] at h3; exact absurd h3 (by decide)
        · exact absurd (ih.mpr ⟨k, h1, by omega, h3⟩) q
      · rw [if_pos rfl]
        exact ⟨fun _ => ⟨n + 1, by omega, Nat.le_refl _, hp⟩, fun _ => Nat.succ_ne_zero n⟩
theorem slU_ok {ok : Nat → Bool} : ∀ {n b : Nat}, slU ok n = some b → ok b = true
  | 0, b, h => by cases h
  | n + 1, b, h => by
    unfold slU at h
    cases hq : (ok n && ltO (pc n) (slU ok n))
    · rw [hq, if_neg (by decide)] at h
      exact slU_ok h
    · rw [hq, if_pos rfl] at h
      cases h
      rw [Bool.and_eq_true] at hq
      exact hq.1
theorem pc_0 : pc 0 = 0 := by decide
theorem slU_0 {ok : Nat → Bool} (h : ok 0 = true) : ∀ n, slU ok (n + 1) = some 0
  | 0 => slU_t h (by rw [pc_0]; exact Nat.zero_lt_succ _)
  | n + 1 => by
    have ih := slU_0 h n
    rw [slU_f2 (by rw [ih]; show pc 0 ≤ _; rw [pc_0]; exact Nat.zero_le _), ih]
theorem sumU_one {f : Nat → Nat} : ∀ {n : Nat}, (∀ k, k < n → f k = 1) → sumU f n = n
  | 0, _ => rfl
  | n + 1, h => by
    show sumU f n + f n = n + 1
    rw [sumU_one (fun k hk => h k (by omega)), h n (Nat.lt_succ_self n)]
theorem sel_ascL (P : Nat → Bool) (n : Nat) : ascL (sel P n) := fun i j h1 h2 => sel_asc n i j h1 h2
def lesF (k : Nat) : Nat := match k with
  | 0 => 3
  | 1 => 5
  | 2 => 2
  | 3 => 1
  | 4 => 3
  | 5 => 6
  | _ => 0
def morF (k : Nat) : Nat := match k with
  | 0 => 5
  | 1 => 2
  | 2 => 0
  | 3 => 0
  | 4 => 4
  | _ => 0
theorem lesF_lt {k : Nat} (hk : k < 6) : lesF k < 7 := by
  rcases (show k = 0 ∨ k = 1 ∨ k = 2 ∨ k = 3 ∨ k = 4 ∨ k = 5 by omega) with rfl | rfl | rfl | rfl | rfl | rfl <;> decide
theorem morF_lt {k : Nat} (hk : k < 6) : morF k < 7 := by
  rcases (show k = 0 ∨ k = 1 ∨ k = 2 ∨ k = 3 ∨ k = 4 ∨ k = 5 by omega) with rfl | rfl | rfl | rfl | rfl | rfl <;> decide
section P17
variable {wt mk : Nat → Nat} {pr tol cnt : Nat}
theorem sfO (a : Nat) : (slO (wkb wt mk pr tol)).testBit a = (tgO (wkb wt mk pr tol) a).testBit a := by
  unfold slO tgO
  rw [mks_tb, mks_tb]
theorem x_1 : xL wt mk pr tol 1 = [grw (srO (wkb wt mk pr tol)) (tgO (wkb wt mk pr tol)) pr 12] := rfl
theorem x_6 : xL wt mk pr tol 6 = [idl (srO (wkb wt mk pr tol)) (tgO (wkb wt mk pr tol)) pr] := rfl
theorem x_0 : xL wt mk pr tol 0 = lCom (srO (wkb wt mk pr tol)) (tgO (wkb wt mk pr tol)) pr := rfl
theorem x_2 : xL wt mk pr tol 2 = lPre (srO (wkb wt mk pr tol)) (tgO (wkb wt mk pr tol)) pr := rfl
theorem x_2s (hc : cnt ≤ 12) (hp : pr < 2 ^ cnt) : xL wt mk pr tol 2 = sel (mP (srO (wkb wt mk pr tol)) (tgO (wkb wt mk pr tol)) pr cnt) (2 ^ cnt) := e_pre (wOK_of (pr12 hc hp)) hc hp
theorem x_3 (hc : cnt ≤ 12) (hp : pr < 2 ^ cnt) : xL wt mk pr tol 3 = sel (mS (tgO (wkb wt mk pr tol)) pr) (2 ^ cnt) := e_sta (sr := srO (wkb wt mk pr tol)) (wOK_of (pr12 hc hp)) hc hp
theorem x_4 (hc : cnt ≤ 12) (hp : pr < 2 ^ cnt) : xL wt mk pr tol 4 = sel (mR (srO (wkb wt mk pr tol)) (tgO (wkb wt mk pr tol)) pr cnt false) (2 ^ cnt) := e_stg (wOK_of (pr12 hc hp)) hc hp sfO
theorem x_5 (hc : cnt ≤ 12) (hp : pr < 2 ^ cnt) : xL wt mk pr tol 5 = sel (mR (srO (wkb wt mk pr tol)) (tgO (wkb wt mk pr tol)) pr cnt true) (2 ^ cnt) := e_sem (wOK_of (pr12 hc hp)) hc hp
theorem z_asc (hc : cnt ≤ 12) (hp : pr < 2 ^ cnt) {k : Nat} (hk : k < 7) : ascL (xL wt mk pr tol k) := by
  rcases (show k = 0 ∨ k = 1 ∨ k = 2 ∨ k = 3 ∨ k = 4 ∨ k = 5 ∨ k = 6 by omega) with rfl | rfl | rfl | rfl | rfl | rfl | rfl
  · exact sel_ascL _ _
  · exact asc1 _
  · rw [x_2s hc hp]; exact sel_ascL _ _
  · exact sel_ascL _ _
  · rw [x_4 hc hp]; exact sel_ascL _ _
  · rw [x_5 hc hp]; exact sel_ascL _ _
  · exact asc1 _
theorem z_in (hc : cnt ≤ 12) (hp : pr < 2 ^ cnt) {k : Nat} (hk : k < 6) : inL (xL wt mk pr tol (lesF k)) (xL wt mk pr tol (morF k)) := by
  have hp12 := pr12 hc hp
  have hw := wOK_of (wt := wt) (mk := mk) (tol := tol) hp12
  rcases (show k = 0 ∨ k = 1 ∨ k = 2 ∨ k = 3 ∨ k = 4 ∨ k = 5 by omega) with rfl | rfl | rfl | rfl | rfl | rfl
  · show inL (xL wt mk pr tol 3) (xL wt mk pr tol 5)
    rw [x_3 hc hp, x_5 hc hp]
    refine inL_of (fun x hx => ?_)
    obtain ⟨h1, h2⟩ := sel_mem.mp hx
    exact sel_mem.mpr ⟨h1, sta_mR hw hc hp true h2⟩
  · show inL (xL wt mk pr tol 5) (xL wt mk pr tol 2)
    refine inL_of (fun x hx => ?_)
    obtain ⟨i, _, _, rfl⟩ := kp_mem.mp hx
    by_cases hi : i < (lPre (srO (wkb wt mk pr tol)) (tgO (wkb wt mk pr tol)) pr).length
    · exact gl_in hi
    · rename_i h _
      exact absurd h hi
  · show inL (xL wt mk pr tol 2) (xL wt mk pr tol 0)
    exact inL_of (fun x hx => (memC2 hw hp12).mpr (mP_mC hw hc hp ((memP hw hc hp).mp hx)))
  · show inL (xL wt mk pr tol 1) (xL wt mk pr tol 0)
    refine inL_of (fun x hx => ?_)
    rw [List.mem_singleton.mp hx]
    exact (memC2 hw hp12).mpr (grw_mC hw hp12)
  · show inL (xL wt mk pr tol 3) (xL wt mk pr tol 4)
    rw [x_3 hc hp, x_4 hc hp]
    refine inL_of (fun x hx => ?_)
    obtain ⟨h1, h2⟩ := sel_mem.mp hx
    exact sel_mem.mpr ⟨h1, sta_mR hw hc hp false h2⟩
  · show inL (xL wt mk pr tol 6) (xL wt mk pr tol 0)
    refine inL_of (fun x hx => ?_)
    rw [List.mem_singleton.mp hx]
    exact (memC2 hw hp12).mpr (idl_mC hw hc hp)
theorem z_len (hc : cnt ≤ 12) (hp : pr < 2 ^ cnt) (h : 0 < (xL wt mk pr tol 3).length) : (xL wt mk pr tol 5).length = (xL wt mk pr tol 3).length ∧ (xL wt mk pr tol 4).length = (xL wt mk pr tol 3).length := by
  have hw := wOK_of (wt := wt) (mk := mk) (tol := tol) (pr12 hc hp)
  rw [x_3 hc hp] at h
  rw [x_3 hc hp, x_4 hc hp, x_5 hc hp, sta_all hw hc hp true h, sta_all hw hc hp false h]
  exact ⟨rfl, rfl⟩
theorem z_lab (hc : cnt ≤ 12) (hp : pr < 2 ^ cnt) {i a : Nat} (hi : i < (xL wt mk pr tol 3).length) (ha : pr.testBit a = true) : (((gl (xL wt mk pr tol 3) i &&& pr).testBit a).toNat ||| (if (srO (wkb wt mk pr tol)) a &&& (gl (xL wt mk pr tol 3) i &&& pr) = 0 then 0 else 2)) % 3 ≠ 0 := by
  have hp12 := pr12 hc hp
  have hw := wOK_of (wt := wt) (mk := mk) (tol := tol) hp12
  have hm : gl (xL wt mk pr tol 3) i ∈ sel (mS (tgO (wkb wt mk pr tol)) pr) (2 ^ cnt) := by rw [← x_3 hc hp]; exact gl_in hi
  obtain ⟨s1, s2, s3⟩ := (mS_iff hw hp12).mp (sel_mem.mp hm).2
  rw [e_label hw hp12, if_pos ha, and_self_of s1]
  generalize gl (xL wt mk pr tol 3) i = s at s1 s2 s3
  have h := ha
  rw [← s3] at h
  cases h1 : s.testBit a
  · cases h2 : (hit (tgO (wkb wt mk pr tol)) s).testBit a
    · exfalso
      rcases hit_or_sub.mp h with q | q
      · rw [h1] at q; exact absurd q (by decide)
      · rw [h2] at q; exact absurd q (by decide)
    · decide
  · cases h2 : (hit (tgO (wkb wt mk pr tol)) s).testBit a
    · decide
    · exfalso
      obtain ⟨j, _, q1, q2⟩ := hit_tb.mp h2
      exact s2 j a q1 h1 q2
theorem z_rnd (sr tg : Nat → Nat) (a : Nat) : fnd (fun k => (grw sr tg pr k).testBit a) 12 ≠ 0 ↔ (grw sr tg pr 12).testBit a = true := by
  rw [fnd_pos]
  exact ⟨fun ⟨k, _, h2, h3⟩ => grw_le h3 h2, fun h => ⟨12, by decide, Nat.le_refl _, h⟩⟩
theorem z_sil0 (hc : cnt ≤ 12) (hp : pr < 2 ^ cnt) (a : Nat) : slR (srO (wkb wt mk pr tol)) (tgO (wkb wt mk pr tol)) pr a = some 0 ↔ (grw (srO (wkb wt mk pr tol)) (tgO (wkb wt mk pr tol)) pr 12).testBit a = true := by
  have hp12 := pr12 hc hp
  have hw := wOK_of (wt := wt) (mk := mk) (tol := tol) hp12
  have h0 : slOk (srO (wkb wt mk pr tol)) (tgO (wkb wt mk pr tol)) pr a 0 = (grw (srO (wkb wt mk pr tol)) (tgO (wkb wt mk pr tol)) pr 12).testBit a := by
    unfold slOk
    rw [ldf_00, show ldf pr 0 = pr by unfold ldf; rw [Nat.and_zero, Nat.xor_zero]]
    exact Bool.true_and _
  unfold slR
  constructor
  · intro h
    by_cases q : pr.testBit a = false ∨ (srO (wkb wt mk pr tol) a).testBit a = true
    · rw [if_pos q] at h; cases h
    · rw [if_neg q] at h
      rw [← h0]
      exact slU_ok h
  · intro h
    have q : ¬ (pr.testBit a = false ∨ (srO (wkb wt mk pr tol) a).testBit a = true) := by
      rintro (q | q)
      · rw [(grw_in h).2] at q; exact absurd q (by decide)
      · rw [hw.1] at q
        exact grw_cf hw 12 a a h h q
    rw [if_neg q]
    exact slU_0 (by rw [h0]; exact h) 4095
theorem z_silS {a b : Nat} (h : slR (srO (wkb wt mk pr tol)) (tgO (wkb wt mk pr tol)) pr a = some b) : b < 4096 ∧ b.testBit a = false ∧ ldf b pr = 0 := by
  unfold slR at h
  by_cases q : pr.testBit a = false ∨ (srO (wkb wt mk pr tol) a).testBit a = true
  · rw [if_pos q] at h; cases h
  · rw [if_neg q] at h
    have h1 := slU_ok h
    unfold slOk at h1
    rw [Bool.and_eq_true, beq_iff_eq] at h1
    have h2 := sub_ldf.mp h1.1
    refine ⟨slU_lt h, ?_, sub_ldf.mpr (fun i hi => ?_)⟩
    · cases hb : b.testBit a
      · rfl
      · have := h2 a hb
        rw [sw_tb, if_pos rfl] at this
        exact absurd this (by decide)
    · have := h2 i hi
      rw [sw_tb] at this
      by_cases e : i = a
      · rw [if_pos e] at this; exact absurd this (by decide)
      · rw [if_neg e] at this; exact this
theorem x_0len (hc : cnt ≤ 12) (hp : pr < 2 ^ cnt) : (xL wt mk pr tol 0).length ≠ 0 := by
  have hp12 := pr12 hc hp
  have hw := wOK_of (wt := wt) (mk := mk) (tol := tol) hp12
  have h : grw (srO (wkb wt mk pr tol)) (tgO (wkb wt mk pr tol)) pr 12 ∈ xL wt mk pr tol 0 := (memC2 hw hp12).mpr (grw_mC hw hp12)
  have := List.length_pos_of_mem h
  omega
theorem z_sup (hc : cnt ≤ 12) (hp : pr < 2 ^ cnt) {a : Nat} (h : (grw (srO (wkb wt mk pr tol)) (tgO (wkb wt mk pr tol)) pr 12).testBit a = true) : sumU (fun z => ((gl (xL wt mk pr tol 0) z).testBit a).toNat) (xL wt mk pr tol 0).length = (xL wt mk pr tol 0).length := by
  have hp12 := pr12 hc hp
  have hw := wOK_of (wt := wt) (mk := mk) (tol := tol) hp12
  refine sumU_one (fun k hk => ?_)
  have h1 : gl (xL wt mk pr tol 0) k ∈ lCom (srO (wkb wt mk pr tol)) (tgO (wkb wt mk pr tol)) pr := gl_in hk
  have h2 := grw_C hw hp12 ((memC2 hw hp12).mp h1) a h
  show ((gl (xL wt mk pr tol 0) k).testBit a).toNat = 1
  rw [h2]
  rfl
theorem z_self (hc : cnt ≤ 12) (hp : pr < 2 ^ cnt) {a : Nat} (h : (srO (wkb wt mk pr tol) a).testBit a = true) : (unU (gl (xL wt mk pr tol 4)) (xL wt mk pr tol 4).length ||| unU (gl (xL wt mk pr tol 2)) (xL wt mk pr tol 2).length).testBit a = false := by
  have hp12 := pr12 hc hp
  have hw := wOK_of (wt := wt) (mk := mk) (tol := tol) hp12
  rw [hw.1] at h
  refine Bool.eq_false_iff.mpr (fun q => ?_)
  rcases hit_or_sub.mp q with q | q
  · obtain ⟨x, h1, h2⟩ := unL_tb.mp q
    rw [x_4 hc hp] at h1
    exact ((rgF_iff hw hp12).mp ((mR_iff hw hp).mp (sel_mem.mp h1).2).1).2 a a h2 h2 h
  · obtain ⟨x, h1, h2⟩ := unL_tb.mp q
    exact ((arQ_iff hw hp12).mp (mP_arQ ((memP hw hc hp).mp h1))).2.1 a a h2 h2 h
theorem z_end (hc : cnt ≤ 12) (hp : pr < 2 ^ cnt) (h : mks (fun a => (rchv (tgO (wkb wt mk pr tol)) false a).testBit a) cnt = 0) : (xL wt mk pr tol 2).length = (xL wt mk pr tol 3).length := by
  rw [x_2s hc hp, x_3 hc hp, z_odd (wOK_of (pr12 hc hp)) hc hp (tgO_lt _) h]
theorem x_len (hc : cnt ≤ 12) (hp : pr < 2 ^ cnt) : (xL wt mk pr tol 0).length ≤ 2 ^ cnt := by
  have e : xL wt mk pr tol 0 = sel (mC (srO (wkb wt mk pr tol)) (tgO (wkb wt mk pr tol)) pr) (2 ^ cnt) := e_com (wOK_of (pr12 hc hp)) hc hp
  rw [e]
  exact sel_len _ _
end P17
