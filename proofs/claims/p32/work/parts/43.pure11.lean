/-! pure 11: the dispute is the grounded set; silence -/
section P11
variable {sr tg : Nat → Nat} {pr cnt : Nat}
theorem gby_tb {ins n a : Nat} : (gby sr tg ins n).testBit a = true ↔ a < 12 ∧ ins.testBit a = true ∧ ∀ i, (sr a).testBit i = true → ins.testBit i = true → (hit tg n).testBit i = true := safe_tb
theorem grw_z (i : Nat) : (grw sr tg pr 0).testBit i = false := Nat.zero_testBit i
theorem grw_s (k : Nat) : grw sr tg pr (k + 1) = gby sr tg pr (grw sr tg pr k) := rfl
theorem grw_in {k i : Nat} (h : (grw sr tg pr k).testBit i = true) : i < 12 ∧ pr.testBit i = true := by
  cases k with
  | zero => rw [grw_z] at h; exact absurd h (by decide)
  | succ k => rw [grw_s] at h; exact ⟨(gby_tb.mp h).1, (gby_tb.mp h).2.1⟩
theorem grw_up : ∀ (k i : Nat), (grw sr tg pr k).testBit i = true → (grw sr tg pr (k + 1)).testBit i = true
  | 0, i, h => by rw [grw_z] at h; exact absurd h (by decide)
  | k + 1, i, h => by
    rw [grw_s] at h ⊢
    exact gby_mono (grw_up k) i h
theorem grw_le {k i : Nat} (h : (grw sr tg pr k).testBit i = true) : ∀ {m : Nat}, k ≤ m → (grw sr tg pr m).testBit i = true
  | 0, hm => by rw [show k = 0 by omega] at h; exact h
  | m + 1, hm => by
    by_cases e : k = m + 1
    · rw [← e]; exact h
    · exact grw_up m i (grw_le h (m := m) (by omega))
theorem grw_cf (hw : wOK sr tg pr) : ∀ (k a b : Nat), (grw sr tg pr k).testBit a = true → (grw sr tg pr k).testBit b = true → (tg a).testBit b = true → False
  | 0, a, _, h, _, _ => by rw [grw_z] at h; exact absurd h (by decide)
  | k + 1, a, b, ha, hb, hab => by
    rw [grw_s] at ha hb
    have h1 := (gby_tb.mp hb).2.2 a (by rw [hw.1]; exact hab) (hw.2 a b hab).1
    obtain ⟨c, _, hcE, hca⟩ := hit_tb.mp h1
    have h2 := (gby_tb.mp ha).2.2 c (by rw [hw.1]; exact hca) (hw.2 c a hca).1
    obtain ⟨d, _, hdE, hdc⟩ := hit_tb.mp h2
    exact grw_cf hw k d c hdE hcE hdc
theorem gL_t {G : Nat → Bool} {mv : Nat} : ∀ {n : Nat}, gL G true mv n = true ↔ ∃ a, a < n ∧ mv.testBit a = true ∧ G a = true
  | 0 => ⟨fun h => absurd (show false = true from h) Bool.false_ne_true, fun ⟨a, h, _⟩ => absurd h (Nat.not_lt_zero a)⟩
  | n + 1 => by
    have ih := gL_t (G := G) (mv := mv) (n := n)
    cases hm : mv.testBit n
    · rw [gL_no hm, ih]
      constructor
      · rintro ⟨a, h1, h2⟩; exact ⟨a, by omega, h2⟩
      · rintro ⟨a, h1, h2, h3⟩
        refine ⟨a, ?_, h2, h3⟩
        by_cases e : a = n
        · rw [e, hm] at h2; exact absurd h2 (by decide)
        · omega
    · rw [gL_yt hm, Bool.or_eq_true, ih]
      constructor
      · rintro (⟨a, h1, h2⟩ | h)
        · exact ⟨a, by omega, h2⟩
        · exact ⟨n, Nat.lt_succ_self n, hm, h⟩
      · rintro ⟨a, h1, h2, h3⟩
        by_cases e : a = n
        · rw [← e]; exact Or.inr h3
        · exact Or.inl ⟨a, by omega, h2, h3⟩
theorem gL_f {G : Nat → Bool} {mv : Nat} : ∀ {n : Nat}, gL G false mv n = true ↔ ∀ a, a < n → mv.testBit a = true → G a = true
  | 0 => ⟨fun _ a h => absurd h (Nat.not_lt_zero a), fun _ => rfl⟩
  | n + 1 => by
    have ih := gL_f (G := G) (mv := mv) (n := n)
    cases hm : mv.testBit n
    · rw [gL_no hm, ih]
      constructor
      · intro h a h1 h2
        by_cases e : a = n
        · rw [e, hm] at h2; exact absurd h2 (by decide)
        · exact h a (by omega) h2
      · intro h a h1 h2; exact h a (by omega) h2
    · rw [gL_yf hm, Bool.and_eq_true, ih]
      constructor
      · rintro ⟨h, hn⟩ a h1 h2
        by_cases e : a = n
        · rw [e]; exact hn
        · exact h a (by omega) h2
      · intro h; exact ⟨fun a h1 h2 => h a (by omega) h2, h n (Nat.lt_succ_self n) hm⟩
theorem gV_f (hc : cnt ≤ 12) (last mv : Nat) : gV sr cnt false last mv = true ↔ ∀ a, a < cnt → (sr last).testBit a = true → gV sr cnt true a (mv ||| 2 ^ a) = true := by
  rw [gV_eq hc]; exact gL_f
theorem gV_t (hc : cnt ≤ 12) (last mv : Nat) : gV sr cnt true last mv = true ↔ ∃ a, a < cnt ∧ (ldf (sr last) mv).testBit a = true ∧ gV sr cnt false a (mv ||| 2 ^ a) = true := by
  rw [gV_eq hc]; exact gL_t
/-- the earliest set of the row that attacks a -/
theorem grw_first {a : Nat} : ∀ (k : Nat), (∃ b, (grw sr tg pr k).testBit b = true ∧ (tg b).testBit a = true) → ∃ j b, j < k ∧ (grw sr tg pr (j + 1)).testBit b = true ∧ (tg b).testBit a = true ∧ ∀ b', (grw sr tg pr j).testBit b' = true → (tg b').testBit a = true → False
  | 0, ⟨b, h, _⟩ => by rw [grw_z] at h; exact absurd h (by decide)
  | k + 1, ⟨b, h1, h2⟩ => by
    by_cases q : ∃ b, (grw sr tg pr k).testBit b = true ∧ (tg b).testBit a = true
    · obtain ⟨j, b', hj, r⟩ := grw_first k q
      exact ⟨j, b', by omega, r⟩
    · exact ⟨k, b, Nat.lt_succ_self k, h1, h2, fun b' h3 h4 => q ⟨b', h3, h4⟩⟩
theorem dis_win (hw : wOK sr tg pr) (hc : cnt ≤ 12) (hp : pr < 2 ^ cnt) : ∀ (n k : Nat), k < n → ∀ (last mv : Nat), (grw sr tg pr (k + 1)).testBit last = true → (∀ i, mv.testBit i = true → (grw sr tg pr k).testBit i = true → False) → gV sr cnt false last mv = true
  | 0, k, hk, _, _, _, _ => absurd hk (Nat.not_lt_zero k)
  | n + 1, k, hk, last, mv, hl, hm => by
    rw [gV_f hc]
    intro a ha hsa
    have hal : (tg a).testBit last = true := by rw [← hw.1]; exact hsa
    have hna : ∀ j, j ≤ k + 1 → (grw sr tg pr j).testBit a = true → False := fun j hj h => grw_cf hw (k + 1) a last (grw_le h hj) hl hal
    have hl2 : (gby sr tg pr (grw sr tg pr k)).testBit last = true := hl
    obtain ⟨b0, _, hb0, hb1⟩ := hit_tb.mp ((gby_tb.mp hl2).2.2 a hsa (hw.2 a last hal).1)
    obtain ⟨j, b, hj, hb, hba, hmin⟩ := grw_first k ⟨b0, hb0, hb1⟩
    have hbk : (grw sr tg pr k).testBit b = true := grw_le hb hj
    have hne : a ≠ b := fun e => hna (j + 1) (by omega) (by rw [e]; exact hb)
    rw [gV_t hc]
    refine ⟨b, in_cnt hp (grw_in hb).2, ?_, ?_⟩
    · rw [ldf_tb, Bool.and_eq_true, Bool.not_eq_true']
      refine ⟨by rw [hw.1]; exact hba, ?_⟩
      cases hq : (mv ||| 2 ^ a).testBit b
      · rfl
      · rcases or_bit_tb.mp hq with h | h
        · exact (hm b h hbk).elim
        · exact absurd h hne
    · refine dis_win hw hc hp n j (by omega) b _ hb (fun i hi hg => ?_)
      rcases or_bit_tb.mp hi with h | h
      · rcases or_bit_tb.mp h with h | h
        · exact hm i h (grw_le hg (by omega))
        · rw [← h] at hg; exact hna j (by omega) hg
      · rw [← h] at hg; exact hmin b hg hba
theorem dis_lose (hw : wOK sr tg pr) (hc : cnt ≤ 12) (hp : pr < 2 ^ cnt) : ∀ (n last mv : Nat), mu false mv < n → last < 12 → pr.testBit last = true → (grw sr tg pr 12).testBit last = false → gV sr cnt false last mv = true → False := by
  intro n
  induction n with
  | zero => intro last mv h _ _ _ _; exact absurd h (Nat.not_lt_zero _)
  | succ n ih =>
    intro last mv hn hl hpl hg hv
    have hx : ∃ a, (sr last).testBit a = true ∧ pr.testBit a = true ∧ (hit tg (grw sr tg pr 12)).testBit a = false := by
      by_cases q : ∃ a, (sr last).testBit a = true ∧ pr.testBit a = true ∧ (hit tg (grw sr tg pr 12)).testBit a = false
      · exact q
      · exfalso
        have h2 : (gby sr tg pr (grw sr tg pr 12)).testBit last = true := gby_tb.mpr ⟨hl, hpl, fun i h1 h2 => by
          cases h3 : (hit tg (grw sr tg pr 12)).testBit i
          · exact (q ⟨i, h1, h2, h3⟩).elim
          · rfl⟩
        rw [grw_12, hg] at h2
        exact absurd h2 (by decide)
    obtain ⟨a, h1, h2, h3⟩ := hx
    have hac : a < cnt := in_cnt hp h2
    have h4 := (gV_f hc last mv).mp hv a hac h1
    obtain ⟨b, hb1, hb2, hb3⟩ := (gV_t hc a _).mp h4
    rw [ldf_tb, Bool.and_eq_true, Bool.not_eq_true'] at hb2
    have hba : (tg b).testBit a = true := by rw [← hw.1]; exact hb2.1
    have hbg : (grw sr tg pr 12).testBit b = false := by
      cases hq : (grw sr tg pr 12).testBit b
      · rfl
      · rw [hit_tb.mpr ⟨b, by omega, hq, hba⟩] at h3; exact absurd h3 (by decide)
    have m1 := mu_f (mv := mv) (a := a)
    have m2 := mu_t (mv := mv ||| 2 ^ a) (a := b) (by omega) hb2.2
    exact ih b _ (by omega) (by omega) (hw.2 b a hba).1 hbg hb3
theorem e_wins (hw : wOK sr tg pr) (hc : cnt ≤ 12) (hp : pr < 2 ^ cnt) {v : Nat} (hv : v < cnt) : (grw sr tg pr 12).testBit v = (pr.testBit v && gV sr cnt false v (2 ^ v)) := by
  apply bool_ext
  rw [Bool.and_eq_true]
  constructor
  · intro h
    refine ⟨(grw_in h).2, ?_⟩
    obtain ⟨k, hk1, hk2⟩ : ∃ k, (grw sr tg pr (k + 1)).testBit v = true ∧ (grw sr tg pr k).testBit v = false := by
      have aux : ∀ m, (grw sr tg pr m).testBit v = true → ∃ k, (grw sr tg pr (k + 1)).testBit v = true ∧ (grw sr tg pr k).testBit v = false := by
        intro m
        induction m with
        | zero => intro h; rw [grw_z] at h; exact absurd h (by decide)
        | succ m ih =>
          intro h
          cases hq : (grw sr tg pr m).testBit v
          · exact ⟨m, h, hq⟩
          · exact ih hq
      exact aux 12 h
    refine dis_win hw hc hp (k + 1) k (Nat.lt_succ_self k) v (2 ^ v) hk1 (fun i h1 h2 => ?_)
    rw [tb_pow] at h1
    have e := of_decide_eq_true h1
    rw [← e, hk2] at h2
    exact absurd h2 (by decide)
  · rintro ⟨h1, h2⟩
    cases hq : (grw sr tg pr 12).testBit v
    · exact (dis_lose hw hc hp _ v (2 ^ v) (Nat.lt_succ_self _) (by omega) h1 hq h2).elim
    · rfl
-- ===== silence =====
theorem grw_res {sr' tg' : Nat → Nat} {q : Nat} (hw : wOK sr tg pr) (hw' : wOK sr' tg' q) (hR : ∀ a b, (tg' a).testBit b = (q.testBit a && (q.testBit b && (tg a).testBit b))) : ∀ k, grw sr' tg' q k = grw sr tg q k
  | 0 => rfl
  | k + 1 => by
    rw [grw_s, grw_s, grw_res hw hw' hR k]
    refine nat_tb_ext (fun a => ?_)
    rw [gby_tb, gby_tb]
    refine and_congr_right (fun _ => and_congr_right (fun hqa => forall_congr' (fun i => ?_)))
    rw [hw'.1, hw.1, hR]
    constructor
    · intro h h1 h2
      have h3 := h (by rw [h1, h2, hqa]; rfl) h2
      obtain ⟨j, hj, h4, h5⟩ := hit_tb.mp h3
      rw [hR, Bool.and_eq_true, Bool.and_eq_true] at h5
      exact hit_tb.mpr ⟨j, hj, h4, h5.2.2⟩
    · intro h h1 h2
      rw [Bool.and_eq_true, Bool.and_eq_true] at h1
      obtain ⟨j, hj, h4, h5⟩ := hit_tb.mp (h h1.2.2 h2)
      exact hit_tb.mpr ⟨j, hj, h4, by rw [hR, h5, h2, (grw_in h4).2]; rfl⟩
theorem slU_ext {ok ok' : Nat → Bool} : ∀ {n : Nat}, (∀ k, k < n → ok k = ok' k) → slU ok n = slU ok' n
  | 0, _ => rfl
  | n + 1, h => by
    show (if ok n && ltO (pc n) (slU ok n) then some n else slU ok n) = if ok' n && ltO (pc n) (slU ok' n) then some n else slU ok' n
    rw [slU_ext (n := n) (fun k hk => h k (by omega)), h n (Nat.lt_succ_self n)]
theorem slU_cut {ok : Nat → Bool} {n : Nat} (h : ∀ k, n ≤ k → ok k = false) : ∀ {m : Nat}, n ≤ m → slU ok m = slU ok n
  | 0, hm => by rw [show n = 0 by omega]
  | m + 1, hm => by
    by_cases e : n = m + 1
    · rw [e]
    · rw [slU_f1 (h m (by omega)), slU_cut h (m := m) (by omega)]
theorem sub_lt {z n : Nat} (h : ldf z pr = 0) (hp : pr < 2 ^ n) : z < 2 ^ n := lt_tb (fun i hi => by
  cases hq : z.testBit i
  · rfl
  · have := ldf_0.mp h i hq
    rw [tb_lt hp hi] at this
    exact absurd this (by decide))
theorem e_sil {wt mk : Nat → Nat} {tol v : Nat} (hc : cnt ≤ 12) (hp : pr < 2 ^ cnt) : slR (srO (wkb wt mk pr tol)) (tgO (wkb wt mk pr tol)) pr v = slU (slM wt mk pr tol v) (2 ^ cnt) := by
  have hp12 : pr < 4096 := pr12 hc hp
  have hw := wOK_of (wt := wt) (mk := mk) (tol := tol) hp12
  have hres : ∀ z, grw (srO (wkb wt mk (ldf pr z) tol)) (tgO (wkb wt mk (ldf pr z) tol)) (ldf pr z) 12 = grw (srO (wkb wt mk pr tol)) (tgO (wkb wt mk pr tol)) (ldf pr z) 12 := fun z => by
    have hq12 : ldf pr z < 4096 := ldf12 hp12
    refine grw_res hw (wOK_of hq12) (fun a b => ?_) 12
    unfold tgO
    rw [mks_tb, mks_tb, wkb_eq, wkb_eq]
    by_cases hb : b < 12
    · rw [decide_eq_true hb]
      cases h1 : (ldf pr z).testBit a
      · simp
      · cases h2 : (ldf pr z).testBit b
        · simp
        · rw [ldf_tb, Bool.and_eq_true] at h1 h2
          rw [h1.1, h2.1]
          simp
    · rw [decide_eq_false hb, Bool.false_and, Bool.false_and, Bool.and_false, Bool.and_false]
  unfold slR
  by_cases h0 : pr.testBit v = false ∨ (srO (wkb wt mk pr tol) v).testBit v = true
  · rw [if_pos h0]
    refine (slU_none (fun z => ?_) _).symm
    unfold slM
    rcases h0 with h0 | h0
    · rw [h0]; rfl
    · cases hg : (grw (srO (wkb wt mk (ldf pr z) tol)) (tgO (wkb wt mk (ldf pr z) tol)) (ldf pr z) 12).testBit v
      · simp
      · exfalso
        have hqv := (grw_in hg).2
        have hq12 : ldf pr z < 4096 := ldf12 hp12
        refine grw_cf (wOK_of hq12) 12 v v hg hg ?_
        rw [hw.1] at h0
        unfold tgO at h0 ⊢
        rw [mks_tb, wkb_eq, Bool.and_eq_true, Bool.and_eq_true, Bool.and_eq_true] at h0
        rw [mks_tb, wkb_eq, hqv, h0.1, h0.2.2.2]
        rfl
  · rw [if_neg h0]
    have hpv : pr.testBit v = true := by
      cases hq : pr.testBit v
      · exact absurd (Or.inl hq) h0
      · rfl
    have hout : ∀ z, 2 ^ cnt ≤ z → slOk (srO (wkb wt mk pr tol)) (tgO (wkb wt mk pr tol)) pr v z = false := fun z hz => by
      unfold slOk
      cases hq : (ldf z (sw pr v false) == 0)
      · rfl
      · exfalso
        have h1 := ldf_0.mp (beq_iff_eq.mp hq)
        have h2 : ldf z pr = 0 := ldf_0.mpr (fun i hi => by
          have h3 := h1 i hi
          rw [sw_tb] at h3
          by_cases e : i = v
          · rw [e]; exact hpv
          · rw [if_neg e] at h3; exact h3)
        have := sub_lt h2 hp
        omega
    rw [slU_cut hout (cnt_p12 hc)]
    refine slU_ext (fun z _ => ?_)
    unfold slOk slM
    rw [hres, hpv, Bool.true_and, ← Bool.and_assoc]
    congr 1
    apply bool_ext
    rw [Bool.and_eq_true, beq_iff_eq, beq_iff_eq, Bool.not_eq_true', ldf_0, ldf_0]
    constructor
    · intro h
      refine ⟨fun i hi => ?_, ?_⟩
      · have h3 := h i hi
        rw [sw_tb] at h3
        by_cases e : i = v
        · rw [e]; exact hpv
        · rw [if_neg e] at h3; exact h3
      · cases hq : z.testBit v
        · rfl
        · have h3 := h v hq
          rw [sw_tb, if_pos rfl] at h3
          exact absurd h3 (by decide)
    · rintro ⟨h1, h2⟩ i hi
      rw [sw_tb]
      by_cases e : i = v
      · rw [e, h2] at hi; exact absurd hi (by decide)
      · rw [if_neg e]; exact h1 i hi
end P11
