/-! pure 16: without ways of odd length from an argument to itself, preferred ones are stable -/
/-- a way of n attacks -/
def wlk (tg : Nat → Nat) : Nat → Nat → Nat → Prop
  | 0, x, r => x = r
  | n + 1, x, r => ∃ c, (tg x).testBit c = true ∧ wlk tg n c r
theorem wlk_add {tg : Nat → Nat} : ∀ {n m x y r : Nat}, wlk tg n x y → wlk tg m y r → wlk tg (n + m) x r
  | 0, m, x, y, r, h, h' => by
    have e : x = y := h
    rw [Nat.zero_add, e]; exact h'
  | n + 1, m, x, y, r, ⟨c, h1, h2⟩, h' => by
    rw [show n + 1 + m = (n + m) + 1 by omega]
    exact ⟨c, h1, wlk_add h2 h'⟩
/-- the last attack of a way -/
theorem wlk_last {tg : Nat → Nat} : ∀ {n x r : Nat}, wlk tg (n + 1) x r → ∃ c, wlk tg n x c ∧ (tg c).testBit r = true
  | 0, x, r, ⟨c, h1, h2⟩ => by
    have e : c = r := h2
    rw [e] at h1
    exact ⟨x, rfl, h1⟩
  | n + 1, x, r, ⟨c, h1, h2⟩ => by
    obtain ⟨d, h3, h4⟩ := wlk_last h2
    exact ⟨d, ⟨c, h1, h3⟩, h4⟩
theorem rch_13 {tg : Nat → Nat} (ht : ∀ k, tg k < 4096) (a : Nat) : rchE tg a 13 = rchE tg a 12 := by
  rcases rch_grow ht a 13 with h | ⟨j, hj, h⟩
  · have := pc_le (rchE tg a 13).1
    omega
  · rw [rch_fix h (m := 13) (by omega), rch_fix h (m := 12) (by omega)]
theorem rch_0 (tg : Nat → Nat) (a : Nat) : ∀ k i, (tg a).testBit i = true → (rchE tg a k).2.testBit i = true
  | 0, i, h => h
  | k + 1, i, h => hit_or_sub.mpr (Or.inl (rch_0 tg a k i h))
theorem rch_wlk {tg : Nat → Nat} (ht : ∀ k, tg k < 4096) (h12 : ∀ a b, (tg a).testBit b = true → a < 12) (a : Nat) : ∀ n i, wlk tg (n + 1) a i → (n % 2 = 0 → (rchE tg a 12).2.testBit i = true) ∧ (n % 2 = 1 → (rchE tg a 12).1.testBit i = true)
  | 0, i, ⟨c, h1, h2⟩ => by
    have e : c = i := h2
    rw [e] at h1
    exact ⟨fun _ => rch_0 tg a 12 i h1, fun h => absurd h (by decide)⟩
  | n + 1, i, h => by
    obtain ⟨c, h1, h2⟩ := wlk_last h
    obtain ⟨q0, q1⟩ := rch_wlk ht h12 a n c h1
    have e := rch_13 ht a
    have hc := h12 c i h2
    constructor
    · intro hn
      exact rch_sub tg a 12 i (hit_tb.mpr ⟨c, hc, q1 (by omega), h2⟩)
    · intro hn
      have h3 : (rchE tg a 13).1.testBit i = true := hit_or_sub.mpr (Or.inr (hit_tb.mpr ⟨c, hc, q0 (by omega), h2⟩))
      rw [e] at h3
      exact h3
/-- a way inside U -/
def uwk (tg : Nat → Nat) (U : Nat → Prop) : Nat → Nat → Nat → Prop
  | 0, x, r => x = r ∧ U x
  | n + 1, x, r => U x ∧ ∃ c, (tg x).testBit c = true ∧ uwk tg U n c r
theorem uwk_in {tg : Nat → Nat} {U : Nat → Prop} : ∀ {n x r : Nat}, uwk tg U n x r → U x
  | 0, _, _, h => h.2
  | _ + 1, _, _, h => h.1
theorem uwk_wlk {tg : Nat → Nat} {U : Nat → Prop} : ∀ {n x r : Nat}, uwk tg U n x r → wlk tg n x r
  | 0, _, _, h => h.1
  | _ + 1, _, _, ⟨_, c, h1, h2⟩ => ⟨c, h1, uwk_wlk h2⟩
theorem uwk_add {tg : Nat → Nat} {U : Nat → Prop} : ∀ {n m x y r : Nat}, uwk tg U n x y → uwk tg U m y r → uwk tg U (n + m) x r
  | 0, m, x, y, r, h, h' => by
    rw [Nat.zero_add, h.1]; exact h'
  | n + 1, m, x, y, r, ⟨h0, c, h1, h2⟩, h' => by
    rw [show n + 1 + m = (n + m) + 1 by omega]
    exact ⟨h0, c, h1, uwk_add h2 h'⟩
noncomputable def uSet (tg : Nat → Nat) (U : Nat → Prop) (r : Nat) : Nat := mks (fun x => @decide (∃ n, uwk tg U n x r) (Classical.propDecidable _)) 12
theorem uSet_tb {tg : Nat → Nat} {U : Nat → Prop} (hU : ∀ x, U x → x < 12) {r x : Nat} : (uSet tg U r).testBit x = true ↔ ∃ n, uwk tg U n x r := by
  unfold uSet
  rw [mks_tb, Bool.and_eq_true, decide_eq_true_iff, @decide_eq_true_iff _ (Classical.propDecidable _)]
  exact ⟨fun h => h.2, fun h => ⟨hU x (by obtain ⟨n, hn⟩ := h; exact uwk_in hn), h⟩⟩
/-- one from which no way leads that doesn't lead back -/
theorem root {tg : Nat → Nat} {U : Nat → Prop} (hU : ∀ x, U x → x < 12) : ∀ (k r : Nat), U r → pc (uSet tg U r) < k → ∃ r0, U r0 ∧ ∀ x n, uwk tg U n x r0 → ∃ m, uwk tg U m r0 x := by
  intro k
  induction k with
  | zero => intro r _ h; exact absurd h (Nat.not_lt_zero _)
  | succ k ih =>
    intro r hr hk
    by_cases q : ∀ x n, uwk tg U n x r → ∃ m, uwk tg U m r x
    · exact ⟨r, hr, q⟩
    · obtain ⟨x, hx⟩ := Classical.not_forall.mp q
      obtain ⟨n, hn⟩ := Classical.not_forall.mp hx
      have h1 : uwk tg U n x r := Classical.byContradiction (fun z => hn (fun w => absurd w z))
      have h2 : ¬ ∃ m, uwk tg U m r x := fun z => hn (fun _ => z)
      have hlt : pc (uSet tg U x) < pc (uSet tg U r) := by
        refine pc_lt_of (mks12 _) (fun i hi => ?_) (fun e => ?_)
        · obtain ⟨m, hm⟩ := (uSet_tb hU).mp hi
          exact (uSet_tb hU).mpr ⟨m + n, uwk_add hm h1⟩
        · have h3 : (uSet tg U r).testBit r = true := (uSet_tb hU).mpr ⟨0, rfl, hr⟩
          rw [← e] at h3
          exact h2 ((uSet_tb hU).mp h3)
      exact ih x (uwk_in h1) (by omega)
section P16
variable {sr tg : Nat → Nat} {pr cnt sf : Nat}
theorem pre_sta (hw : wOK sr tg pr) (hc : cnt ≤ 12) (hp : pr < 2 ^ cnt) (hno : ∀ a n, n % 2 = 1 → wlk tg n a a → False) {E : Nat} (hE : mP sr tg pr cnt E = true) : mS tg pr E = true := by
  have hp12 := pr12 hc hp
  obtain ⟨eA, eM⟩ := (mP_iff hw hc hp).mp hE
  obtain ⟨e1, e2, e4⟩ := (mC_iff hw hp12).mp (mP_mC hw hc hp hE)
  by_cases hq : ∃ r, pr.testBit r = true ∧ ¬ E.testBit r = true ∧ ¬ (hit tg E).testBit r = true
  · exfalso
    obtain ⟨r, hr⟩ := hq
    have hU : ∀ x, (pr.testBit x = true ∧ ¬ E.testBit x = true ∧ ¬ (hit tg E).testBit x = true) → x < 12 := fun x hx => in_cnt (cnt := 12) hp12 hx.1
    obtain ⟨r0, hr0, hback⟩ := root (tg := tg) (U := fun x => pr.testBit x = true ∧ ¬ E.testBit x = true ∧ ¬ (hit tg E).testBit x = true) hU 13 r hr (Nat.lt_succ_of_le (pc_le _))
    -- no argument has ways of both kinds to r0
    have hdis : ∀ x n m, n % 2 = 0 → m % 2 = 1 → uwk tg (fun x => pr.testBit x = true ∧ ¬ E.testBit x = true ∧ ¬ (hit tg E).testBit x = true) n x r0 → uwk tg (fun x => pr.testBit x = true ∧ ¬ E.testBit x = true ∧ ¬ (hit tg E).testBit x = true) m x r0 → False := by
      intro x n m hn hm h1 h2
      obtain ⟨k, hk⟩ := hback x n h1
      rcases Nat.mod_two_eq_zero_or_one k with z | z
      · exact hno r0 (k + m) (by omega) (uwk_wlk (uwk_add hk h2))
      · exact hno r0 (k + n) (by omega) (uwk_wlk (uwk_add hk h1))
    -- what attacks one of U is in U, or E attacks it
    have hin : ∀ x i, (pr.testBit x = true ∧ ¬ E.testBit x = true ∧ ¬ (hit tg E).testBit x = true) → (tg i).testBit x = true → ¬ (hit tg E).testBit i = true → (pr.testBit i = true ∧ ¬ E.testBit i = true ∧ ¬ (hit tg E).testBit i = true) := by
      intro x i hx hix hni
      have hip := (hw.2 i x hix).1
      exact ⟨hip, fun hiE => hx.2.2 (hit_tb.mpr ⟨i, in_cnt (cnt := 12) hp12 hip, hiE, hix⟩), hni⟩
    have hAt : ∀ x, (mks (fun x => @decide (∃ n, n % 2 = 0 ∧ uwk tg (fun x => pr.testBit x = true ∧ ¬ E.testBit x = true ∧ ¬ (hit tg E).testBit x = true) n x r0) (Classical.propDecidable _)) 12).testBit x = true ↔ ∃ n, n % 2 = 0 ∧ uwk tg (fun x => pr.testBit x = true ∧ ¬ E.testBit x = true ∧ ¬ (hit tg E).testBit x = true) n x r0 := by
      intro x
      rw [mks_tb, Bool.and_eq_true, decide_eq_true_iff, @decide_eq_true_iff _ (Classical.propDecidable _)]
      exact ⟨fun h => h.2, fun h => ⟨hU x (by obtain ⟨n, _, hn⟩ := h; exact uwk_in hn), h⟩⟩
    generalize mks (fun x => @decide (∃ n, n % 2 = 0 ∧ uwk tg (fun x => pr.testBit x = true ∧ ¬ E.testBit x = true ∧ ¬ (hit tg E).testBit x = true) n x r0) (Classical.propDecidable _)) 12 = A at hAt
    have hAU : ∀ x, A.testBit x = true → (pr.testBit x = true ∧ ¬ E.testBit x = true ∧ ¬ (hit tg E).testBit x = true) := fun x hx => by
      obtain ⟨n, _, hn⟩ := (hAt x).mp hx
      exact uwk_in hn
    have htA : arQ sr tg pr (E ||| A) = true := by
      refine (arQ_iff hw hp12).mpr ⟨fun i hi => ?_, fun a b ha hb hab => ?_, fun a ha => ?_⟩
      · rcases hit_or_sub.mp hi with q | q
        · exact e1 i q
        · exact (hAU i q).1
      · rcases hit_or_sub.mp ha with qa | qa
        · rcases hit_or_sub.mp hb with qb | qb
          · exact e2 a b qa qb hab
          · exact (hAU b qb).2.2 (hit_tb.mpr ⟨a, in_cnt (cnt := 12) hp12 (e1 a qa), qa, hab⟩)
        · rcases hit_or_sub.mp hb with qb | qb
          · rw [← e4] at qb
            exact (hAU a qa).2.2 (gby_hit hw qb hab)
          · obtain ⟨n, hn, h1⟩ := (hAt a).mp qa
            obtain ⟨m, hm, h2⟩ := (hAt b).mp qb
            exact hdis a n (m + 1) hn (by omega) h1 ⟨uwk_in h1, b, hab, h2⟩
      · rcases hit_or_sub.mp ha with qa | qa
        · rw [← e4] at qa
          exact gby_mono (fun i hi => hit_or_sub.mpr (Or.inl hi)) a qa
        · have hUa := hAU a qa
          refine gby_tb.mpr ⟨in_cnt (cnt := 12) hp12 hUa.1, hUa.1, fun i hi _ => ?_⟩
          rw [hw.1] at hi
          by_cases qi : (hit tg E).testBit i = true
          · exact hit_mono (fun j hj => hit_or_sub.mpr (Or.inl hj)) i qi
          · have hUi := hin a i hUa hi qi
            -- something attacks i, as the complete E doesn't defend it
            by_cases qc : ∃ c, (tg c).testBit i = true ∧ ¬ (hit tg E).testBit c = true
            · obtain ⟨c, hc1, hc2⟩ := qc
              have hUc := hin i c hUi hc1 hc2
              obtain ⟨n, hn, h1⟩ := (hAt a).mp qa
              have hcA : A.testBit c = true := (hAt c).mpr ⟨n + 2, by omega, hUc, i, hc1, hUi, a, hi, h1⟩
              exact hit_tb.mpr ⟨c, hU c hUc, hit_or_sub.mpr (Or.inr hcA), hc1⟩
            · exfalso
              have hiE : (gby sr tg pr E).testBit i = true := gby_tb.mpr ⟨hU i hUi, hUi.1, fun c hc1 _ => by
                rw [hw.1] at hc1
                by_cases z : (hit tg E).testBit c = true
                · exact z
                · exact (qc ⟨c, hc1, z⟩).elim⟩
              rw [e4] at hiE
              exact hUi.2.1 hiE
    have hEt := eM (E ||| A) htA (fun i hi => hit_or_sub.mpr (Or.inl hi))
    have hrA : A.testBit r0 = true := (hAt r0).mpr ⟨0, rfl, rfl, hr0⟩
    exact hr0.2.1 (by rw [hEt]; exact hit_or_sub.mpr (Or.inr hrA))
  · refine (mS_iff hw hp12).mpr ⟨e1, e2, sub_anti (cov_in hw e1) (fun i hi => ?_)⟩
    by_cases q1 : E.testBit i = true
    · exact hit_or_sub.mpr (Or.inl q1)
    · by_cases q2 : (hit tg E).testBit i = true
      · exact hit_or_sub.mpr (Or.inr q2)
      · exact (hq ⟨i, hi, q1, q2⟩).elim
theorem no_odd (hw : wOK sr tg pr) (hc : cnt ≤ 12) (hp : pr < 2 ^ cnt) (ht : ∀ k, tg k < 4096) (h : mks (fun a => (rchv tg false a).testBit a) cnt = 0) : ∀ a n, n % 2 = 1 → wlk tg n a a → False := by
  intro a n hn hwl
  obtain ⟨k, rfl⟩ : ∃ k, n = k + 1 := ⟨n - 1, by omega⟩
  have hap : pr.testBit a = true := by
    obtain ⟨c, h1, _⟩ := hwl
    exact (hw.2 a c h1).1
  have h1 : (rchE tg a 12).2.testBit a = true := (rch_wlk ht (fun x y hxy => in_cnt (cnt := 12) (pr12 hc hp) (hw.2 x y hxy).1) a k a hwl).1 (by omega)
  have h2 : (mks (fun a => (rchv tg false a).testBit a) cnt).testBit a = true := by
    rw [mks_tb, Bool.and_eq_true]
    exact ⟨decide_eq_true (in_cnt hp hap), h1⟩
  rw [h, Nat.zero_testBit] at h2
  exact absurd h2 (by decide)
theorem z_odd (hw : wOK sr tg pr) (hc : cnt ≤ 12) (hp : pr < 2 ^ cnt) (ht : ∀ k, tg k < 4096) (h : mks (fun a => (rchv tg false a).testBit a) cnt = 0) : sel (mP sr tg pr cnt) (2 ^ cnt) = sel (mS tg pr) (2 ^ cnt) :=
  sel_cong (fun k _ => bool_ext ⟨fun q => pre_sta hw hc hp (no_odd hw hc hp ht h) q, fun q => sta_pre hw hc hp q⟩)
end P16
