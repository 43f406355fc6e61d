/-! pure 9: the dispute as the reference plays it -/
def gL (G : Nat → Bool) (t : Bool) (mv : Nat) : Nat → Bool
  | 0 => !t
  | k + 1 => if mv.testBit k then (if t then (gL G t mv k || G k) else (gL G t mv k && G k)) else gL G t mv k
theorem gL_no {G : Nat → Bool} {t : Bool} {mv k : Nat} (h : mv.testBit k = false) : gL G t mv (k + 1) = gL G t mv k := if_neg (by rw [h]; decide)
theorem gL_yt {G : Nat → Bool} {mv k : Nat} (h : mv.testBit k = true) : gL G true mv (k + 1) = (gL G true mv k || G k) := if_pos h
theorem gL_yf {G : Nat → Bool} {mv k : Nat} (h : mv.testBit k = true) : gL G false mv (k + 1) = (gL G false mv k && G k) := if_pos h
theorem gL_ext {G G' : Nat → Bool} {t : Bool} {mv : Nat} : ∀ {n : Nat}, (∀ k, k < n → mv.testBit k = true → G k = G' k) → gL G t mv n = gL G' t mv n
  | 0, _ => rfl
  | n + 1, h => by
    have ih := gL_ext (t := t) (mv := mv) (n := n) (fun k hk => h k (by omega))
    cases hb : mv.testBit n
    · rw [gL_no hb, gL_no hb, ih]
    · cases t
      · rw [gL_yf hb, gL_yf hb, ih, h n (Nat.lt_succ_self n) hb]
      · rw [gL_yt hb, gL_yt hb, ih, h n (Nat.lt_succ_self n) hb]
/-- the first player moves only with what no one has moved with -/
def gM (fr : Nat → Nat) (t : Bool) (last mv : Nat) : Nat := if t then ldf (fr last) mv else fr last
def gW (fr : Nat → Nat) (cnt : Nat) : Nat → Bool → Nat → Nat → Bool
  | 0, _, _, _ => false
  | d + 1, t, last, mv => gL (fun a => gW fr cnt d (!t) a (mv ||| 2 ^ a)) t (gM fr t last mv) cnt
def mu (t : Bool) (mv : Nat) : Nat := 2 * (12 - pc mv) + (if t then 0 else 1)
theorem mu_lt (t : Bool) (mv : Nat) : mu t mv < 29 := by
  unfold mu
  generalize pc mv = x
  cases t <;> simp <;> omega
theorem mu_f {mv a : Nat} : mu true (mv ||| 2 ^ a) < mu false mv := by
  unfold mu
  have h : pc mv ≤ pc (mv ||| 2 ^ a) := pcU_mono (fun i hi => or_bit_tb.mpr (Or.inl hi)) 12
  generalize pc mv = x at h ⊢
  generalize pc (mv ||| 2 ^ a) = y at h ⊢
  simp
  omega
theorem mu_t {mv a : Nat} (ha : a < 12) (hb : mv.testBit a = false) : mu false (mv ||| 2 ^ a) < mu true mv := by
  unfold mu
  have h : pc mv < pc (mv ||| 2 ^ a) := pcU_lt (fun i hi => or_bit_tb.mpr (Or.inl hi)) (or_bit_tb.mpr (Or.inr rfl)) hb ha
  have h2 := pc_le (mv ||| 2 ^ a)
  generalize pc mv = x at h ⊢
  generalize pc (mv ||| 2 ^ a) = y at h h2 ⊢
  simp
  omega
theorem gM_new {fr : Nat → Nat} {last mv a : Nat} (h : (gM fr true last mv).testBit a = true) : mv.testBit a = false := by
  have h2 : (ldf (fr last) mv).testBit a = true := h
  rw [ldf_tb, Bool.and_eq_true, Bool.not_eq_true'] at h2
  exact h2.2
theorem mu_step {fr : Nat → Nat} {t : Bool} {last mv a : Nat} (ha : a < 12) (h : (gM fr t last mv).testBit a = true) : mu (!t) (mv ||| 2 ^ a) < mu t mv := by
  cases t
  · exact mu_f
  · exact mu_t ha (gM_new h)
theorem gW_fuel {fr : Nat → Nat} {cnt : Nat} (hc : cnt ≤ 12) : ∀ (d d' : Nat) (t : Bool) (last mv : Nat), mu t mv < d → mu t mv < d' → gW fr cnt d t last mv = gW fr cnt d' t last mv
  | 0, _, _, _, _, h, _ => absurd h (Nat.not_lt_zero _)
  | _ + 1, 0, _, _, _, _, h => absurd h (Nat.not_lt_zero _)
  | d + 1, d' + 1, t, last, mv, h, h' => by
    show gL (fun a => gW fr cnt d (!t) a (mv ||| 2 ^ a)) t (gM fr t last mv) cnt = gL (fun a => gW fr cnt d' (!t) a (mv ||| 2 ^ a)) t (gM fr t last mv) cnt
    refine gL_ext (fun a ha hb => ?_)
    have hm := mu_step (Nat.lt_of_lt_of_le ha hc) hb
    exact gW_fuel hc d d' (!t) a _ (by omega) (by omega)
def gV (fr : Nat → Nat) (cnt : Nat) (t : Bool) (last mv : Nat) : Bool := gW fr cnt 30 t last mv
theorem gV_eq {fr : Nat → Nat} {cnt : Nat} (hc : cnt ≤ 12) (t : Bool) (last mv : Nat) : gV fr cnt t last mv = gL (fun a => gV fr cnt (!t) a (mv ||| 2 ^ a)) t (gM fr t last mv) cnt := by
  show gL (fun a => gW fr cnt 29 (!t) a (mv ||| 2 ^ a)) t (gM fr t last mv) cnt = _
  refine gL_ext (fun a ha hb => ?_)
  have h1 := mu_lt (!t) (mv ||| 2 ^ a)
  exact gW_fuel hc 29 30 (!t) a _ h1 (by omega)
-- ===== the memo =====
def ix (t : Bool) (last mv : Nat) : Nat := ((if t then 12 else 0) + last) * 4096 + mv
theorem ix_lt {t : Bool} {last mv : Nat} (h1 : last < 12) (h2 : mv < 4096) : ix t last mv < 98304 := by
  unfold ix
  cases t <;> simp <;> omega
theorem ix_inj {t t' : Bool} {last last' mv mv' : Nat} (h1 : last < 12) (h2 : mv < 4096) (h1' : last' < 12) (h2' : mv' < 4096) (h : ix t last mv = ix t' last' mv') : t = t' ∧ last = last' ∧ mv = mv' := by
  unfold ix at h
  cases t <;> cases t' <;> simp at h <;> refine ⟨?_, ?_, ?_⟩ <;> first | rfl | omega | (exfalso; omega)
def mVl (b : Bool) : Nat := if b then 1 else 2
def mOK (fr : Nat → Nat) (cnt : Nat) (ou : Nat → Nat) : Prop := ∀ (t : Bool) (last mv : Nat), last < 12 → mv < 4096 → ou (ix t last mv) = 0 ∨ ou (ix t last mv) = mVl (gV fr cnt t last mv)
theorem mVl_lt (b : Bool) : mVl b < 3 := by cases b <;> decide
theorem mOK_lt {fr : Nat → Nat} {cnt : Nat} {ou : Nat → Nat} (h : mOK fr cnt ou) {t : Bool} {last mv : Nat} (h1 : last < 12) (h2 : mv < 4096) : ou (ix t last mv) < 3 := by
  rcases h t last mv h1 h2 with q | q
  · rw [q]; decide
  · rw [q]; exact mVl_lt _
theorem mOK_put {fr : Nat → Nat} {cnt : Nat} {ou : Nat → Nat} (h : mOK fr cnt ou) {t : Bool} {last mv v : Nat} (h1 : last < 12) (h2 : mv < 4096) (hv : v = mVl (gV fr cnt t last mv)) : mOK fr cnt (updN ou (ix t last mv) v) := by
  intro t' last' mv' h1' h2'
  unfold updN
  by_cases e : ix t' last' mv' = ix t last mv
  · obtain ⟨rfl, rfl, rfl⟩ := ix_inj h1' h2' h1 h2 e
    rw [if_pos rfl]
    exact Or.inr hv
  · rw [if_neg e]
    exact h t' last' mv' h1' h2'
theorem mVl_1 {v : Nat} {b : Bool} (h : v = mVl b) (h1 : v = 1) : nI 1 = nI b.toNat := by
  cases b
  · rw [h] at h1; exact absurd h1 (by decide)
  · rfl
theorem mVl_0 {v : Nat} {b : Bool} (h : v = mVl b) (h1 : v ≠ 1) : nI 0 = nI b.toNat := by
  cases b
  · rfl
  · rw [h] at h1; exact absurd rfl h1
theorem updN_at (f : Nat → Nat) (k x : Nat) : updN f k x k = x := if_pos rfl
theorem pow_pc {a : Nat} (h : a < 12) : 2 ^ a < 4096 := pow12 h
