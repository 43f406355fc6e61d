/-! kit 6: the law's own rows -/
theorem z_cases (z : Int32) {n : Nat} (hn : n < 2 ^ 31) : (z < 0 ∨ nI n ≤ z) ∨ ∃ a, a < n ∧ z = nI a := by
  by_cases h0 : z < 0
  · exact Or.inl (Or.inl h0)
  · have h1 : 0 ≤ z := Int32.not_lt.mp h0
    have h2 : nI z.toNatClampNeg = z := Int32.ofNat_toNatClampNeg z h1
    by_cases h3 : z.toNatClampNeg < n
    · exact Or.inr ⟨_, h3, h2.symm⟩
    · refine Or.inl (Or.inr ?_)
      rw [← h2]
      exact nI_le (Nat.le_of_not_lt h3) (Int32.toNatClampNeg_lt z)
theorem z_wt (z : Int32) : (z < nI 1 ∨ nI 9 < z) ∨ ∃ a, (1 ≤ a ∧ a ≤ 9) ∧ z = nI a := by
  rcases z_cases z (n := 10) (by decide) with (h | h) | ⟨a, ha, rfl⟩
  · exact Or.inl (Or.inl (Int32.lt_trans h (by decide)))
  · exact Or.inl (Or.inr (Int32.lt_of_lt_of_le (by decide : nI 9 < nI 10) h))
  · by_cases h1 : 1 ≤ a
    · exact Or.inr ⟨a, ⟨h1, by omega⟩, rfl⟩
    · exact Or.inl (Or.inl (nI_lt (Nat.lt_of_not_le h1) (by decide)))
theorem z_tl (z : Int32) : (z < 0 ∨ nI 9 < z) ∨ ∃ a, a ≤ 9 ∧ z = nI a := by
  rcases z_cases z (n := 10) (by decide) with (h | h) | ⟨a, ha, rfl⟩
  · exact Or.inl (Or.inl h)
  · exact Or.inl (Or.inr (Int32.lt_of_lt_of_le (by decide : nI 9 < nI 10) h))
  · exact Or.inr ⟨a, by omega, rfl⟩
section QL
variable {p : Program} {l : Launch} {e : Env} {R : Room} {s : State} {m : MethodId} {args : Array Value} {below : List Frame} {meth : Method} {c : Code} {H : Heap} {locs : List Loc} {cells slots : Nat} {Q : State → Prop}
variable {cc : ByteArray} {pc nL : Nat} {ls : Array Slot} {rest : List Value} {g : GK} {A : Nat → Prop} {ws : va_W} {Ts : List Cond} {own : String}
/-- a number of the script -/
theorem q_sld (E : qE g p m c cc nL s args Ts own A) (h : qH g A s ws H locs) {b L : Nat} {xs : Nat → Int32} (hX : va_X b L xs s s.heap) (hbl : b < s.heap.size) (hbA : ¬ A b) {i : Nat} {v : Int32} (hi : i < L) (hL : L ≤ 2048) (hv : xs i = v) (hdg : decode cc pc = .ok (.iaload, 1)) (kk : W p l e R s m args below meth c H locs cells slots Q (F0 m (pc + 1) ls (.int v :: rest))) : W p l e R s m args below meth c H locs cells slots Q (F0 m pc ls (.int (nI i) :: .ref b :: rest)) :=
  va_sld E.1.1 E.1.2.1 hX hbl hbA h.2.2 (vp_in_nI hi (by omega)) hdg (by rw [nI_clamp (show i < 2 ^ 31 by omega), hv]; exact kk)
theorem q_lald (E : qE g p m c cc nL s args Ts own A) (h : qH g A s ws H locs) (q0 : Nat) {a n i : Nat} {f : Nat → Int64} {v : Int64} (ha : ws[q0]? = some (a, .inl (gLo g, n, .inr (.inl f)))) (hi : i < n) (hn : n < 2 ^ 31) (hv : f i = v) (hdg : decode cc pc = .ok (.laload, 1)) (kk : W p l e R s m args below meth c H locs cells slots Q (F0 m (pc + 1) ls (.long v :: rest))) : W p l e R s m args below meth c H locs cells slots Q (F0 m pc ls (.int (nI i) :: .ref a :: rest)) :=
  va_lald (D := g.1) E.1.1 E.1.2.1 E.2.1.1 h.1 q0 3 ha rfl (vp_in_nI hi hn) hdg (by rw [nI_clamp (Nat.lt_trans hi hn), hv]; exact kk)
theorem q_dald (E : qE g p m c cc nL s args Ts own A) (h : qH g A s ws H locs) (q0 : Nat) {a n i : Nat} {f : Nat → UInt64} {v : UInt64} (ha : ws[q0]? = some (a, .inl (gDo g, n, .inr (.inr (.inr (.inl f)))))) (hi : i < n) (hn : n < 2 ^ 31) (hv : f i = v) (hdg : decode cc pc = .ok (.daload, 1)) (kk : W p l e R s m args below meth c H locs cells slots Q (F0 m (pc + 1) ls (.double v :: rest))) : W p l e R s m args below meth c H locs cells slots Q (F0 m pc ls (.int (nI i) :: .ref a :: rest)) :=
  va_dald (D := g.1) E.1.1 E.1.2.1 E.2.1.1 h.1 q0 4 ha rfl (vp_in_nI hi hn) hdg (by rw [nI_clamp (Nat.lt_trans hi hn), hv]; exact kk)
theorem q_lcmp (E : qE g p m c cc nL s args Ts own A) {x y : Int64} (hxy : x = y) (hdg : decode cc pc = .ok (.lcmp, 1)) (kk : W p l e R s m args below meth c H locs cells slots Q (F0 m (pc + 1) ls (.int (nI 0) :: rest))) : W p l e R s m args below meth c H locs cells slots Q (F0 m pc ls (.long y :: .long x :: rest)) := by
  subst hxy
  refine W.lcmp E.1.1 E.1.2.1 hdg ?_
  rw [show lg_cmp x x = nI 0 by simp [lg_cmp, nI_0]]
  exact kk
variable {st0 : List Value} {a : Array Value} {wc wr : va_W}
/-- a call of a method that catches -/
theorem q_kW {S : Type} {post : Int32 → S → Prop} {w1 w2 : S → va_W} {mc ms : Nat} (E : qE g p m c cc nL s args Ts own A) (h : qH g A s ws H locs) (isC isR is : List Nat) (hr : vx_Run p l e R s m args below meth c H locs cells slots mc ms (F0 m pc ls st0) rest (va_Qi post (fun u t => gB g wc H.size (w1 u) t) (va_A wc H.size) a) (fun _ _ _ => False) (va_A wc H.size))
    (hC : isC.map (fun i => ws[i]?) = wc.map some) (hR : isR.map (fun i => ws[i]?) = wr.map some) (hnR : va_nd isR = true) (hdis : ∀ i ∈ isR, i ∉ isC) (hn2 : va_nd is = true) (h2 : ∀ u, is.map (fun i => (wr ++ w1 u)[i]?) = (w2 u).map some)
    (kk : ∀ (r : Int32) (u : S) (H1 : Heap) (locs1 : List Loc), post r u → qH g A s (w2 u) H1 locs1 → W p l e R s m args below meth c H1 locs1 (cells + mc) (slots + ms) Q (F0 m (pc + 3) ls (.int r :: rest))) : W p l e R s m args below meth c H locs cells slots Q (F0 m pc ls st0) := by
  have hF := q_free h E.2.2 isC hC
  have hr2 : va_Run p l e R s m args below meth c H locs cells slots mc ms (F0 m pc ls st0) rest (va_Qi post (fun u t => gB g wc H.size (w1 u) t) (va_A wc H.size) a) (va_A wc H.size) := fun T hT X => (hr T hT X).resolve_right (fun ⟨_, _, _, _, _, _, _, _, _, _, _, _, h9, _⟩ => h9)
  refine va_calli hr2 h.2.2 (fun q _ z => hF q z) hF (fun r u t H1 locs1 ht hvm hw hB hz1 hk1 hS => ?_)
  obtain ⟨hP1, hD1⟩ := hB
  rw [ht] at hP1
  obtain ⟨hP, hD⟩ := va_join h.1 h.2.1 isC isR hC hR hnR hdis hk1 hF hP1 hD1
  exact kk r u H1 locs1 hw (qH.perm ⟨hP, hD, hS⟩ is hn2 (h2 u))
end QL
theorem updN_in {f : Nat → Nat} {k x B : Nat} (hf : ∀ j, f j < B) (hx : x < B) (j : Nat) : updN f k x j < B := by
  unfold updN
  by_cases h : j = k
  · rw [if_pos h]; exact hx
  · rw [if_neg h]; exact hf j
theorem or_pow_lt {n k : Nat} (h : n < 2 ^ k) : n ||| 2 ^ k < 2 ^ (k + 1) := Nat.or_lt_two_pow (Nat.lt_of_lt_of_le h (Nat.pow_le_pow_right (by decide) (Nat.le_succ k))) (Nat.pow_lt_pow_right (by decide) (Nat.lt_succ_self k))
