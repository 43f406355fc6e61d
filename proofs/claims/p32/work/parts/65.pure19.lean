/-! pure 19: the law's own steps -/
theorem scan_lt {S M : List Nat} {i t : Nat} (hin : inL S M) (hi : i < S.length) (h : ∀ q, q < t → q < M.length → gl M q < gl S i) : t < M.length := by
  obtain ⟨p, hp, e⟩ := hin i hi
  by_cases q : t < M.length
  · exact q
  · have := h p (by omega) hp
    omega
theorem scan_eq {S M : List Nat} {i t : Nat} (hin : inL S M) (hi : i < S.length) (hM : ascL M) (h : ∀ q, q < t → q < M.length → gl M q < gl S i) (hge : gl S i ≤ gl M t) : gl M t = gl S i := by
  obtain ⟨p, hp, e⟩ := hin i hi
  rcases Nat.lt_trichotomy p t with q | q | q
  · have := h p q hp
    omega
  · rw [← q]; exact e
  · have := hM t p q hp
    omega
theorem scan_step {M : List Nat} {x t : Nat} (h : ∀ q, q < t → q < M.length → gl M q < x) (hx : gl M t < x) : ∀ q, q < t + 1 → q < M.length → gl M q < x := fun q h1 h2 => by
  by_cases e : q = t
  · rw [e]; exact hx
  · exact h q (by omega) h2
theorem scan_next {S M : List Nat} {i t : Nat} (hS : ascL S) (h : ∀ q, q < t → q < M.length → gl M q < gl S i) : ∀ q, q < t → q < M.length → i + 1 < S.length → gl M q < gl S (i + 1) := fun q h1 h2 h3 => Nat.lt_trans (h q h1 h2) (hS i (i + 1) (Nat.lt_succ_self i) h3)
theorem unU_lt {f : Nat → Nat} {B : Nat} (h : ∀ j, f j < 2 ^ B) : ∀ n, unU f n < 2 ^ B
  | 0 => Nat.two_pow_pos B
  | n + 1 => Nat.or_lt_two_pow (unU_lt h n) (h n)
theorem lab_lt (x : Bool) (P : Prop) [Decidable P] : (x.toNat ||| (if P then 0 else 2)) < 4 := by
  split <;> cases x <;> decide
theorem oI_0 {o : Option Nat} (ho : ∀ m, o = some m → m < 2147483648) : oI o = 0 ↔ o = some 0 := by
  have h := oI_eq (o := o) (v := 0) (by decide) ho
  rw [nI_0] at h
  exact ⟨fun q => h.mp q.symm, fun q => (h.mpr q).symm⟩
theorem tb_1 {n k : Nat} (h : n / 2 ^ k &&& 1 = 1) : n.testBit k = true := by
  rw [q_tb1] at h
  cases hq : n.testBit k
  · rw [hq] at h; exact absurd h (by decide)
  · rfl
theorem tb_n1 {n k : Nat} (h : n / 2 ^ k &&& 1 ≠ 1) : n.testBit k = false := by
  rw [q_tb1] at h
  cases hq : n.testBit k
  · rfl
  · rw [hq] at h; exact absurd rfl h
theorem tb_not1 {n k : Nat} (h : n.testBit k = false) : n / 2 ^ k &&& 1 ≠ 1 := by
  rw [q_tb1, h]
  decide
section P19
variable {wt mk : Nat → Nat} {pr tol cnt : Nat}
theorem x3_lt (hc : cnt ≤ 12) (hp : pr < 2 ^ cnt) {i : Nat} (hi : i < (xL wt mk pr tol 3).length) : gl (xL wt mk pr tol 3) i < 2 ^ cnt := by
  have hm : gl (xL wt mk pr tol 3) i ∈ sel (mS (tgO (wkb wt mk pr tol)) pr) (2 ^ cnt) := by rw [← x_3 hc hp]; exact gl_in hi
  exact (sel_mem.mp hm).1
theorem idl_lt {sr tg : Nat → Nat} (hp : pr < 2 ^ cnt) : idl sr tg pr < 2 ^ cnt := sub_lt (sub_ldf.mpr idl_in) hp
theorem sup_one (hc : cnt ≤ 8) (hp : pr < 2 ^ cnt) {v : Nat} (h : (grw (srO (wkb wt mk pr tol)) (tgO (wkb wt mk pr tol)) pr 12).testBit v = true) : (if (xL wt mk pr tol 0).length = 0 then FP.dconst0 else FP.ddiv (FP.i2d (nI (sumU (fun z => ((gl (xL wt mk pr tol 0) z).testBit v).toNat) (xL wt mk pr tol 0).length))) (FP.i2d (nI (xL wt mk pr tol 0).length))) = FP.dconst1 := by
  have hc12 : cnt ≤ 12 := by omega
  have h0 := x_0len (wt := wt) (mk := mk) (tol := tol) hc12 hp
  have h1 := x_len (wt := wt) (mk := mk) (tol := tol) hc12 hp
  have h2 : 2 ^ cnt ≤ 2 ^ 8 := Nat.pow_le_pow_right (by decide) hc
  rw [if_neg h0, z_sup hc12 hp h]
  exact dv_self h0 (Nat.le_trans h1 h2)
theorem un_lt (hpr : pr < 4096) (k n : Nat) : unU (gl (xL wt mk pr tol k)) n < 4096 := unU_lt (B := 12) (fun j => xL_lt hpr k j) n
end P19
section QY
variable {p : Program} {l : Launch} {e : Env} {R : Room} {s : State} {m : MethodId} {args : Array Value} {below : List Frame} {meth : Method} {c : Code} {H : Heap} {locs : List Loc} {cells slots : Nat} {Q : State → Prop}
variable {cc : ByteArray} {pc nL : Nat} {ls : Array Slot} {rest : List Value} {g : GK} {A : Nat → Prop} {ws : va_W} {Ts : List Cond} {own : String}
theorem q_le0 (E : qE g p m c cc nL s args Ts own A) {a : Nat} {off : Int} {tgt : Nat} (ha : a < 2 ^ 31) (hdg : decode cc pc = .ok (.ifCond .le off, 3)) (ht : (pc : Int) + off = (tgt : Int)) (kt : a = 0 → W p l e R s m args below meth c H locs cells slots Q (F0 m tgt ls rest)) (kf : a ≠ 0 → W p l e R s m args below meth c H locs cells slots Q (F0 m (pc + 3) ls rest)) : W p l e R s m args below meth c H locs cells slots Q (F0 m pc ls (.int (nI a) :: rest)) :=
  lv_if_le E.1.1 E.1.2.1 hdg ht (fun h => kt (by rw [← nI_0, nI_leI ha (by decide)] at h; omega)) (fun h => kf (fun q => h (by rw [q, nI_0]; exact Int32.le_refl _)))
theorem q_ge0 (E : qE g p m c cc nL s args Ts own A) {a : Nat} {off : Int} {tgt : Nat} (ha : a < 2 ^ 31) (hdg : decode cc pc = .ok (.ifCond .ge off, 3)) (ht : (pc : Int) + off = (tgt : Int)) (kt : W p l e R s m args below meth c H locs cells slots Q (F0 m tgt ls rest)) : W p l e R s m args below meth c H locs cells slots Q (F0 m pc ls (.int (nI a) :: rest)) :=
  lv_if_ge E.1.1 E.1.2.1 hdg ht (fun _ => kt) (fun h => absurd (Int32.not_lt.mp (nI_pos ha)) h)
end QY
