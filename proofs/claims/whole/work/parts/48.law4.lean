theorem lc_nat (m n : Nat) : lc (m : Int) (n : Int) = ((Nat.lcm m n : Nat) : Int) := by
  unfold lc
  have e : Int.gcd (m : Int) (n : Int) = Nat.gcd m n := rfl
  rw [e]
  have h : Nat.lcm m n = m / Nat.gcd m n * n := by
    rw [Nat.div_mul_right_comm (Nat.gcd_dvd_left m n)]; rfl
  rw [h]
  rfl
theorem cm_nat {f : Int → Int} {g0 g1 g2 g3 : Nat} (h0 : f 0 = g0) (h1 : f 1 = g1) (h2 : f 2 = g2) (h3 : f 3 = g3) : cm f 4 = ((Nat.lcm (Nat.lcm (Nat.lcm (Nat.lcm 1 g0) g1) g2) g3 : Nat) : Int) := by
  show lc (lc (lc (lc 1 (f 0)) (f 1)) (f 2)) (f 3) = _
  rw [h0, h1, h2, h3]
  have e : (1 : Int) = ((1 : Nat) : Int) := rfl
  rw [e, lc_nat, lc_nat, lc_nat, lc_nat]
def bN (q : Nat) : Nat := if 1 < q then q * (q - 1) else 1
def bB (q : Nat) : Nat := if 1 < q then q * (q * (q - 1)) else 1
set_option maxRecDepth 100000 in
theorem dec_p : ∀ a, a < 13 → ∀ b, b < 13 - a → ∀ c, c < 13 - a - b → ∀ d, d < 13 - a - b - c → Nat.lcm (Nat.lcm (Nat.lcm (Nat.lcm 1 (bN a)) (bN b)) (bN c)) (bN d) ≤ 420 := by decide +kernel
set_option maxRecDepth 100000 in
theorem dec_b : ∀ a, a < 13 → ∀ b, b < 13 - a → ∀ c, c < 13 - a - b → ∀ d, d < 13 - a - b - c → Nat.lcm (Nat.lcm (Nat.lcm (Nat.lcm 1 (bB a)) (bB b)) (bB c)) (bB d) ≤ 110592 := by decide +kernel
theorem NB_sum (ho lo : Int → Int) {nb : Int} (h : 0 ≤ nb) : NBf ho lo nb 0 + NBf ho lo nb 1 + NBf ho lo nb 2 + NBf ho lo nb 3 ≤ nb := by
  obtain ⟨k, rfl⟩ := Int.eq_ofNat_of_zero_le h
  show sN (gn ho lo 0) k + sN (gn ho lo 1) k + sN (gn ho lo 2) k + sN (gn ho lo 3) k ≤ k
  induction k with
  | zero => show (0 : Int) + 0 + 0 + 0 ≤ 0; omega
  | succ k ih =>
    have ih := ih (by omega)
    show sN (gn ho lo 0) k + gn ho lo 0 k + (sN (gn ho lo 1) k + gn ho lo 1 k) + (sN (gn ho lo 2) k + gn ho lo 2 k) + (sN (gn ho lo 3) k + gn ho lo 3 k) ≤ ((k + 1 : Nat) : Int)
    have : gn ho lo 0 k + gn ho lo 1 k + gn ho lo 2 k + gn ho lo 3 k ≤ 1 := by
      unfold gn
      by_cases c0 : ho k = 0 ∧ lo k = 0
      · rw [if_pos c0, if_neg (by omega), if_neg (by omega), if_neg (by omega)]; omega
      · rw [if_neg c0]
        by_cases c1 : ho k = 1 ∧ lo k = 0
        · rw [if_pos c1, if_neg (by omega), if_neg (by omega)]; omega
        · rw [if_neg c1]
          by_cases c2 : ho k = 2 ∧ lo k = 0
          · rw [if_pos c2, if_neg (by omega)]; omega
          · rw [if_neg c2]
            by_cases c3 : ho k = 3 ∧ lo k = 0
            · rw [if_pos c3]; omega
            · rw [if_neg c3]; omega
    omega
theorem tB_bN {q : Int → Int} {j : Int} {n : Nat} (h2 : j < 4) (hn : q j = n) : tB 1 q (prf q) 4 j = (bN n : Int) := by
  unfold tB prf bN
  by_cases c : 1 < n
  · rw [if_pos ⟨h2, by omega⟩, if_pos c, hn, Int.natCast_mul, Int.natCast_sub (by omega)]; rfl
  · rw [if_neg (by omega), if_neg c]; rfl
theorem tB_bB {q : Int → Int} {j : Int} {n : Nat} (h2 : j < 4) (hn : q j = n) : tB 1 q (bpf q) 4 j = (bB n : Int) := by
  unfold tB bpf bB
  by_cases c : 1 < n
  · rw [if_pos ⟨h2, by omega⟩, if_pos c, hn, Int.natCast_mul, Int.natCast_mul, Int.natCast_sub (by omega)]; rfl
  · rw [if_neg (by omega), if_neg c]; rfl
theorem NB_nat (ho lo : Int → Int) {nb : Int} (h1 : 0 ≤ nb) (h2 : nb ≤ 12) : ∃ a b c d : Nat, NBf ho lo nb 0 = a ∧ NBf ho lo nb 1 = b ∧ NBf ho lo nb 2 = c ∧ NBf ho lo nb 3 = d ∧ a < 13 ∧ b < 13 - a ∧ c < 13 - a - b ∧ d < 13 - a - b - c := by
  have q := nb12 ho lo h1 h2
  have s := NB_sum ho lo h1
  have q0 := q 0 (by omega) (by omega)
  have q1 := q 1 (by omega) (by omega)
  have q2 := q 2 (by omega) (by omega)
  have q3 := q 3 (by omega) (by omega)
  exact ⟨(NBf ho lo nb 0).toNat, (NBf ho lo nb 1).toNat, (NBf ho lo nb 2).toNat, (NBf ho lo nb 3).toNat, by omega, by omega, by omega, by omega, by omega, by omega, by omega, by omega⟩
theorem lw_cP (ho lo : Int → Int) {nb : Int} (h : 0 ≤ nb ∧ nb ≤ 12) : mnC 1 (NBf ho lo nb) (prf (NBf ho lo nb)) ≤ 420 := by
  obtain ⟨a, b, c, d, e0, e1, e2, e3, l0, l1, l2, l3⟩ := NB_nat ho lo h.1 h.2
  have := dec_p a l0 b l1 c l2 d l3
  unfold mnC
  rw [cm_nat (tB_bN (by omega) e0) (tB_bN (by omega) e1) (tB_bN (by omega) e2) (tB_bN (by omega) e3)]
  omega
theorem lw_cB (ho lo : Int → Int) {nb : Int} (h : 0 ≤ nb ∧ nb ≤ 12) : mnC 1 (NBf ho lo nb) (bpf (NBf ho lo nb)) ≤ 110592 := by
  obtain ⟨a, b, c, d, e0, e1, e2, e3, l0, l1, l2, l3⟩ := NB_nat ho lo h.1 h.2
  have := dec_b a l0 b l1 c l2 d l3
  unfold mnC
  rw [cm_nat (tB_bB (by omega) e0) (tB_bB (by omega) e1) (tB_bB (by omega) e2) (tB_bB (by omega) e3)]
  omega
theorem cs_step (ho lo gr : Int → Int) (k j : Int) (hg : ∀ i, 0 ≤ gr i ∧ gr i ≤ 10000) : ∀ m : Nat, (∀ x : Int, 0 ≤ sN (gq ho lo gr k j) m - 2 * x * sN (gm_ ho lo gr k j) m + x * x * sN (gn ho lo j) m) ∧ 0 ≤ sN (gn ho lo j) m * sN (gq ho lo gr k j) m - sN (gm_ ho lo gr k j) m * sN (gm_ ho lo gr k j) m ∧ 0 ≤ sN (gn ho lo j) m ∧ 0 ≤ sN (gq ho lo gr k j) m ∧ sN (gq ho lo gr k j) m ≤ sN (gn ho lo j) m * 100000000 := by
  intro m
  induction m with
  | zero =>
    refine ⟨fun x => ?_, ?_, ?_, ?_, ?_⟩
    · show 0 ≤ (0 : Int) - 2 * x * 0 + x * x * 0; rw [Int.mul_zero, Int.mul_zero]; omega
    · show (0 : Int) ≤ 0 * 0 - 0 * 0; omega
    · exact Int.le_refl 0
    · exact Int.le_refl 0
    · show (0 : Int) ≤ 0 * 100000000; omega
  | succ m ih =>
    obtain ⟨i1, i2, i3, i4, i5⟩ := ih
    have eN : sN (gn ho lo j) (m + 1) = sN (gn ho lo j) m + gn ho lo j m := rfl
    have eM : sN (gm_ ho lo gr k j) (m + 1) = sN (gm_ ho lo gr k j) m + gm_ ho lo gr k j m := rfl
    have eQ : sN (gq ho lo gr k j) (m + 1) = sN (gq ho lo gr k j) m + gq ho lo gr k j m := rfl
    rw [eN, eM, eQ]
    generalize sN (gn ho lo j) m = n at *
    generalize sN (gm_ ho lo gr k j) m = s at *
    generalize sN (gq ho lo gr k j) m = q at *
    unfold gn gm_ gq
    by_cases c : ho m = j ∧ lo m = 0
    · rw [if_pos c, if_pos c, if_pos c]
      have hG := hg ((m : Int) * 3 + k)
      generalize gr ((m : Int) * 3 + k) = g at *
      have gg := sq_le (x := g) (B := 10000) (by omega) (by omega) (by omega)
      refine ⟨fun x => ?_, ?_, by omega, by omega, by omega⟩
      · have a := i1 x
        have b : 0 ≤ (g - x) * (g - x) := by
          rcases Int.le_total 0 (g - x) with h | h
          · exact Int.mul_nonneg h h
          · have e : (g - x) * (g - x) = (-(g - x)) * (-(g - x)) := by rw [Int.neg_mul_neg]
            rw [e]; exact Int.mul_nonneg (by omega) (by omega)
        have e : q + g * g - 2 * x * (s + g) + x * x * (n + 1) = (q - 2 * x * s + x * x * n) + (g - x) * (g - x) := by grind
        rw [e]; omega
      · have a := i1 g
        have e : (n + 1) * (q + g * g) - (s + g) * (s + g) = (n * q - s * s) + (q - 2 * g * s + g * g * n) := by grind
        rw [e]; omega
    · rw [if_neg c, if_neg c, if_neg c, Int.add_zero, Int.add_zero, Int.add_zero]
      exact ⟨i1, i2, i3, i4, i5⟩
theorem lw_sc (ho lo : Int → Int) {gr : Int → Int} {nb : Int} (hg : ∀ i, 0 ≤ gr i ∧ gr i ≤ 10000) (k : Int) : ∀ j, 0 ≤ j → j < 4 → 0 ≤ SCf ho lo gr k nb j ∧ SCf ho lo gr k nb j ≤ NBf ho lo nb j * NBf ho lo nb j * 100000000 := by
  intro j _ _
  obtain ⟨i1, i2, i3, i4, i5⟩ := cs_step ho lo gr k j hg nb.toNat
  show 0 ≤ sN (gn ho lo j) nb.toNat * sN (gq ho lo gr k j) nb.toNat - sN (gm_ ho lo gr k j) nb.toNat * sN (gm_ ho lo gr k j) nb.toNat ∧ sN (gn ho lo j) nb.toNat * sN (gq ho lo gr k j) nb.toNat - sN (gm_ ho lo gr k j) nb.toNat * sN (gm_ ho lo gr k j) nb.toNat ≤ sN (gn ho lo j) nb.toNat * sN (gn ho lo j) nb.toNat * 100000000
  generalize sN (gn ho lo j) nb.toNat = n at *
  generalize sN (gm_ ho lo gr k j) nb.toNat = s at *
  generalize sN (gq ho lo gr k j) nb.toNat = q at *
  refine ⟨i2, ?_⟩
  have a := Int.mul_le_mul_of_nonneg_left i5 i3
  have b : 0 ≤ s * s := by
    rcases Int.le_total 0 s with h | h
    · exact Int.mul_nonneg h h
    · have e : s * s = (-s) * (-s) := by rw [Int.neg_mul_neg]
      rw [e]; exact Int.mul_nonneg (by omega) (by omega)
  rw [← Int.mul_assoc] at a
  omega
theorem dvd60 {t : Nat} (h1 : 1 ≤ t) (h2 : t ≤ 6) : t ∣ 60 := by
  rcases (show t = 1 ∨ t = 2 ∨ t = 3 ∨ t = 4 ∨ t = 5 ∨ t = 6 by omega) with rfl | rfl | rfl | rfl | rfl | rfl <;> decide
def eN (n t : Nat) : Nat := if 1 < n then n * (n - 1) * t else 1
theorem eN_dvd {n t M : Nat} (h1 : 1 ≤ t) (h2 : t ≤ 6) (h : bN n ∣ M) : eN n t ∣ 60 * M := by
  unfold eN
  unfold bN at h
  by_cases c : 1 < n
  · rw [if_pos c] at h ⊢
    rw [Nat.mul_comm 60]
    exact Nat.mul_dvd_mul h (dvd60 h1 h2)
  · rw [if_neg c]; exact Nat.one_dvd _
theorem tB_eN {q : Int → Int} {k j : Int} {n : Nat} (h2 : j < 4) (hn : q j = n) : ∃ t : Nat, 1 ≤ t ∧ t ≤ 6 ∧ tB 1 q (ebk q k) 4 j = (eN n t : Int) := by
  have hd := dg_b k j
  refine ⟨(1 + dg k j).toNat, by omega, by omega, ?_⟩
  unfold tB ebk eN tpl
  by_cases c : 1 < n
  · rw [if_pos ⟨h2, by omega⟩, if_pos c, if_pos (by omega), hn, Int.natCast_mul, Int.natCast_mul, Int.natCast_sub (by omega)]
    have : (((1 + dg k j).toNat : Nat) : Int) = 1 + dg k j := by omega
    rw [this]
    rfl
  · rw [if_neg (by omega), if_neg c]; rfl
theorem lw_cK (ho lo : Int → Int) {nb : Int} (h : 0 ≤ nb ∧ nb ≤ 12) : ∀ k, 0 ≤ k → k < 1296 → mnC 1 (NBf ho lo nb) (ebk (NBf ho lo nb) k) ≤ 25200 := by
  intro k _ _
  obtain ⟨a, b, c, d, e0, e1, e2, e3, l0, l1, l2, l3⟩ := NB_nat ho lo h.1 h.2
  have hp := dec_p a l0 b l1 c l2 d l3
  obtain ⟨t0, u0, v0, w0⟩ := tB_eN (k := k) (show (0 : Int) < 4 by omega) e0
  obtain ⟨t1, u1, v1, w1⟩ := tB_eN (k := k) (show (1 : Int) < 4 by omega) e1
  obtain ⟨t2, u2, v2, w2⟩ := tB_eN (k := k) (show (2 : Int) < 4 by omega) e2
  obtain ⟨t3, u3, v3, w3⟩ := tB_eN (k := k) (show (3 : Int) < 4 by omega) e3
  unfold mnC
  rw [cm_nat w0 w1 w2 w3]
  generalize hM : Nat.lcm (Nat.lcm (Nat.lcm (Nat.lcm 1 (bN a)) (bN b)) (bN c)) (bN d) = M at hp
  have d3 : bN d ∣ M := hM ▸ Nat.dvd_lcm_right _ _
  have d2 : bN c ∣ M := hM ▸ Nat.dvd_trans (Nat.dvd_lcm_right _ _) (Nat.dvd_lcm_left _ _)
  have d1 : bN b ∣ M := hM ▸ Nat.dvd_trans (Nat.dvd_lcm_right _ _) (Nat.dvd_trans (Nat.dvd_lcm_left _ _) (Nat.dvd_lcm_left _ _))
  have d0 : bN a ∣ M := hM ▸ Nat.dvd_trans (Nat.dvd_lcm_right _ _) (Nat.dvd_trans (Nat.dvd_lcm_left _ _) (Nat.dvd_trans (Nat.dvd_lcm_left _ _) (Nat.dvd_lcm_left _ _)))
  have hd := Nat.lcm_dvd (Nat.lcm_dvd (Nat.lcm_dvd (Nat.lcm_dvd (Nat.one_dvd _) (eN_dvd u0 v0 d0)) (eN_dvd u1 v1 d1)) (eN_dvd u2 v2 d2)) (eN_dvd u3 v3 d3)
  have p : ∀ x, 0 < bN x := by
    intro x; unfold bN
    by_cases z : 1 < x
    · rw [if_pos z]; exact Nat.mul_pos (by omega) (by omega)
    · rw [if_neg z]; omega
  have hpos : 0 < M := by rw [← hM]; exact Nat.lcm_pos (Nat.lcm_pos (Nat.lcm_pos (Nat.lcm_pos (by omega) (p a)) (p b)) (p c)) (p d)
  have := Nat.le_of_dvd (by omega) hd
  omega
