/-! PLAN: near enough, by the limit and by the cross product; the cheapest. -/
theorem cm_dvd {f : Int → Int} (h : ∀ j, 0 ≤ j → j < 4 → 1 ≤ f j) : ∀ j, 0 ≤ j → j < 4 → f j ∣ cm f 4 := by
  have e0 := h 0 (by omega) (by omega)
  have e1 := h 1 (by omega) (by omega)
  have e2 := h 2 (by omega) (by omega)
  have e3 := h 3 (by omega) (by omega)
  obtain ⟨g0, h0⟩ := Int.eq_ofNat_of_zero_le (show 0 ≤ f 0 by omega)
  obtain ⟨g1, h1⟩ := Int.eq_ofNat_of_zero_le (show 0 ≤ f 1 by omega)
  obtain ⟨g2, h2⟩ := Int.eq_ofNat_of_zero_le (show 0 ≤ f 2 by omega)
  obtain ⟨g3, h3⟩ := Int.eq_ofNat_of_zero_le (show 0 ≤ f 3 by omega)
  rw [cm_nat h0 h1 h2 h3]
  refine all4 (P := fun j => f j ∣ _) ?_ ?_ ?_ ?_
  · rw [h0, Int.natCast_dvd_natCast]; exact Nat.dvd_trans (Nat.dvd_lcm_right 1 g0) (Nat.dvd_trans (Nat.dvd_lcm_left _ g1) (Nat.dvd_trans (Nat.dvd_lcm_left _ g2) (Nat.dvd_lcm_left _ g3)))
  · rw [h1, Int.natCast_dvd_natCast]; exact Nat.dvd_trans (Nat.dvd_lcm_right _ g1) (Nat.dvd_trans (Nat.dvd_lcm_left _ g2) (Nat.dvd_lcm_left _ g3))
  · rw [h2, Int.natCast_dvd_natCast]; exact Nat.dvd_trans (Nat.dvd_lcm_right _ g2) (Nat.dvd_lcm_left _ g3)
  · rw [h3, Int.natCast_dvd_natCast]; exact Nat.dvd_lcm_right _ g3
theorem t60 {t : Int} (h : 1 ≤ t ∧ t ≤ 6) : t * (60 / t) = 60 := by
  rcases (show t = 1 ∨ t = 2 ∨ t = 3 ∨ t = 4 ∨ t = 5 ∨ t = 6 by omega) with rfl | rfl | rfl | rfl | rfl | rfl <;> decide
/-- one stratum's share: a of the weights, p = q (q - 1), t bags; M shared by the p's, C by the p t's -/
theorem share {a p t M C : Int} (hp : 1 ≤ p) (ht : 1 ≤ t ∧ t ≤ 6) (hM : p ∣ M) (hC : p * t ∣ C) : (60 * (a * (M / p)) / t) * C = 60 * M * (a * (C / (p * t))) := by
  obtain ⟨u, rfl⟩ := hM
  obtain ⟨v, rfl⟩ := hC
  have h6 := t60 ht
  rw [Int.mul_ediv_cancel_left _ (show p ≠ 0 by omega)]
  have pt : 1 ≤ p * t := by
    have := Int.mul_le_mul hp ht.1 (by omega) (by omega)
    omega
  rw [Int.mul_ediv_cancel_left _ (show p * t ≠ 0 by omega)]
  generalize hw : 60 / t = w at h6
  have e : 60 * (a * u) = t * (w * (a * u)) := by rw [← Int.mul_assoc t, h6]
  rw [e, Int.mul_ediv_cancel_left _ (show t ≠ 0 by omega), ← h6]
  simp only [Int.mul_assoc, Int.mul_left_comm, Int.mul_comm]
theorem tB_1 {q b : Int → Int} (h : ∀ j, 0 ≤ j → j < 4 → 1 < q j → 1 ≤ b j) : ∀ j, 0 ≤ j → j < 4 → 1 ≤ tB 1 q b 4 j := by
  intro j h1 h2
  unfold tB
  by_cases c : j < 4 ∧ 1 < q j
  · rw [if_pos c]; exact h j h1 h2 c.2
  · rw [if_neg c]; omega
theorem near_sum {q a bu t : Int → Int} {k : Int} (hq : ∀ j, 0 ≤ j → j < 4 → (0 ≤ q j ∧ q j ≤ 12) ∧ ¬ q j = 1) (ht : ∀ j, 0 ≤ j → j < 4 → t j = tpl q k j) (hb : ∀ j, 0 ≤ j → j < 4 → bu j = 60 * (tA 1 q a 4 j * (mnC 1 q (prf q) / tB 1 q (prf q) 4 j))) : nsum bu t * mnC 1 q (ebk q k) = 60 * mnC 1 q (prf q) * mnO 1 q a (ebk q k) := by
  have pq : ∀ j, 0 ≤ j → j < 4 → 1 < q j → 1 ≤ prf q j := fun j h1 h2 c => (pp_bd (hq j h1 h2).1 c).1
  have tq : ∀ j, 0 ≤ j → j < 4 → 1 < q j → 1 ≤ tpl q k j ∧ tpl q k j ≤ 6 := fun j h1 h2 c => by
    unfold tpl
    have := dg_b k j
    rw [if_pos (by omega)]; omega
  have eq_ : ∀ j, 0 ≤ j → j < 4 → 1 < q j → 1 ≤ ebk q k j := fun j h1 h2 c => by
    have := Int.mul_le_mul (pq j h1 h2 c) (tq j h1 h2 c).1 (by omega) (by have := pq j h1 h2 c; omega)
    show 1 ≤ prf q j * tpl q k j
    omega
  have dM := cm_dvd (tB_1 pq)
  have dC := cm_dvd (tB_1 eq_)
  have one : ∀ j, 0 ≤ j → j < 4 → (if 0 < t j then bu j / t j else 0) * mnC 1 q (ebk q k) = 60 * mnC 1 q (prf q) * (tA 1 q a 4 j * (mnC 1 q (ebk q k) / tB 1 q (ebk q k) 4 j)) := by
    intro j h1 h2
    have dM := dM j h1 h2
    have dC := dC j h1 h2
    have dM : tB 1 q (prf q) 4 j ∣ mnC 1 q (prf q) := dM
    have dC : tB 1 q (ebk q k) 4 j ∣ mnC 1 q (ebk q k) := dC
    rw [hb j h1 h2, ht j h1 h2]
    by_cases c : j < 4 ∧ 1 < q j
    · have eA : tA 1 q a 4 j = a j := by unfold tA; rw [if_pos c]
      have eM : tB 1 q (prf q) 4 j = prf q j := by unfold tB; rw [if_pos c]
      have eC : tB 1 q (ebk q k) 4 j = prf q j * tpl q k j := by unfold tB; rw [if_pos c]; rfl
      rw [eM] at dM
      rw [eC] at dC
      have tt := tq j h1 h2 c.2
      rw [eA, eM, eC, if_pos (by omega)]
      exact share (pq j h1 h2 c.2) tt dM dC
    · have eA : tA 1 q a 4 j = 0 := by unfold tA; rw [if_neg c]
      have e0 : tpl q k j = 0 := by
        unfold tpl
        have := hq j h1 h2
        rw [if_neg (by omega)]
      rw [eA, e0, if_neg (by omega), Int.zero_mul, Int.zero_mul, Int.mul_zero]
  unfold nsum mnO
  rw [s4, s4, Int.add_mul, Int.add_mul, Int.add_mul, one 0 (by omega) (by omega), one 1 (by omega) (by omega), one 2 (by omega) (by omega), one 3 (by omega) (by omega), ← Int.mul_add, ← Int.mul_add, ← Int.mul_add]
theorem near_iff {s o M C T nab nbl : Int} (hM : 1 ≤ M) (hC : 1 ≤ C) (hb : 1 ≤ nbl) (h : s * C = 60 * M * o) : s ≤ nab * T * T * M * 60 / nbl ↔ o * nbl ≤ nab * (C * T * T) := by
  rw [Int.le_ediv_iff_mul_le (by omega)]
  have e1 : s * nbl * C = 60 * M * (o * nbl) := by rw [← Int.mul_assoc (60 * M), ← h, Int.mul_right_comm]
  have e2 : nab * T * T * M * 60 * C = 60 * M * (nab * (C * T * T)) := by simp only [Int.mul_assoc, Int.mul_left_comm, Int.mul_comm]
  constructor
  · intro z
    have := Int.mul_le_mul_of_nonneg_right z (show 0 ≤ C by omega)
    rw [e1, e2] at this
    exact Int.le_of_mul_le_mul_left this (by omega)
  · intro z
    have := Int.mul_le_mul_of_nonneg_left z (show 0 ≤ 60 * M by omega)
    rw [← e1, ← e2] at this
    exact Int.le_of_mul_le_mul_right this (by omega)
theorem own_0 (q : Int → Int) : own q 0 := fun j _ _ => Or.inr (by unfold dg; simp)
theorem tpl_0 {q f : Int → Int} {j : Int} (hq : 0 ≤ q j ∧ ¬ q j = 1) (hf : f j = if 1 < q j then 1 else 0) : f j = tpl q 0 j := by
  have e : dg 0 j = 0 := by unfold dg; simp
  rw [hf]
  refine tpl_of e ?_
  by_cases c : 1 < q j
  · rw [if_pos c]; exact Or.inl ⟨by omega, rfl⟩
  · rw [if_neg c]; exact Or.inr ⟨by omega, rfl⟩

set_option maxHeartbeats 4000000 in
theorem det_plan {ho lo gr sz co hc hr : Int → Int} {nb kind nab nbl hp a b ph qh : Int} {pc qc : Int → Int} (hnb : 0 ≤ nb ∧ nb ≤ 12) (hco : ∀ j, 0 ≤ co j ∧ co j ≤ 100000) (hag : ∀ j, 0 ≤ j → j < 4 → hc j = hr j)
    (hC : ((okS ho lo nb kind ∧ (0 ≤ nab ∧ nab ≤ 1000000000) ∧ (1 ≤ nbl ∧ nbl ≤ 1000)) ∧ ∃ (fw ms cs bu tr : Int → Int) (ch : Int), (∀ j, 0 ≤ j → j < 4 → fw j = if 1 < NBf ho lo nb j then 1 else 0) ∧ (∀ j, 0 ≤ j → j < 4 → ms j = if 1 < NBf ho lo nb j then 6 else 0) ∧ (∀ j, 0 ≤ j → j < 4 → cs j = co j) ∧ (∀ j, 0 ≤ j → j < 4 → bu j = bur (NBf ho lo nb) sz (SCf ho lo gr kind nb) j) ∧ (ph, ch, pc) = rn fw ms cs bu (nab * TTv ho lo sz nb * TTv ho lo sz nb * mnC 1 (NBf ho lo nb) (prf (NBf ho lo nb)) * 60 / nbl) 1296 (cp4 fw tr) (0, 9223372036854775807, hc) ∧ ((ph = 0 ∧ a = -1) ∨ (ph = 1 ∧ a = ch))) ∨ (¬ (okS ho lo nb kind ∧ (0 ≤ nab ∧ nab ≤ 1000000000) ∧ (1 ≤ nbl ∧ nbl ≤ 1000)) ∧ a = -1 ∧ ph = hp ∧ pc = hc))
    (hR : ((okS ho lo nb kind ∧ (0 ≤ nab ∧ nab ≤ 1000000000) ∧ (1 ≤ nbl ∧ nbl ≤ 1000)) ∧ ∃ b0 c : Int, (b0, c) = plF (NBf ho lo nb) (fun k => ncost co (tpl (NBf ho lo nb) k)) (fun k => mnO 1 (NBf ho lo nb) (fun j => sz j * sz j * SCf ho lo gr kind nb j) (ebk (NBf ho lo nb) k) * nbl ≤ nab * (mnC 1 (NBf ho lo nb) (ebk (NBf ho lo nb) k) * TTv ho lo sz nb * TTv ho lo sz nb)) 1296 ∧ ((b0 < 0 ∧ b = -1 ∧ qh = 0 ∧ qc = hr) ∨ (0 ≤ b0 ∧ b = c ∧ qh = 1 ∧ ∀ j, 0 ≤ j → j < 4 → qc j = tpl (NBf ho lo nb) b0 j))) ∨ (¬ (okS ho lo nb kind ∧ (0 ≤ nab ∧ nab ≤ 1000000000) ∧ (1 ≤ nbl ∧ nbl ≤ 1000)) ∧ b = -1 ∧ qh = hp ∧ qc = hr)) : a = b ∧ ph = qh ∧ ∀ j, 0 ≤ j → j < 4 → pc j = qc j := by
  rcases hC with ⟨hc1, fw, ms, cs, bu, tr, ch, hfw, hms, hcs, hbu, hrn, hv⟩ | ⟨hc1, ha, hph, hpc⟩
  · rcases hR with ⟨-, b0, c, hpl, hw⟩ | ⟨hr1, -⟩
    · have hq : ∀ j, 0 ≤ j → j < 4 → (0 ≤ NBf ho lo nb j ∧ NBf ho lo nb j ≤ 12) ∧ ¬ NBf ho lo nb j = 1 := fun j h1 h2 => ⟨nb12 ho lo hnb.1 hnb.2 j h1 h2, hc1.1.2.1 j h1 h2⟩
      have hM : 1 ≤ mnC 1 (NBf ho lo nb) (prf (NBf ho lo nb)) := mnC_1 (fun j h1 h2 => (hq j h1 h2).1)
      have hs : ∀ (k : Int) (t : Int → Int), 0 ≤ k → k < 1296 → own (NBf ho lo nb) k → (∀ j, 0 ≤ j → j < 4 → t j = tpl (NBf ho lo nb) k j) → ncost cs t = (fun k => ncost co (tpl (NBf ho lo nb) k)) k ∧ (fun k => ncost co (tpl (NBf ho lo nb) k)) k ≤ 2400000 ∧ (nsum bu t ≤ nab * TTv ho lo sz nb * TTv ho lo sz nb * mnC 1 (NBf ho lo nb) (prf (NBf ho lo nb)) * 60 / nbl ↔ (fun k => mnO 1 (NBf ho lo nb) (fun j => sz j * sz j * SCf ho lo gr kind nb j) (ebk (NBf ho lo nb) k) * nbl ≤ nab * (mnC 1 (NBf ho lo nb) (ebk (NBf ho lo nb) k) * TTv ho lo sz nb * TTv ho lo sz nb)) k) := by
        intro k t h0 h1 ho_ ht
        refine ⟨?_, (ncf_b (q := NBf ho lo nb) hco k).2, ?_⟩
        · exact sZ_c (fun j h1 h2 => by (try dsimp only); rw [ht j h1 h2, hcs j h1 h2])
        · have hC1 : 1 ≤ mnC 1 (NBf ho lo nb) (ebk (NBf ho lo nb) k) := (cm_m (tB_1 (fun j h1 h2 c => by
            have p1 := (pp_bd (hq j h1 h2).1 c).1
            have p2_ : 1 ≤ tpl (NBf ho lo nb) k j := by
              unfold tpl
              have := dg_b k j
              rw [if_pos (by omega)]; omega
            have := Int.mul_le_mul p1 p2_ (by omega) (by omega)
            show 1 ≤ NBf ho lo nb j * (NBf ho lo nb j - 1) * tpl (NBf ho lo nb) k j
            omega))).1
          exact near_iff hM hC1 hc1.2.2.1 (near_sum hq ht hbu)
      have sim := rn_sim (q := NBf ho lo nb) (f := fw) (m := ms) (held := hc) (fun j h1 h2 => ⟨(hq j h1 h2).1.1, (hq j h1 h2).2⟩) hfw hms hs 1296 0 (cp4 fw tr) (0, 9223372036854775807, hc) (by omega) (by omega) (own_0 _) (fun j h1 h2 => by unfold cp4; rw [if_pos ⟨h1, h2⟩]; exact tpl_0 ⟨(hq j h1 h2).1.1, (hq j h1 h2).2⟩ (hfw j h1 h2)) (by omega) (Or.inl ⟨show (-1 : Int) < 0 by omega, rfl⟩)
      rw [← hrn, ← hpl] at sim
      rcases sim with ⟨s1_, s2_⟩ | ⟨s1_, s2_, s3_, s4_⟩
      · have s1_ : b0 < 0 := s1_
        injection s2_ with e1 e2
        injection e2 with e3 e4
        rcases hw with ⟨w1, w2, w3, w4⟩ | ⟨w1, -⟩
        · rcases hv with ⟨v1, v2⟩ | ⟨v1, v2⟩
          · exact ⟨by rw [v2, w2], by rw [v1, w3], fun j h1 h2 => by rw [e4, w4]; exact hag j h1 h2⟩
          · omega
        · omega
      · have s1_ : 0 ≤ b0 := s1_
        have s2_ : ph = 1 := s2_
        have s3_ : ch = c := s3_
        rcases hw with ⟨w1, -⟩ | ⟨w1, w2, w3, w4⟩
        · omega
        · rcases hv with ⟨v1, v2⟩ | ⟨v1, v2⟩
          · omega
          · exact ⟨by rw [v2, w2, s3_], by rw [v1, w3], fun j h1 h2 => by rw [w4 j h1 h2]; exact s4_ j h1 h2⟩
    · exact absurd hc1 hr1
  · rcases hR with ⟨hr1, -⟩ | ⟨-, hb, hqh, hqc⟩
    · exact absurd hr1 hc1
    · exact ⟨by rw [ha, hb], by rw [hph, hqh], fun j h1 h2 => by rw [hpc, hqc]; exact hag j h1 h2⟩
theorem inv_plan {n : Int} {sz co go : Int → Int} {nb : Int} {ho da lo gr li le : Int → Int} {nr : Int} {so ki fo : Int → Int} {hp hp2 : Int} {hc hr hc2 hr2 : Int → Int} (h : lwI n sz co go nb ho da lo gr li le nr so ki fo hp hc hr) (h1 : 0 ≤ hp2 ∧ hp2 ≤ 1) (h2 : ∀ j, 0 ≤ j → j < 4 → hc2 j = hr2 j) : lwI n sz co go nb ho da lo gr li le nr so ki fo hp2 hc2 hr2 := by
  obtain ⟨a1, a2, a3, a4, a5, a6, a7, a8, a9, a10, a11, a12, a13, a14, a15, a16, a17, -, -⟩ := h
  exact ⟨a1, a2, a3, a4, a5, a6, a7, a8, a9, a10, a11, a12, a13, a14, a15, a16, a17, h1, h2⟩
