/-! PURE ROWS for the reference. -/
theorem swp {f : Int → Int} {a b : Int} : pu (pu f b (f a)) a (f b) = pu (pu f a (f b)) b (f a) := by
  funext j
  unfold pu
  by_cases h1 : j = a
  · by_cases h2 : j = b
    · rw [if_pos h1, if_pos h2, ← h1, ← h2]
    · rw [if_pos h1, if_neg h2, if_pos h1]
  · by_cases h2 : j = b
    · rw [if_neg h1, if_pos h2, if_pos h2]
    · rw [if_neg h1, if_neg h2, if_neg h2, if_neg h1]
theorem dr_s2 {st size i seed : Int} {f : Int → Int} {x : (Int → Int) × Int} (h : (f, seed) = drN st size i.toNat x) (hi : 0 ≤ i) (hr : 0 ≤ rnd seed (size - i) ∧ rnd seed (size - i) < size - i) : (pu (pu f (st + (i + rnd seed (size - i))) (f (st + i))) (st + i) (f (st + (i + rnd seed (size - i)))), seed * 6364136223846793005 + 1442695040888963407) = drN st size (i + 1).toNat x := by
  rw [← dr_s h hi, swp, ← Int.add_assoc]
  rfl
theorem sz_ext {g : Int → Int} {n : Int} (h0 : 0 ≤ n) (h4 : n ≤ 4) (h : ∀ j, n ≤ j → j < 4 → g j = 0) : sZ g n = sZ g 4 := by
  have e1 : sZ g 1 = 0 + g 0 := rfl
  have e2 : sZ g 2 = 0 + g 0 + g 1 := rfl
  have e3 : sZ g 3 = 0 + g 0 + g 1 + g 2 := rfl
  have e4 : sZ g 4 = 0 + g 0 + g 1 + g 2 + g 3 := rfl
  have e0 : sZ g 0 = 0 := rfl
  rcases (show n = 0 ∨ n = 1 ∨ n = 2 ∨ n = 3 ∨ n = 4 by omega) with rfl | rfl | rfl | rfl | rfl
  · have a0 := h 0 (by omega) (by omega); have a1 := h 1 (by omega) (by omega); have a2 := h 2 (by omega) (by omega); have a3 := h 3 (by omega) (by omega); omega
  · have a1 := h 1 (by omega) (by omega); have a2 := h 2 (by omega) (by omega); have a3 := h 3 (by omega) (by omega); omega
  · have a2 := h 2 (by omega) (by omega); have a3 := h 3 (by omega) (by omega); omega
  · have a3 := h 3 (by omega) (by omega); omega
  · rfl
theorem gc_ext {ho lo go : Int → Int} {nb n : Int} (h1 : 0 ≤ n) (h4 : n ≤ 4) (hz : ∀ j, 0 ≤ j → j < 4 → (n ≤ j ∨ ¬ go j = 0) → NBf ho lo nb j = 0) : sZ (gc ho lo nb) n = CNv ho lo nb := by
  refine sz_ext h1 h4 (fun j a b => ?_)
  have := hz j (by omega) b (Or.inl a)
  unfold gc
  unfold NBf at this
  rw [if_neg (by omega)]
theorem gt_ext {ho lo go sz : Int → Int} {nb n : Int} (h1 : 0 ≤ n) (h4 : n ≤ 4) (hz : ∀ j, 0 ≤ j → j < 4 → (n ≤ j ∨ ¬ go j = 0) → NBf ho lo nb j = 0) : sZ (gt ho lo nb sz) n = TTv ho lo sz nb := by
  refine sz_ext h1 h4 (fun j a b => ?_)
  have := hz j (by omega) b (Or.inl a)
  unfold gt
  unfold NBf at this
  rw [if_neg (by omega)]
theorem ct_y {rv n z x : Int} (h : (rv = 1 ∧ (0 ≤ z ∧ z < n) ∧ 0 < x) ∨ (rv = 0 ∧ ¬ 0 < x)) (hr : ¬ rv = 0) : 0 < x := by
  rcases h with h | h
  · exact h.2.2
  · exact absurd h.1 hr
theorem ct_n {rv n z x : Int} (h : (rv = 1 ∧ (0 ≤ z ∧ z < n) ∧ 0 < x) ∨ (rv = 0 ∧ ¬ 0 < x)) (hr : rv = 0) : ¬ 0 < x := by
  rcases h with h | h
  · omega
  · exact h.2
theorem gs_end2 {y x a b : Int} (h0 : 0 ≤ y) (hG : Int.gcd x y = Int.gcd a b) (hz : x = 0) : y = (Int.gcd a b : Int) := by
  subst hz
  rw [← hG, Int.gcd_zero_left]
  omega
theorem gc_step2 (x y : Int) : Int.gcd (y % x) x = Int.gcd x y := by rw [Int.gcd_comm, gc_step, Int.gcd_comm]
theorem gs_m {x y : Int} {n : Nat} (h0 : 0 ≤ x) (hx : ¬ x = 0) (hm : x < ((n + 1 : Nat) : Int)) : y % x < (n : Int) := by
  have := Int.emod_lt_of_pos y (show 0 < x by omega)
  omega
theorem te_0 {a b p : Int} (h : p = 0) : a / (Int.gcd a b : Int) = telv a b p := by unfold telv; rw [if_pos h]
theorem te_1 {a b p : Int} (h : ¬ p = 0) : b / (Int.gcd a b : Int) = telv a b p := by unfold telv; rw [if_neg h]
theorem nb12 (ho lo : Int → Int) {nb : Int} (h1 : 0 ≤ nb) (h2 : nb ≤ 12) : ∀ j, 0 ≤ j → j < 4 → 0 ≤ NBf ho lo nb j ∧ NBf ho lo nb j ≤ 12 := fun j _ _ => gn_b ho lo j h1 h2
theorem lc_1 (x : Int) : lc x 1 = x := by unfold lc; rw [Int.gcd_one_right]; simp
theorem cm_y {t i x : Int} {q b : Int → Int} (h : x = cm (tB t q b 4) i) (hi : 0 ≤ i) (h4 : i < 4) (hc : t < q i) : lc x (b i) = cm (tB t q b 4) (i + 1) := by
  rw [← cm_s h hi]
  unfold lc tB
  rw [if_pos ⟨h4, hc⟩]
theorem cm_n {t i x : Int} {q b : Int → Int} (h : x = cm (tB t q b 4) i) (hi : 0 ≤ i) (hc : ¬ t < q i) : x = cm (tB t q b 4) (i + 1) := by
  rw [← cm_s h hi]
  have e : tB t q b 4 i = 1 := by unfold tB; rw [if_neg (fun z => hc z.2)]
  rw [e]
  exact (lc_1 x).symm
theorem tB_12 {q : Int → Int} (hq : ∀ j, 0 ≤ j → j < 4 → 0 ≤ q j ∧ q j ≤ 12) : ∀ j, 0 ≤ j → j < 4 → 1 ≤ tB 0 q q 4 j ∧ tB 0 q q 4 j ≤ 2000 := up_2000 (tB_b12 (i := 4) (fun _ _ _ => rfl) hq) (by omega)
theorem tB_12s {q : Int → Int} (hq : ∀ j, 0 ≤ j → j < 4 → 0 ≤ q j ∧ q j ≤ 12) : ∀ j, 0 ≤ j → j < 4 → 1 ≤ tB 0 q q 4 j ∧ tB 0 q q 4 j ≤ 12 := tB_b12 (i := 4) (fun _ _ _ => rfl) hq
theorem cm_e1 {f : Int → Int} {n : Int} (h0 : 0 ≤ n) (h4 : n ≤ 4) (h : ∀ j, n ≤ j → j < 4 → f j = 1) : cm f n = cm f 4 := by
  have e1 : cm f 1 = lc (cm f 0) (f 0) := rfl
  have e2 : cm f 2 = lc (cm f 1) (f 1) := rfl
  have e3 : cm f 3 = lc (cm f 2) (f 2) := rfl
  have e4 : cm f 4 = lc (cm f 3) (f 3) := rfl
  rcases (show n = 0 ∨ n = 1 ∨ n = 2 ∨ n = 3 ∨ n = 4 by omega) with rfl | rfl | rfl | rfl | rfl
  · rw [e4, e3, e2, e1, h 0 (by omega) (by omega), h 1 (by omega) (by omega), h 2 (by omega) (by omega), h 3 (by omega) (by omega), lc_1, lc_1, lc_1, lc_1]
  · rw [e4, e3, e2, h 1 (by omega) (by omega), h 2 (by omega) (by omega), h 3 (by omega) (by omega), lc_1, lc_1, lc_1]
  · rw [e4, e3, h 2 (by omega) (by omega), h 3 (by omega) (by omega), lc_1, lc_1]
  · rw [e4, h 3 (by omega) (by omega), lc_1]
  · rfl
theorem tB_out {t n nb : Int} {ho lo go b : Int → Int} (ht : 0 ≤ t) (hz : ∀ j, 0 ≤ j → j < 4 → (n ≤ j ∨ ¬ go j = 0) → NBf ho lo nb j = 0) (h1 : 0 ≤ n) : ∀ j, n ≤ j → j < 4 → tB t (NBf ho lo nb) b 4 j = 1 := by
  intro j a c
  unfold tB
  rw [if_neg]
  intro z
  have := hz j (by omega) c (Or.inl a)
  omega
theorem tA_out {t n nb : Int} {ho lo go a : Int → Int} (ht : 0 ≤ t) (hz : ∀ j, 0 ≤ j → j < 4 → (n ≤ j ∨ ¬ go j = 0) → NBf ho lo nb j = 0) (h1 : 0 ≤ n) : ∀ j, n ≤ j → j < 4 → tA t (NBf ho lo nb) a 4 j = 0 := by
  intro j b c
  unfold tA
  rw [if_neg]
  intro z
  have := hz j (by omega) c (Or.inl b)
  omega
theorem cm_ext {ho lo go b : Int → Int} {nb n i x : Int} (h : x = cm (tB 0 (NBf ho lo nb) b 4) i) (hi : i = n) (h1 : 0 ≤ n) (h2 : n ≤ 4) (hz : ∀ j, 0 ≤ j → j < 4 → (n ≤ j ∨ ¬ go j = 0) → NBf ho lo nb j = 0) : x = mnC 0 (NBf ho lo nb) b := by
  subst hi
  rw [h]
  exact cm_e1 h1 h2 (tB_out (by omega) hz h1)
theorem mo_y {q sz sm b : Int → Int} {i x bo : Int} (h : x = sZ (fun j => tA 0 q (fun j => sz j * sm j) 4 j * (mnC 0 q b / tB 0 q b 4 j)) i) (hbo : bo = mnC 0 q b) (hi : 0 ≤ i) (h4 : i < 4) (hc : 0 < q i) : x + sm i * (bo / b i) * sz i = sZ (fun j => tA 0 q (fun j => sz j * sm j) 4 j * (mnC 0 q b / tB 0 q b 4 j)) (i + 1) := by
  rw [sZ_s _ hi, ← h]
  try dsimp only
  unfold tA tB
  rw [if_pos ⟨h4, hc⟩, if_pos ⟨h4, hc⟩, hbo]
  try dsimp only
  rw [Int.mul_comm, ← Int.mul_assoc]
theorem mo_n {t : Int} {q a b : Int → Int} {i x : Int} (h : x = sZ (fun j => tA t q a 4 j * (mnC t q b / tB t q b 4 j)) i) (hi : 0 ≤ i) (hc : ¬ t < q i) : x = sZ (fun j => tA t q a 4 j * (mnC t q b / tB t q b 4 j)) (i + 1) := by
  rw [sZ_s _ hi, ← h]
  try dsimp only
  have e : tA t q a 4 i = 0 := by unfold tA; rw [if_neg (fun z => hc z.2)]
  rw [e, Int.zero_mul, Int.add_zero]
theorem mo_ext {ho lo go a b : Int → Int} {nb n i x : Int} (h : x = sZ (fun j => tA 0 (NBf ho lo nb) a 4 j * (mnC 0 (NBf ho lo nb) b / tB 0 (NBf ho lo nb) b 4 j)) i) (hi : i = n) (h1 : 0 ≤ n) (h2 : n ≤ 4) (hz : ∀ j, 0 ≤ j → j < 4 → (n ≤ j ∨ ¬ go j = 0) → NBf ho lo nb j = 0) : x = mnO 0 (NBf ho lo nb) a b := by
  subst hi
  rw [h]
  refine sz_ext h1 h2 (fun j c d => ?_)
  try dsimp only
  rw [tA_out (by omega) hz h1 j c d, Int.zero_mul]
theorem mo_b (ho lo : Int → Int) {gr sz : Int → Int} {nb : Int} (k : Int) (h1 : 0 ≤ nb) (h2 : nb ≤ 12) (hs : ∀ j, 0 ≤ sz j ∧ sz j ≤ 100) (hg : ∀ j, 0 ≤ gr j ∧ gr j ≤ 10000) : 0 ≤ mnO 0 (NBf ho lo nb) (fun j => sz j * SMf ho lo gr k nb j) (NBf ho lo nb) ∧ mnO 0 (NBf ho lo nb) (fun j => sz j * SMf ho lo gr k nb j) (NBf ho lo nb) ≤ 4 * (12000000 * 20736) := by
  have hq := nb12 ho lo h1 h2
  exact mn_sb (i := 4) (be := tB 0 (NBf ho lo nb) (NBf ho lo nb) 4) (fun _ _ _ => rfl) (tB_12s hq) (fun j _ _ => hs j) (gM_b ⟨h1, h2⟩ hg (fun _ _ _ => rfl)) (cm_b12 (tB_12s hq))
