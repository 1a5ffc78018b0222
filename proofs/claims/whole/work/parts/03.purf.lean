/-! PURE ROWS: fractions of strata brought to one denominator. -/
def tA (t : Int) (q a : Int → Int) (i : Int) : Int → Int := fun j => if j < i ∧ t < q j then a j else 0
def tB (t : Int) (q b : Int → Int) (i : Int) : Int → Int := fun j => if j < i ∧ t < q j then b j else 1
def mnC (t : Int) (q b : Int → Int) : Int := cm (tB t q b 4) 4
def mnO (t : Int) (q a b : Int → Int) : Int := sZ (fun j => tA t q a 4 j * (mnC t q b / tB t q b 4 j)) 4
theorem tA_0 {t : Int} {q a f : Int → Int} (h : ∀ j, 0 ≤ j → j < 4 → f j = 0) : ∀ j, 0 ≤ j → j < 4 → f j = tA t q a 0 j := by
  intro j h1 h2; unfold tA; rw [if_neg (by omega)]; exact h j h1 h2
theorem tB_0 {t : Int} {q b f : Int → Int} (h : ∀ j, 0 ≤ j → j < 4 → f j = 1) : ∀ j, 0 ≤ j → j < 4 → f j = tB t q b 0 j := by
  intro j h1 h2; unfold tB; rw [if_neg (by omega)]; exact h j h1 h2
theorem tA_hit {t i : Int} {q a f : Int → Int} (h : ∀ j, 0 ≤ j → j < 4 → f j = tA t q a i j) (hc : t < q i) : ∀ j, 0 ≤ j → j < 4 → pu f i (a i) j = tA t q a (i + 1) j := by
  intro j h1 h2
  by_cases e : j = i
  · subst e; rw [pu_eq]; unfold tA; rw [if_pos ⟨by omega, hc⟩]
  · rw [pu_ne _ e, h j h1 h2]
    unfold tA
    by_cases c : j < i ∧ t < q j
    · rw [if_pos c, if_pos ⟨by omega, c.2⟩]
    · rw [if_neg c, if_neg (fun z => c ⟨by omega, z.2⟩)]
theorem tA_miss {t i : Int} {q a f : Int → Int} (h : ∀ j, 0 ≤ j → j < 4 → f j = tA t q a i j) (hc : ¬ t < q i) : ∀ j, 0 ≤ j → j < 4 → f j = tA t q a (i + 1) j := by
  intro j h1 h2
  rw [h j h1 h2]
  unfold tA
  by_cases c : j < i ∧ t < q j
  · rw [if_pos c, if_pos ⟨by omega, c.2⟩]
  · rw [if_neg c, if_neg (fun z => c ⟨by
      have : ¬ j = i := fun e => hc (e ▸ z.2)
      omega, z.2⟩)]
theorem tB_hit {t i : Int} {q b f : Int → Int} (h : ∀ j, 0 ≤ j → j < 4 → f j = tB t q b i j) (hc : t < q i) : ∀ j, 0 ≤ j → j < 4 → pu f i (b i) j = tB t q b (i + 1) j := by
  intro j h1 h2
  by_cases e : j = i
  · subst e; rw [pu_eq]; unfold tB; rw [if_pos ⟨by omega, hc⟩]
  · rw [pu_ne _ e, h j h1 h2]
    unfold tB
    by_cases c : j < i ∧ t < q j
    · rw [if_pos c, if_pos ⟨by omega, c.2⟩]
    · rw [if_neg c, if_neg (fun z => c ⟨by omega, z.2⟩)]
theorem tB_miss {t i : Int} {q b f : Int → Int} (h : ∀ j, 0 ≤ j → j < 4 → f j = tB t q b i j) (hc : ¬ t < q i) : ∀ j, 0 ≤ j → j < 4 → f j = tB t q b (i + 1) j := by
  intro j h1 h2
  rw [h j h1 h2]
  unfold tB
  by_cases c : j < i ∧ t < q j
  · rw [if_pos c, if_pos ⟨by omega, c.2⟩]
  · rw [if_neg c, if_neg (fun z => c ⟨by
      have : ¬ j = i := fun e => hc (e ▸ z.2)
      omega, z.2⟩)]
theorem cm_c {f g : Int → Int} (h : ∀ j, 0 ≤ j → j < 4 → f j = g j) : cm f 4 = cm g 4 := by
  show lc (lc (lc (lc 1 (f 0)) (f 1)) (f 2)) (f 3) = lc (lc (lc (lc 1 (g 0)) (g 1)) (g 2)) (g 3)
  rw [h 0 (by omega) (by omega), h 1 (by omega) (by omega), h 2 (by omega) (by omega), h 3 (by omega) (by omega)]
theorem mn_end {t i : Int} {q a b ab be : Int → Int} (hA : ∀ j, 0 ≤ j → j < 4 → ab j = tA t q a i j) (hB : ∀ j, 0 ≤ j → j < 4 → be j = tB t q b i j) (hi : i = 4) : sZ (fun j => ab j * (cm be 4 / be j)) 4 = mnO t q a b ∧ cm be 4 = mnC t q b := by
  subst hi
  have e : cm be 4 = mnC t q b := cm_c hB
  refine ⟨?_, e⟩
  rw [e]
  exact sZ_c (fun j h1 h2 => by rw [hA j h1 h2, hB j h1 h2])
theorem mul_bd {a b A B : Int} (h1 : 0 ≤ a) (h2 : a ≤ A) (h3 : 0 ≤ b) (h4 : b ≤ B) : 0 ≤ a * b ∧ a * b ≤ A * B := ⟨Int.mul_nonneg h1 h3, Int.mul_le_mul h2 h4 h3 (by omega)⟩
theorem mul_bd1 {a b A B : Int} (h1 : 1 ≤ a) (h2 : a ≤ A) (h3 : 1 ≤ b) (h4 : b ≤ B) : 1 ≤ a * b ∧ a * b ≤ A * B := ⟨by have := Int.mul_le_mul h1 h3 (by omega) (show (0 : Int) ≤ a by omega); omega, Int.mul_le_mul h2 h4 (by omega) (by omega)⟩
theorem tB_b12 {i : Int} {q be : Int → Int} (hB : ∀ j, 0 ≤ j → j < 4 → be j = tB 0 q q i j) (hq : ∀ j, 0 ≤ j → j < 4 → 0 ≤ q j ∧ q j ≤ 12) : ∀ j, 0 ≤ j → j < 4 → 1 ≤ be j ∧ be j ≤ 12 := by
  intro j h1 h2
  rw [hB j h1 h2]
  have := hq j h1 h2
  unfold tB
  by_cases c : j < i ∧ 0 < q j
  · rw [if_pos c]; omega
  · rw [if_neg c]; omega
theorem up_2000 {be : Int → Int} {B : Int} (h : ∀ j, 0 ≤ j → j < 4 → 1 ≤ be j ∧ be j ≤ B) (hB : B ≤ 2000) : ∀ j, 0 ≤ j → j < 4 → 1 ≤ be j ∧ be j ≤ 2000 := by
  intro j h1 h2; have := h j h1 h2; omega
theorem lc_m {a b : Int} (ha : 1 ≤ a) (hb : 1 ≤ b) : 1 ≤ lc a b ∧ lc a b ≤ a * b := by
  unfold lc
  have g := gc_bd (b := b) ha
  have q1 : 1 ≤ a / (Int.gcd a b : Int) := by rw [Int.le_ediv_iff_mul_le (by omega)]; omega
  have q2 : a / (Int.gcd a b : Int) ≤ a := Int.ediv_le_self _ (by omega)
  have m1 : 1 * 1 ≤ a / (Int.gcd a b : Int) * b := Int.mul_le_mul q1 hb (by omega) (by omega)
  exact ⟨by omega, Int.mul_le_mul_of_nonneg_right q2 (by omega)⟩
theorem cm_m {f : Int → Int} (h : ∀ j, 0 ≤ j → j < 4 → 1 ≤ f j) : 1 ≤ cm f 4 ∧ cm f 4 ≤ f 0 * f 1 * f 2 * f 3 := by
  show 1 ≤ lc (lc (lc (lc 1 (f 0)) (f 1)) (f 2)) (f 3) ∧ lc (lc (lc (lc 1 (f 0)) (f 1)) (f 2)) (f 3) ≤ _
  have f0 := h 0 (by omega) (by omega)
  have f1 := h 1 (by omega) (by omega)
  have f2 := h 2 (by omega) (by omega)
  have f3 := h 3 (by omega) (by omega)
  have b1 := lc_m (a := 1) (by omega) f0
  have b2 := lc_m b1.1 f1
  have b3 := lc_m b2.1 f2
  have b4 := lc_m b3.1 f3
  refine ⟨b4.1, ?_⟩
  have c1 : lc 1 (f 0) ≤ f 0 := by omega
  have c2 : lc (lc 1 (f 0)) (f 1) ≤ f 0 * f 1 := Int.le_trans b2.2 (Int.mul_le_mul_of_nonneg_right c1 (by omega))
  have c3 : lc (lc (lc 1 (f 0)) (f 1)) (f 2) ≤ f 0 * f 1 * f 2 := Int.le_trans b3.2 (Int.mul_le_mul_of_nonneg_right c2 (by omega))
  exact Int.le_trans b4.2 (Int.mul_le_mul_of_nonneg_right c3 (by omega))
theorem cm_b12 {be : Int → Int} (h : ∀ j, 0 ≤ j → j < 4 → 1 ≤ be j ∧ be j ≤ 12) : 1 ≤ cm be 4 ∧ cm be 4 ≤ 20736 := by
  have m := cm_m (fun j h1 h2 => (h j h1 h2).1)
  have f0 := h 0 (by omega) (by omega)
  have f1 := h 1 (by omega) (by omega)
  have f2 := h 2 (by omega) (by omega)
  have f3 := h 3 (by omega) (by omega)
  have p1 := mul_bd1 f0.1 f0.2 f1.1 f1.2
  have p2 := mul_bd1 p1.1 p1.2 f2.1 f2.2
  have p3 := mul_bd1 p2.1 p2.2 f3.1 f3.2
  omega
theorem s4 (f : Int → Int) : sZ f 4 = f 0 + f 1 + f 2 + f 3 := by
  show 0 + f 0 + f 1 + f 2 + f 3 = _
  omega
theorem s4_bd {f : Int → Int} {B : Int} (h : ∀ j, 0 ≤ j → j < 4 → 0 ≤ f j ∧ f j ≤ B) : 0 ≤ sZ f 4 ∧ sZ f 4 ≤ 4 * B := by
  have f0 := h 0 (by omega) (by omega)
  have f1 := h 1 (by omega) (by omega)
  have f2 := h 2 (by omega) (by omega)
  have f3 := h 3 (by omega) (by omega)
  rw [s4]; omega
theorem div_bd {c b : Int} (hc : 0 ≤ c) (hb : 1 ≤ b) : 0 ≤ c / b ∧ c / b ≤ c := ⟨Int.ediv_nonneg hc (by omega), Int.ediv_le_self _ hc⟩
theorem mn_sb {i : Int} {q sz sm ab be : Int → Int} (hA : ∀ j, 0 ≤ j → j < 4 → ab j = tA 0 q (fun j => sz j * sm j) i j) (hb : ∀ j, 0 ≤ j → j < 4 → 1 ≤ be j ∧ be j ≤ 12) (hsz : ∀ j, 0 ≤ j → j < 4 → 0 ≤ sz j ∧ sz j ≤ 100) (hsm : ∀ j, 0 ≤ j → j < 4 → 0 ≤ sm j ∧ sm j ≤ 120000) (hc : 1 ≤ cm be 4 ∧ cm be 4 ≤ 20736) : 0 ≤ sZ (fun j => ab j * (cm be 4 / be j)) 4 ∧ sZ (fun j => ab j * (cm be 4 / be j)) 4 ≤ 4 * (12000000 * 20736) := by
  refine s4_bd (fun j h1 h2 => ?_)
  have a1 : 0 ≤ ab j ∧ ab j ≤ 12000000 := by
    rw [hA j h1 h2]
    unfold tA
    by_cases c : j < i ∧ 0 < q j
    · rw [if_pos c]
      dsimp only
      have := mul_bd (hsz j h1 h2).1 (hsz j h1 h2).2 (hsm j h1 h2).1 (hsm j h1 h2).2
      omega
    · rw [if_neg c]; omega
  have d1 := div_bd (c := cm be 4) (by omega) (hb j h1 h2).1
  exact mul_bd a1.1 a1.2 d1.1 (by omega)
theorem ws_bd {s c n : Int} (hs : 0 ≤ s ∧ s ≤ 100) (hc : 0 ≤ c ∧ c ≤ n * n * 100000000) (hn : 0 ≤ n ∧ n ≤ 12) : 0 ≤ s * s * c ∧ s * s * c ≤ 10000 * (n * n * 100000000) ∧ s * s * c ≤ 144000000000000 := by
  have m1 := mul_bd hs.1 hs.2 hs.1 hs.2
  have m2 := mul_bd m1.1 m1.2 hc.1 hc.2
  have m3 := mul_bd hn.1 hn.2 hn.1 hn.2
  omega
theorem np_bd {n : Int} (hn : 0 ≤ n ∧ n ≤ 12) (h : 1 < n) : 1 ≤ n * (n * (n - 1)) ∧ n * (n * (n - 1)) ≤ 1584 ∧ n * n ≤ n * (n * (n - 1)) := by
  rcases (show n = 2 ∨ n = 3 ∨ n = 4 ∨ n = 5 ∨ n = 6 ∨ n = 7 ∨ n = 8 ∨ n = 9 ∨ n = 10 ∨ n = 11 ∨ n = 12 by omega) with rfl | rfl | rfl | rfl | rfl | rfl | rfl | rfl | rfl | rfl | rfl <;> decide
theorem tB_bp {i : Int} {q be : Int → Int} (hB : ∀ j, 0 ≤ j → j < 4 → be j = tB 1 q (fun j => q j * (q j * (q j - 1))) i j) (hq : ∀ j, 0 ≤ j → j < 4 → 0 ≤ q j ∧ q j ≤ 12) : ∀ j, 0 ≤ j → j < 4 → 1 ≤ be j ∧ be j ≤ 2000 := by
  intro j h1 h2
  rw [hB j h1 h2]
  unfold tB
  by_cases c : j < i ∧ 1 < q j
  · rw [if_pos c]
    dsimp only
    have := np_bd (hq j h1 h2) c.2
    omega
  · rw [if_neg c]; omega
theorem sp_sb {i : Int} {q sz sc ab be : Int → Int} (hA : ∀ j, 0 ≤ j → j < 4 → ab j = tA 1 q (fun j => sz j * sz j * sc j) i j) (hB : ∀ j, 0 ≤ j → j < 4 → be j = tB 1 q (fun j => q j * (q j * (q j - 1))) i j) (hi : i = 4) (hsz : ∀ j, 0 ≤ j → j < 4 → 0 ≤ sz j ∧ sz j ≤ 100) (hq : ∀ j, 0 ≤ j → j < 4 → 0 ≤ q j ∧ q j ≤ 12) (hsc : ∀ j, 0 ≤ j → j < 4 → 0 ≤ sc j ∧ sc j ≤ q j * q j * 100000000) (hc1 : 1 ≤ cm be 4) (hc : cm be 4 ≤ 110592) : 0 ≤ sZ (fun j => ab j * (cm be 4 / be j)) 4 ∧ sZ (fun j => ab j * (cm be 4 / be j)) 4 ≤ 4 * (1000000000000 * 110592) := by
  refine s4_bd (fun j h1 h2 => ?_)
  rw [hA j h1 h2, hB j h1 h2]
  unfold tA tB
  by_cases c : j < i ∧ 1 < q j
  · rw [if_pos c, if_pos c]
    dsimp only
    have n1 := np_bd (hq j h1 h2) c.2
    have w1 := ws_bd (hsz j h1 h2) (hsc j h1 h2) (hq j h1 h2)
    have d1 := div_bd (c := cm be 4) (b := q j * (q j * (q j - 1))) (by omega) n1.1
    have d2 : (cm be 4 / (q j * (q j * (q j - 1)))) * (q j * (q j * (q j - 1))) ≤ cm be 4 := Int.ediv_mul_le _ (by omega)
    refine ⟨Int.mul_nonneg w1.1 d1.1, ?_⟩
    have e1 := Int.mul_le_mul_of_nonneg_right w1.2.1 d1.1
    have e2 := Int.mul_le_mul_of_nonneg_right n1.2.2 d1.1
    have e3 : q j * (q j * (q j - 1)) * (cm be 4 / (q j * (q j * (q j - 1)))) ≤ cm be 4 := by rw [Int.mul_comm]; exact d2
    have e4 : 10000 * (q j * q j * 100000000) * (cm be 4 / (q j * (q j * (q j - 1)))) = 1000000000000 * (q j * q j * (cm be 4 / (q j * (q j * (q j - 1))))) := by
      rw [show 10000 * (q j * q j * 100000000) = 1000000000000 * (q j * q j) by omega, Int.mul_assoc]
    omega
  · rw [if_neg c, if_neg c]; omega
theorem tt_bd {c t : Int} (h1 : 1 ≤ c) (h2 : c ≤ 110592) (ht : 1 ≤ t ∧ t ≤ 400) : 1 ≤ c * t * t ∧ c * t * t ≤ 110592 * 400 * 400 := by
  have m := mul_bd1 h1 h2 ht.1 ht.2
  exact mul_bd1 m.1 m.2 ht.1 ht.2
