theorem inv_draw {n : Int} {sz co go : Int → Int} {nb : Int} {ho da lo gr li le : Int → Int} {nr : Int} {so ki fo : Int → Int} {hp : Int} {hc hr : Int → Int} {z k rv : Int} {x y y0 : (Int → Int) × Int} {li2 le2 : Int → Int} {P : Prop} (h : lwI n sz co go nb ho da lo gr li le nr so ki fo hp hc hr) (pC : ((P ∧ 0 ≤ k ∧ k ≤ sz z) ∧ rv = k ∧ x = y ∧ le2 = pu le z k) ∨ (¬ (P ∧ 0 ≤ k ∧ k ≤ sz z) ∧ rv = -1 ∧ x = y0 ∧ le2 = le)) (hr2 : ∀ j, 0 ≤ li2 j ∧ li2 j ≤ 99) : lwI n sz co go nb ho da lo gr li2 le2 nr so ki fo hp hc hr := by
  obtain ⟨h1, h2, h3, h4, h5, h6, h7, h8, h9, h10, h11, h12, h13, h14⟩ := h
  rcases pC with ⟨a, -, -, rfl⟩ | ⟨-, -, -, rfl⟩
  · have := h2 z
    exact ⟨h1, h2, h3, h4, h5, h6, h7, h8, h9, h10, h11, hr2, pu_all h13 (by omega) (by omega), h14⟩
  · exact ⟨h1, h2, h3, h4, h5, h6, h7, h8, h9, h10, h11, hr2, h13, h14⟩
theorem inv_joined {n : Int} {sz co go : Int → Int} {nb : Int} {ho da lo gr li le : Int → Int} {nr : Int} {so ki fo : Int → Int} {hp : Int} {hc hr : Int → Int} {za zb rv : Int} {go2 sz2 ho2 : Int → Int} (h : lwI n sz co go nb ho da lo gr li le nr so ki fo hp hc hr) (pC : (((0 ≤ za ∧ za < n ∧ go za = 0) ∧ (0 ≤ zb ∧ zb < n ∧ go zb = 0) ∧ ¬ za = zb ∧ sz za + sz zb ≤ 100) ∧ rv = 1 ∧ go2 = pu go zb 1 ∧ sz2 = pu sz za (sz za + sz zb) ∧ ho2 = mv ho nb zb za) ∨ (¬ ((0 ≤ za ∧ za < n ∧ go za = 0) ∧ (0 ≤ zb ∧ zb < n ∧ go zb = 0) ∧ ¬ za = zb ∧ sz za + sz zb ≤ 100) ∧ rv = 0 ∧ go2 = go ∧ sz2 = sz ∧ ho2 = ho)) : lwI n sz2 co go2 nb ho2 da lo gr li le nr so ki fo hp hc hr := by
  obtain ⟨h1, h2, h3, h4, h5, h6, h7, h8, h9⟩ := h
  rcases pC with ⟨a, -, rfl, rfl, rfl⟩ | ⟨-, -, rfl, rfl, rfl⟩
  · have sa := h2 za
    have sb := h2 zb
    have s1 := h5 za a.1.1 a.1.2.1
    refine ⟨h1, pu_all h2 (by omega) (by omega), h3, pu_all h4 (by omega) (by omega), ?_, h6, ?_, ?_, h9⟩
    · intro j u v
      by_cases e : j = za
      · subst e; rw [pu_eq]; omega
      · rw [pu_ne _ e]; exact h5 j u v
    · intro j
      unfold mv
      by_cases e : 0 ≤ j ∧ j < nb ∧ ho j = zb
      · rw [if_pos e]; omega
      · rw [if_neg e]; exact h7 j
    · intro j u v
      unfold mv
      by_cases e : ho j = zb
      · rw [if_pos ⟨u, v, e⟩, pu_ne _ a.2.2.1]; exact ⟨a.1.2.1, a.1.2.2⟩
      · rw [if_neg (fun q => e q.2.2), pu_ne _ e]; exact h8 j u v
  · exact ⟨h1, h2, h3, h4, h5, h6, h7, h8, h9⟩
theorem inv_repeat {n : Int} {sz co go : Int → Int} {nb : Int} {ho da lo gr li le : Int → Int} {nr : Int} {so ki fo : Int → Int} {hp : Int} {hc hr : Int → Int} {z kind gm rv nr2 : Int} {so2 ki2 fo2 : Int → Int} (h : lwI n sz co go nb ho da lo gr li le nr so ki fo hp hc hr) (pC : (((0 ≤ z ∧ z < nb) ∧ (0 ≤ kind ∧ kind < 3) ∧ (0 ≤ gm ∧ gm ≤ 10000) ∧ nr < 40) ∧ rv = nr + 1 ∧ nr2 = nr + 1 ∧ so2 = pu so nr z ∧ ki2 = pu ki nr kind ∧ fo2 = pu fo nr gm) ∨ (¬ ((0 ≤ z ∧ z < nb) ∧ (0 ≤ kind ∧ kind < 3) ∧ (0 ≤ gm ∧ gm ≤ 10000) ∧ nr < 40) ∧ rv = -1 ∧ nr2 = nr ∧ so2 = so ∧ ki2 = ki ∧ fo2 = fo)) : lwI n sz co go nb ho da lo gr li le nr2 so2 ki2 fo2 hp hc hr := by
  obtain ⟨h1, h2, h3, h4, h5, h6, h7, h8, h9, h10, h11, h12, h13, h14, h15, h16, h17, h18⟩ := h
  rcases pC with ⟨a, -, rfl, rfl, rfl, rfl⟩ | ⟨-, -, rfl, rfl, rfl, rfl⟩
  · refine ⟨h1, h2, h3, h4, h5, h6, h7, h8, h9, h10, h11, h12, h13, by omega, ?_, pu_all h16 (by omega) (by omega), pu_all h17 (by omega) (by omega), h18⟩
    intro j u v
    by_cases e : j = nr
    · subst e; rw [pu_eq]; exact a.1
    · rw [pu_ne _ e]; exact h15 j u (by omega)
  · exact ⟨h1, h2, h3, h4, h5, h6, h7, h8, h9, h10, h11, h12, h13, h14, h15, h16, h17, h18⟩
theorem det_pl {n hp z a b : Int} {hc hr : Int → Int} (hn : 0 ≤ n ∧ n ≤ 4) (hag : ∀ j, 0 ≤ j → j < 4 → hc j = hr j) (h1 : (((0 ≤ z ∧ z < n) ∧ ¬ hp = 0) ∧ a = hc z) ∨ (¬ ((0 ≤ z ∧ z < n) ∧ ¬ hp = 0) ∧ a = -1)) (h2 : (((0 ≤ z ∧ z < n) ∧ ¬ hp = 0) ∧ b = hr z) ∨ (¬ ((0 ≤ z ∧ z < n) ∧ ¬ hp = 0) ∧ b = -1)) : a = b := by
  rcases h1 with ⟨p, h1⟩ | ⟨p, h1⟩ <;> rcases h2 with ⟨q, h2⟩ | ⟨q, h2⟩
  · rw [h1, h2]; exact hag z p.1.1 (by omega)
  · exact absurd p q
  · exact absurd q p
  · exact h1.trans h2.symm
