def cxq (lo da gr g : Int → Int) (nb kind n f a t : Int) : Prop := cN lo nb ≤ 10 ∧ 0 < pcn (cA lo da nb) 10 ∧ pcn (cA lo da nb) 10 < cN lo nb ∧ n = cN lo nb ∧ a = cA lo da nb ∧ t = cT lo gr kind nb ∧ f = pcn (cA lo da nb) 10 ∧ ∀ b, 0 ≤ b → b < nb → lo b = 0 → g (cN lo b) = gr (b * 3 + kind)
theorem cT_b {lo gr : Int → Int} {kd k : Int} (h : 0 ≤ k ∧ k ≤ 12) (hg : ∀ j, 0 ≤ gr j ∧ gr j ≤ 10000) : 0 ≤ cT lo gr kd k ∧ cT lo gr kd k ≤ 200000 := by
  unfold cT
  have b : ∀ j, 0 ≤ (fun b => if lo b = 0 then gr (b * 3 + kd) else 0) j ∧ (fun b => if lo b = 0 then gr (b * 3 + kd) else 0) j ≤ 10000 := by
    intro j; try dsimp only
    have := hg (j * 3 + kd)
    by_cases c : lo j = 0
    · rw [if_pos c]; exact this
    · rw [if_neg c]; omega
  have l1 := sZ_nn k (fun j => (b j).1)
  have l2 := sZ_le 10000 h.1 (fun j => (b j).2)
  omega
theorem cx_facts {lo da gr g : Int → Int} {nb kind rv n f a t : Int} (hbm : 0 ≤ nb ∧ nb ≤ 12) (hgb : ∀ j, 0 ≤ gr j ∧ gr j ≤ 10000) (pg : (rv = 0 ∧ 10 < cN lo nb) ∨ (cN lo nb ≤ 10 ∧ n = cN lo nb ∧ a = cA lo da nb ∧ t = cT lo gr kind nb ∧ f = pcn (cA lo da nb) 10 ∧ (∀ b, 0 ≤ b → b < nb → lo b = 0 → g (cN lo b) = gr (b * 3 + kind)) ∧ ((rv = 1 ∧ 0 < f ∧ f < cN lo nb) ∨ (rv = 0 ∧ ¬ (0 < f ∧ f < cN lo nb))))) (hr : ¬ rv = 0) : cxq lo da gr g nb kind n f a t ∧ (0 ≤ n ∧ n ≤ 10) ∧ (0 ≤ f ∧ f ≤ 10) ∧ (0 ≤ a ∧ a < p2 n) ∧ 0 ≤ t ∧ t ≤ 200000 := by
  rcases pg with h | ⟨h1, h2, h3, h4, h5, h6, h7⟩
  · exact absurd h.1 hr
  · rcases h7 with h7 | h7
    · have cb := cN_b (lo := lo) hbm.1
      have ab := cA_b (lo := lo) (da := da) hbm.1
      have tb := cT_b (lo := lo) (kd := kind) hbm hgb
      have pb := pcn_b (z := cA lo da nb) (n := 10) (by omega)
      refine ⟨⟨h1, by rw [← h5]; exact h7.2.1, by rw [← h5]; exact h7.2.2, h2, h3, h4, h5, h6⟩, by omega, by omega, ?_, by omega⟩
      rw [h3, h2]; exact ab
    · exact absurd h7.1 hr
theorem cx_no {lo da gr g : Int → Int} {nb kind rv n f a t : Int} (pg : (rv = 0 ∧ 10 < cN lo nb) ∨ (cN lo nb ≤ 10 ∧ n = cN lo nb ∧ a = cA lo da nb ∧ t = cT lo gr kind nb ∧ f = pcn (cA lo da nb) 10 ∧ (∀ b, 0 ≤ b → b < nb → lo b = 0 → g (cN lo b) = gr (b * 3 + kind)) ∧ ((rv = 1 ∧ 0 < f ∧ f < cN lo nb) ∨ (rv = 0 ∧ ¬ (0 < f ∧ f < cN lo nb))))) (hr : rv = 0) : ¬ (cN lo nb ≤ 10 ∧ 0 < pcn (cA lo da nb) 10 ∧ pcn (cA lo da nb) 10 < cN lo nb) := by
  rcases pg with h | ⟨h1, h2, h3, h4, h5, h6, h7⟩
  · omega
  · rcases h7 with h7 | h7
    · omega
    · intro q
      exact h7.2 (by rw [h5]; exact q.2)
theorem cx_far {lo da gr g : Int → Int} {nb kind n f a t part : Int} (h : cxq lo da gr g nb kind n f a t) (hp : part = 0) {y : Int} : sZ (fun w => if pcn w 10 = f ∧ apv g a n f t ≤ apv g w n f t then 1 else 0) (p2 n) = (if part = 0 then sZ (fun w => if pcn w 10 = pcn (cA lo da nb) 10 ∧ apv g (cA lo da nb) (cN lo nb) (pcn (cA lo da nb) 10) (cT lo gr kind nb) ≤ apv g w (cN lo nb) (pcn (cA lo da nb) 10) (cT lo gr kind nb) then 1 else 0) (p2 (cN lo nb)) else y) := by
  obtain ⟨-, -, -, h4, h5, h6, h7, -⟩ := h
  subst h4; subst h5; subst h6; subst h7
  rw [if_pos hp]
theorem cx_way {lo da gr g : Int → Int} {nb kind n f a t part : Int} (h : cxq lo da gr g nb kind n f a t) (hp : ¬ part = 0) {y : Int} : sZ (fun w => if pcn w 10 = f then 1 else 0) (p2 n) = (if part = 0 then y else sZ (fun w => if pcn w 10 = pcn (cA lo da nb) 10 then 1 else 0) (p2 (cN lo nb))) := by
  obtain ⟨-, -, -, h4, h5, h6, h7, -⟩ := h
  subst h4; subst h5; subst h6; subst h7
  rw [if_neg hp]
def pq_ (q : Int → Int) : Int → Int := fun j => q j * (q j - 1)
theorem mnC_1 {q : Int → Int} (hq : ∀ j, 0 ≤ j → j < 4 → 0 ≤ q j ∧ q j ≤ 12) : 1 ≤ mnC 1 q (fun j => q j * (q j - 1)) := (cm_b rfl (show (0 : Int) ≤ 4 by omega) (by omega) (tB_pp (i := 4) (fun j _ _ => rfl) hq)).1
theorem lim_d {a b t c : Int} (ht : 0 ≤ t ∧ t ≤ 400) (hc : 1 ≤ c ∧ c ≤ 420) (ha : 0 ≤ a ∧ a ≤ 1000000000) (hb : 1 ≤ b) : 0 ≤ a * t * t * c * 60 / b ∧ a * t * t * c * 60 / b ≤ 4032000000000000000 := by
  have l := lim_b ha ht hc
  have d := div_bd (c := a * t * t * c * 60) l.1 hb
  omega
theorem pl_f {fw q : Int → Int} (h : ∀ j, 0 ≤ j → j < 4 → fw j = if 1 < q j then 1 else 0) : ∀ j, 0 ≤ j → j < 4 → 0 ≤ fw j ∧ fw j ≤ 6 := fun j h1 h2 => by
  rw [h j h1 h2]
  by_cases c : 1 < q j
  · rw [if_pos c]; omega
  · rw [if_neg c]; omega
theorem pl_m {fw q : Int → Int} (h : ∀ j, 0 ≤ j → j < 4 → fw j = if 1 < q j then 6 else 0) : ∀ j, 0 ≤ j → j < 4 → 0 ≤ fw j ∧ fw j ≤ 6 := fun j h1 h2 => by
  rw [h j h1 h2]
  by_cases c : 1 < q j
  · rw [if_pos c]; omega
  · rw [if_neg c]; omega
theorem pl_c {cs co : Int → Int} (h : ∀ j, 0 ≤ j → j < 4 → cs j = co j) (hc : ∀ j, 0 ≤ co j ∧ co j ≤ 100000) : ∀ j, 0 ≤ j → j < 4 → 0 ≤ cs j ∧ cs j ≤ 100000 := fun j h1 h2 => by rw [h j h1 h2]; exact hc j
theorem pl_b {bu c : Int → Int} {B : Int} (h : ∀ j, 0 ≤ j → j < 4 → bu j = c j) (hc : ∀ j, 0 ≤ j → j < 4 → 0 ≤ c j ∧ c j ≤ B) : ∀ j, 0 ≤ j → j < 4 → 0 ≤ bu j ∧ bu j ≤ B := fun j h1 h2 => by rw [h j h1 h2]; exact hc j h1 h2
theorem pl_f1 {fw q q' : Int → Int} (gN : ∀ j, 0 ≤ j → j < 4 → q j = q' j) (h : ∀ j, 0 ≤ j → j < 4 → fw j = if 1 < q j then 1 else 0) : ∀ j, 0 ≤ j → j < 4 → fw j = if 1 < q' j then 1 else 0 := fun j h1 h2 => by rw [h j h1 h2, gN j h1 h2]
theorem pl_f6 {fw q q' : Int → Int} (gN : ∀ j, 0 ≤ j → j < 4 → q j = q' j) (h : ∀ j, 0 ≤ j → j < 4 → fw j = if 1 < q j then 6 else 0) : ∀ j, 0 ≤ j → j < 4 → fw j = if 1 < q' j then 6 else 0 := fun j h1 h2 => by rw [h j h1 h2, gN j h1 h2]
theorem pl_bu {bu q q' s s' c c' : Int → Int} (gS : ∀ j, 0 ≤ j → j < 4 → s j = s' j) (gN : ∀ j, 0 ≤ j → j < 4 → q j = q' j) (gC : ∀ j, 0 ≤ j → j < 4 → c j = c' j) (h : ∀ j, 0 ≤ j → j < 4 → bu j = bur q s c j) : ∀ j, 0 ≤ j → j < 4 → bu j = bur q' s' c' j := fun j h1 h2 => by
  rw [h j h1 h2]
  unfold bur
  have e := mnC_c (t := 1) (q := q) (q' := q') (b := fun j => q j * (q j - 1)) (b' := fun j => q' j * (q' j - 1)) gN (fun j h1 h2 => by (try dsimp only); rw [gN j h1 h2])
  rw [e]
  unfold tA tB
  rw [gN j h1 h2]
  by_cases z : j < 4 ∧ 1 < q' j
  · rw [if_pos z, if_pos z, if_pos z, if_pos z]; try dsimp only
    rw [gS j h1 h2, gC j h1 h2, gN j h1 h2]
  · rw [if_neg z, if_neg z, if_neg z, if_neg z]
