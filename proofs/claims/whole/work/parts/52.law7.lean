/-! PLAN: the trials, one after the other, are the reference's own numbers in their order. -/
theorem all4 {P : Int → Prop} (h0 : P 0) (h1 : P 1) (h2 : P 2) (h3 : P 3) : ∀ j, 0 ≤ j → j < 4 → P j := by
  intro j a b
  rcases (show j = 0 ∨ j = 1 ∨ j = 2 ∨ j = 3 by omega) with rfl | rfl | rfl | rfl
  · exact h0
  · exact h1
  · exact h2
  · exact h3
theorem dig4 (k : Int) : dg k 0 = k / 216 % 6 ∧ dg k 1 = k / 36 % 6 ∧ dg k 2 = k / 6 % 6 ∧ dg k 3 = k / 1 % 6 := ⟨rfl, rfl, rfl, rfl⟩
theorem dig_of {k d0 d1 d2 d3 : Int} (h : k = 216 * d0 + 36 * d1 + 6 * d2 + d3) (h0 : 0 ≤ d0 ∧ d0 ≤ 5) (h1 : 0 ≤ d1 ∧ d1 ≤ 5) (h2 : 0 ≤ d2 ∧ d2 ≤ 5) (h3 : 0 ≤ d3 ∧ d3 ≤ 5) : dg k 0 = d0 ∧ dg k 1 = d1 ∧ dg k 2 = d2 ∧ dg k 3 = d3 := by
  obtain ⟨e0, e1, e2, e3⟩ := dig4 k
  rw [e0, e1, e2, e3]
  omega
theorem dig_ex {k : Int} (h0 : 0 ≤ k) (h1 : k < 1296) : ∃ d0 d1 d2 d3 : Int, k = 216 * d0 + 36 * d1 + 6 * d2 + d3 ∧ (0 ≤ d0 ∧ d0 ≤ 5) ∧ (0 ≤ d1 ∧ d1 ≤ 5) ∧ (0 ≤ d2 ∧ d2 ≤ 5) ∧ (0 ≤ d3 ∧ d3 ≤ 5) := ⟨k / 216, k / 36 % 6, k / 6 % 6, k % 6, by omega, by omega, by omega, by omega, by omega⟩
theorem own_d {q : Int → Int} {k d0 d1 d2 d3 : Int} (h : k = 216 * d0 + 36 * d1 + 6 * d2 + d3) (h0 : 0 ≤ d0 ∧ d0 ≤ 5) (h1 : 0 ≤ d1 ∧ d1 ≤ 5) (h2 : 0 ≤ d2 ∧ d2 ≤ 5) (h3 : 0 ≤ d3 ∧ d3 ≤ 5) : own q k ↔ ((0 < q 0 ∨ d0 = 0) ∧ (0 < q 1 ∨ d1 = 0) ∧ (0 < q 2 ∨ d2 = 0) ∧ (0 < q 3 ∨ d3 = 0)) := by
  obtain ⟨e0, e1, e2, e3⟩ := dig_of h h0 h1 h2 h3
  constructor
  · intro o
    have o0 := o 0 (by omega) (by omega)
    have o1 := o 1 (by omega) (by omega)
    have o2 := o 2 (by omega) (by omega)
    have o3 := o 3 (by omega) (by omega)
    rw [e0] at o0; rw [e1] at o1; rw [e2] at o2; rw [e3] at o3
    exact ⟨o0, o1, o2, o3⟩
  · intro o
    exact all4 (P := fun j => 0 < q j ∨ dg k j = 0) (by rw [e0]; exact o.1) (by rw [e1]; exact o.2.1) (by rw [e2]; exact o.2.2.1) (by rw [e3]; exact o.2.2.2)
theorem tpl_of {q : Int → Int} {k j x d : Int} (hd : dg k j = d) (h : (0 < q j ∧ x = 1 + d) ∨ (¬ 0 < q j ∧ x = 0)) : x = tpl q k j := by
  unfold tpl
  rw [hd]
  rcases h with h | h
  · rw [if_pos h.1]; exact h.2
  · rw [if_neg h.1]; exact h.2
theorem tri_d {q f m t : Int → Int} {k j d : Int} (hd : dg k j = d) (hq : 0 ≤ q j ∧ ¬ q j = 1) (hf : f j = if 1 < q j then 1 else 0) (hm : m j = if 1 < q j then 6 else 0) (ht : t j = tpl q k j) (ho : 0 < q j ∨ d = 0) : (0 < q j ∧ t j = 1 + d ∧ m j = 6 ∧ f j = 1) ∨ (q j = 0 ∧ t j = 0 ∧ m j = 0 ∧ f j = 0 ∧ d = 0) := by
  unfold tpl at ht
  rw [hd] at ht
  by_cases c : 1 < q j
  · rw [if_pos c] at hf hm
    rw [if_pos (show 0 < q j by omega)] at ht
    exact Or.inl ⟨by omega, ht, hm, hf⟩
  · rw [if_neg c] at hf hm
    rw [if_neg (show ¬ 0 < q j by omega)] at ht
    exact Or.inr ⟨by omega, ht, hm, hf, by omega⟩
theorem od4 (f m t : Int → Int) : odN f m 4 t = if t 3 < m 3 then ((1 : Int), pu t 3 (t 3 + 1)) else if t 2 < m 2 then ((1 : Int), pu (pu t 3 (f 3)) 2 (t 2 + 1)) else if t 1 < m 1 then ((1 : Int), pu (pu (pu t 3 (f 3)) 2 (f 2)) 1 (t 1 + 1)) else if t 0 < m 0 then ((1 : Int), pu (pu (pu (pu t 3 (f 3)) 2 (f 2)) 1 (f 1)) 0 (t 0 + 1)) else ((0 : Int), pu (pu (pu (pu t 3 (f 3)) 2 (f 2)) 1 (f 1)) 0 (f 0)) := rfl
set_option maxHeartbeats 4000000 in
theorem od_next {q f m t : Int → Int} {k : Int} (hq : ∀ j, 0 ≤ j → j < 4 → 0 ≤ q j ∧ ¬ q j = 1) (hf : ∀ j, 0 ≤ j → j < 4 → f j = if 1 < q j then 1 else 0) (hm : ∀ j, 0 ≤ j → j < 4 → m j = if 1 < q j then 6 else 0) (hk0 : 0 ≤ k) (hk1 : k < 1296) (ho : own q k) (ht : ∀ j, 0 ≤ j → j < 4 → t j = tpl q k j) :
    ((odN f m 4 t).1 = 0 ∧ ∀ i, k < i → i < 1296 → ¬ own q i) ∨ (¬ (odN f m 4 t).1 = 0 ∧ ∃ k', k < k' ∧ k' < 1296 ∧ own q k' ∧ (∀ j, 0 ≤ j → j < 4 → (odN f m 4 t).2 j = tpl q k' j) ∧ ∀ i, k < i → i < k' → ¬ own q i) := by
  obtain ⟨d0, d1, d2, d3, ek, b0, b1, b2, b3⟩ := dig_ex hk0 hk1
  obtain ⟨g0, g1, g2, g3⟩ := dig_of ek b0 b1 b2 b3
  have od := (own_d ek b0 b1 b2 b3).mp ho
  have L0 := tri_d g0 (hq 0 (by omega) (by omega)) (hf 0 (by omega) (by omega)) (hm 0 (by omega) (by omega)) (ht 0 (by omega) (by omega)) od.1
  have L1 := tri_d g1 (hq 1 (by omega) (by omega)) (hf 1 (by omega) (by omega)) (hm 1 (by omega) (by omega)) (ht 1 (by omega) (by omega)) od.2.1
  have L2 := tri_d g2 (hq 2 (by omega) (by omega)) (hf 2 (by omega) (by omega)) (hm 2 (by omega) (by omega)) (ht 2 (by omega) (by omega)) od.2.2.1
  have L3 := tri_d g3 (hq 3 (by omega) (by omega)) (hf 3 (by omega) (by omega)) (hm 3 (by omega) (by omega)) (ht 3 (by omega) (by omega)) od.2.2.2
  rw [od4]
  by_cases z3 : t 3 < m 3
  · rw [if_pos z3]
    refine Or.inr ⟨show ¬ (1 : Int) = 0 by decide, 216 * (d0) + 36 * (d1) + 6 * (d2) + (d3 + 1), by omega, by omega, (own_d rfl (by omega) (by omega) (by omega) (by omega)).mpr (by omega), ?_, ?_⟩
    · obtain ⟨n0, n1, n2, n3⟩ := dig_of (show 216 * (d0) + 36 * (d1) + 6 * (d2) + (d3 + 1) = 216 * (d0) + 36 * (d1) + 6 * (d2) + (d3 + 1) from rfl) (by omega) (by omega) (by omega) (by omega)
      exact all4 (tpl_of (x := t 0) n0 (by omega)) (tpl_of (x := t 1) n1 (by omega)) (tpl_of (x := t 2) n2 (by omega)) (tpl_of (x := t 3 + 1) n3 (by omega))
    · intro i i1 i2 oi
      obtain ⟨e0, e1, e2, e3, ei, c0, c1, c2, c3⟩ := dig_ex (show 0 ≤ i by omega) (show i < 1296 by omega)
      have oe := (own_d ei c0 c1 c2 c3).mp oi
      clear ht hf hm hq od g0 g1 g2 g3 ho oi
      omega
  · rw [if_neg z3]
    by_cases z2 : t 2 < m 2
    · rw [if_pos z2]
      refine Or.inr ⟨show ¬ (1 : Int) = 0 by decide, 216 * (d0) + 36 * (d1) + 6 * (d2 + 1) + (0), by omega, by omega, (own_d rfl (by omega) (by omega) (by omega) (by omega)).mpr (by omega), ?_, ?_⟩
      · obtain ⟨n0, n1, n2, n3⟩ := dig_of (show 216 * (d0) + 36 * (d1) + 6 * (d2 + 1) + (0) = 216 * (d0) + 36 * (d1) + 6 * (d2 + 1) + (0) from rfl) (by omega) (by omega) (by omega) (by omega)
        exact all4 (tpl_of (x := t 0) n0 (by omega)) (tpl_of (x := t 1) n1 (by omega)) (tpl_of (x := t 2 + 1) n2 (by omega)) (tpl_of (x := f 3) n3 (by omega))
      · intro i i1 i2 oi
        obtain ⟨e0, e1, e2, e3, ei, c0, c1, c2, c3⟩ := dig_ex (show 0 ≤ i by omega) (show i < 1296 by omega)
        have oe := (own_d ei c0 c1 c2 c3).mp oi
        clear ht hf hm hq od g0 g1 g2 g3 ho oi
        omega
    · rw [if_neg z2]
      by_cases z1 : t 1 < m 1
      · rw [if_pos z1]
        refine Or.inr ⟨show ¬ (1 : Int) = 0 by decide, 216 * (d0) + 36 * (d1 + 1) + 6 * (0) + (0), by omega, by omega, (own_d rfl (by omega) (by omega) (by omega) (by omega)).mpr (by omega), ?_, ?_⟩
        · obtain ⟨n0, n1, n2, n3⟩ := dig_of (show 216 * (d0) + 36 * (d1 + 1) + 6 * (0) + (0) = 216 * (d0) + 36 * (d1 + 1) + 6 * (0) + (0) from rfl) (by omega) (by omega) (by omega) (by omega)
          exact all4 (tpl_of (x := t 0) n0 (by omega)) (tpl_of (x := t 1 + 1) n1 (by omega)) (tpl_of (x := f 2) n2 (by omega)) (tpl_of (x := f 3) n3 (by omega))
        · intro i i1 i2 oi
          obtain ⟨e0, e1, e2, e3, ei, c0, c1, c2, c3⟩ := dig_ex (show 0 ≤ i by omega) (show i < 1296 by omega)
          have oe := (own_d ei c0 c1 c2 c3).mp oi
          clear ht hf hm hq od g0 g1 g2 g3 ho oi
          omega
      · rw [if_neg z1]
        by_cases z0 : t 0 < m 0
        · rw [if_pos z0]
          refine Or.inr ⟨show ¬ (1 : Int) = 0 by decide, 216 * (d0 + 1) + 36 * (0) + 6 * (0) + (0), by omega, by omega, (own_d rfl (by omega) (by omega) (by omega) (by omega)).mpr (by omega), ?_, ?_⟩
          · obtain ⟨n0, n1, n2, n3⟩ := dig_of (show 216 * (d0 + 1) + 36 * (0) + 6 * (0) + (0) = 216 * (d0 + 1) + 36 * (0) + 6 * (0) + (0) from rfl) (by omega) (by omega) (by omega) (by omega)
            exact all4 (tpl_of (x := t 0 + 1) n0 (by omega)) (tpl_of (x := f 1) n1 (by omega)) (tpl_of (x := f 2) n2 (by omega)) (tpl_of (x := f 3) n3 (by omega))
          · intro i i1 i2 oi
            obtain ⟨e0, e1, e2, e3, ei, c0, c1, c2, c3⟩ := dig_ex (show 0 ≤ i by omega) (show i < 1296 by omega)
            have oe := (own_d ei c0 c1 c2 c3).mp oi
            clear ht hf hm hq od g0 g1 g2 g3 ho oi
            omega
        · rw [if_neg z0]
          refine Or.inl ⟨rfl, ?_⟩
          intro i i1 i2 oi
          obtain ⟨e0, e1, e2, e3, ei, c0, c1, c2, c3⟩ := dig_ex (show 0 ≤ i by omega) (show i < 1296 by omega)
          have oe := (own_d ei c0 c1 c2 c3).mp oi
          clear ht hf hm hq od g0 g1 g2 g3 ho oi
          omega
def plR (q held : Int → Int) (x : Int × Int × (Int → Int)) (y : Int × Int) : Prop := (y.1 < 0 ∧ x = (0, 9223372036854775807, held)) ∨ (0 ≤ y.1 ∧ x.1 = 1 ∧ x.2.1 = y.2 ∧ ∀ j, 0 ≤ j → j < 4 → x.2.2 j = tpl q y.1 j)
theorem pl_step {q cf co bu t held : Int → Int} {nr : Int → Prop} {li k : Int} {x : Int × Int × (Int → Int)} (h : plR q held x (plF q cf nr k.toNat)) (hk : 0 ≤ k) (ho : own q k) (hc : ncost co t = cf k) (hcf : cf k ≤ 2400000) (hn : nsum bu t ≤ li ↔ nr k) (ht : ∀ j, 0 ≤ j → j < 4 → t j = tpl q k j) : plR q held (csx co bu li t x) (plF q cf nr (k + 1).toNat) := by
  obtain ⟨⟨b, c⟩, e⟩ : ∃ y, y = plF q cf nr k.toNat := ⟨_, rfl⟩
  rw [← e] at h
  have cp : ∀ j, 0 ≤ j → j < 4 → cp4 t x.2.2 j = tpl q k j := fun j h1 h2 => by
    unfold cp4; rw [if_pos ⟨h1, h2⟩]; exact ht j h1 h2
  by_cases n : nr k
  · have n' := hn.mpr n
    rcases h with ⟨hb, hx⟩ | ⟨hb, h1, h2, h3⟩
    · have hb : b < 0 := hb
      rw [← pl_y e hk rfl ⟨ho, Or.inl hb, n⟩]
      have : csx co bu li t x = (1, ncost co t, cp4 t x.2.2) := by
        unfold csx
        rw [if_pos ⟨by rw [hx, hc]; show cf k < 9223372036854775807; omega, n'⟩]
      rw [this]
      exact Or.inr ⟨hk, rfl, hc, cp⟩
    · have h2 : x.2.1 = c := h2
      by_cases z : cf k < c
      · rw [← pl_y e hk rfl ⟨ho, Or.inr z, n⟩]
        have : csx co bu li t x = (1, ncost co t, cp4 t x.2.2) := by
          unfold csx
          rw [if_pos ⟨by rw [hc, h2]; exact z, n'⟩]
        rw [this]
        exact Or.inr ⟨hk, rfl, hc, cp⟩
      · have hb : 0 ≤ b := hb
        rw [← pl_n e hk (fun w => by rcases w.2.1 with w | w <;> omega)]
        have : csx co bu li t x = x := by
          unfold csx
          rw [if_neg (fun w => z (by rw [← hc, ← h2]; exact w.1))]
        rw [this]
        exact Or.inr ⟨hb, h1, h2, h3⟩
  · rw [← pl_n e hk (fun w => n w.2.2)]
    have : csx co bu li t x = x := by
      unfold csx
      rw [if_neg (fun w => n (hn.mp w.2))]
    rw [this]
    exact h
theorem pl_skip {q cf : Int → Int} {nr : Int → Prop} {a : Int} (ha : 0 ≤ a) : ∀ n : Nat, (∀ i, a ≤ i → i < a + (n : Int) → ¬ own q i) → plF q cf nr (a + (n : Int)).toNat = plF q cf nr a.toNat := by
  intro n
  induction n with
  | zero => intro _; show plF q cf nr (a + 0).toNat = _; rw [Int.add_zero]
  | succ n ih =>
    intro h
    have e : a + ((n + 1 : Nat) : Int) = a + (n : Int) + 1 := by omega
    rw [e, ← ih (fun i h1 h2 => h i h1 (by omega))]
    obtain ⟨⟨b, c⟩, eb⟩ : ∃ y, y = plF q cf nr (a + (n : Int)).toNat := ⟨_, rfl⟩
    rw [← pl_n eb (by omega) (fun w => h _ (by omega) (by omega) w.1), eb]
theorem pl_skip2 {q cf : Int → Int} {nr : Int → Prop} {a b : Int} (ha : 0 ≤ a) (hb : a ≤ b) (h : ∀ i, a ≤ i → i < b → ¬ own q i) : plF q cf nr b.toNat = plF q cf nr a.toNat := by
  have e : a + ((b - a).toNat : Int) = b := by omega
  have := pl_skip (q := q) (cf := cf) (nr := nr) ha (b - a).toNat (fun i h1 h2 => h i h1 (by omega))
  rw [e] at this
  exact this
theorem rn_sim {q f m cf co bu held : Int → Int} {nr : Int → Prop} {li : Int} (hq : ∀ j, 0 ≤ j → j < 4 → 0 ≤ q j ∧ ¬ q j = 1) (hf : ∀ j, 0 ≤ j → j < 4 → f j = if 1 < q j then 1 else 0) (hm : ∀ j, 0 ≤ j → j < 4 → m j = if 1 < q j then 6 else 0) (hs : ∀ (k : Int) (t : Int → Int), 0 ≤ k → k < 1296 → own q k → (∀ j, 0 ≤ j → j < 4 → t j = tpl q k j) → ncost co t = cf k ∧ cf k ≤ 2400000 ∧ (nsum bu t ≤ li ↔ nr k)) :
    ∀ (n : Nat) (k : Int) (t : Int → Int) (x : Int × Int × (Int → Int)), 0 ≤ k → k < 1296 → own q k → (∀ j, 0 ≤ j → j < 4 → t j = tpl q k j) → 1296 - k ≤ (n : Int) → plR q held x (plF q cf nr k.toNat) → plR q held (rn f m co bu li n t x) (plF q cf nr 1296) := by
  intro n
  induction n with
  | zero => intro k t x h0 h1 _ _ hn _; exact absurd hn (by omega)
  | succ n ih =>
    intro k t x h0 h1 ho ht hn hx
    obtain ⟨s1_, s2_, s3_⟩ := hs k t h0 h1 ho ht
    have st := pl_step hx h0 ho s1_ s2_ s3_ ht
    show plR q held (if (odN f m 4 t).1 = 0 then csx co bu li t x else rn f m co bu li n (odN f m 4 t).2 (csx co bu li t x)) _
    rcases od_next hq hf hm h0 h1 ho ht with ⟨z, hno⟩ | ⟨z, k', k1, k2, k3, k4, k5⟩
    · rw [if_pos z]
      have := pl_skip2 (q := q) (cf := cf) (nr := nr) (a := k + 1) (b := 1296) (by omega) (by omega) (fun i h1 h2 => hno i (by omega) h2)
      rw [show (1296 : Nat) = (1296 : Int).toNat from rfl, this]
      exact st
    · rw [if_neg z]
      have := pl_skip2 (q := q) (cf := cf) (nr := nr) (a := k + 1) (b := k') (by omega) (by omega) (fun i h1 h2 => k5 i (by omega) h2)
      exact ih k' _ _ (by omega) k2 k3 k4 (by omega) (by rw [this]; exact st)
