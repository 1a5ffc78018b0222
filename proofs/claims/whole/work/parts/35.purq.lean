/-! PURE ROWS: the cheapest plan, by numbers. -/
noncomputable def plS (q cf : Int → Int) (nr : Int → Prop) (k : Int) (x : Int × Int) : Int × Int := @ite _ (own q k ∧ (x.1 < 0 ∨ cf k < x.2) ∧ nr k) (Classical.propDecidable _) (k, cf k) x
noncomputable def plF (q cf : Int → Int) (nr : Int → Prop) : Nat → Int × Int
  | 0 => (-1, 0)
  | k + 1 => plS q cf nr k (plF q cf nr k)
theorem plF_s {q cf : Int → Int} {nr : Int → Prop} {k : Int} (h : 0 ≤ k) : plF q cf nr (k + 1).toNat = plS q cf nr k (plF q cf nr k.toNat) := by
  have e : (k + 1).toNat = k.toNat + 1 := by omega
  rw [e]
  show plS q cf nr (k.toNat : Int) _ = _
  rw [Int.toNat_of_nonneg h]
theorem pl_n {q cf : Int → Int} {nr : Int → Prop} {k b c : Int} (h : (b, c) = plF q cf nr k.toNat) (hk : 0 ≤ k) (hn : ¬ (own q k ∧ (b < 0 ∨ cf k < c) ∧ nr k)) : (b, c) = plF q cf nr (k + 1).toNat := by
  rw [plF_s hk, ← h]
  unfold plS
  rw [if_neg hn]
theorem pl_y {q cf : Int → Int} {nr : Int → Prop} {k b c x : Int} (h : (b, c) = plF q cf nr k.toNat) (hk : 0 ≤ k) (hx : x = cf k) (hn : own q k ∧ (b < 0 ∨ cf k < c) ∧ nr k) : (k, x) = plF q cf nr (k + 1).toNat := by
  rw [plF_s hk, ← h, hx]
  unfold plS
  rw [if_pos hn]
def ebk (q : Int → Int) (k : Int) : Int → Int := fun j => q j * (q j - 1) * tpl q k j
theorem dg_b (k j : Int) : 0 ≤ dg k j ∧ dg k j ≤ 5 := by unfold dg; omega
theorem tpl_b (q : Int → Int) (k j : Int) : 0 ≤ tpl q k j ∧ tpl q k j ≤ 6 := by
  unfold tpl
  have := dg_b k j
  by_cases c : 0 < q j
  · rw [if_pos c]; omega
  · rw [if_neg c]; omega
theorem tp_rng {q t : Int → Int} {k : Int} (h : ∀ j, 0 ≤ j → j < 4 → t j = tpl q k j) : ∀ j, 0 ≤ j → j < 4 → 0 ≤ t j ∧ t j ≤ 6 := fun j h1 h2 => by rw [h j h1 h2]; exact tpl_b q k j
theorem tp_out {ho lo go t : Int → Int} {nb n k : Int} (h : ∀ j, 0 ≤ j → j < 4 → t j = tpl (NBf ho lo nb) k j) (h1 : 0 ≤ n) (hz : ∀ j, 0 ≤ j → j < 4 → (n ≤ j ∨ ¬ go j = 0) → NBf ho lo nb j = 0) : ∀ j, n ≤ j → j < 4 → t j = 0 := fun j a b => by
  rw [h j (by omega) b]
  unfold tpl
  have := hz j (by omega) b (Or.inl a)
  rw [if_neg (by omega)]
theorem he_1 {ho lo t : Int → Int} {nb k : Int} (h : ∀ j, 0 ≤ j → j < 4 → t j = tpl (NBf ho lo nb) k j) : ∀ j, 0 ≤ j → j < 4 → 0 < NBf ho lo nb j → 1 ≤ (if (1 : Int) = 0 then NBf ho lo nb j else t j) ∧ (if (1 : Int) = 0 then NBf ho lo nb j else t j) ≤ 12 := by
  intro j a b c
  rw [if_neg (by decide), h j a b]
  unfold tpl
  have := dg_b k j
  rw [if_pos c]
  omega
theorem mk_eq {ho lo a t : Int → Int} {nb k : Int} (h : ∀ j, 0 ≤ j → j < 4 → t j = tpl (NBf ho lo nb) k j) : mnO 1 (NBf ho lo nb) a (fun j => NBf ho lo nb j * (NBf ho lo nb j - 1) * (if (1 : Int) = 0 then NBf ho lo nb j else t j)) = mnO 1 (NBf ho lo nb) a (ebk (NBf ho lo nb) k) ∧ mnC 1 (NBf ho lo nb) (fun j => NBf ho lo nb j * (NBf ho lo nb j - 1) * (if (1 : Int) = 0 then NBf ho lo nb j else t j)) = mnC 1 (NBf ho lo nb) (ebk (NBf ho lo nb) k) :=
  mn_cg (fun _ _ _ => rfl) (fun _ _ _ => rfl) (fun j h1 h2 => by (try dsimp only); rw [if_neg (by decide), h j h1 h2]; rfl)
theorem nc_c {co t t' : Int → Int} (h : ∀ j, 0 ≤ j → j < 4 → t j = t' j) : ncost co t = ncost co t' := sZ_c (fun j h1 h2 => by (try dsimp only); rw [h j h1 h2])
theorem eb_sb {q sz sc b : Int → Int} {M : Int} (hM : M = mnC 1 q b) (e : Int → Int) (hb : ∀ j, 0 ≤ j → j < 4 → b j = q j * (q j - 1) * e j) (he : ∀ j, 0 ≤ j → j < 4 → 0 < q j → 1 ≤ e j) (hsz : ∀ j, 0 ≤ sz j ∧ sz j ≤ 100) (hq : ∀ j, 0 ≤ j → j < 4 → 0 ≤ q j ∧ q j ≤ 12) (hsc : ∀ j, 0 ≤ j → j < 4 → 0 ≤ sc j ∧ sc j ≤ q j * q j * 100000000) (hc1 : 1 ≤ M) (hc : M ≤ 25200) : 0 ≤ mnO 1 q (fun j => sz j * sz j * sc j) b ∧ mnO 1 q (fun j => sz j * sz j * sc j) b ≤ 4 * (1000000000000 * (2 * 25200)) := by
  unfold mnO
  rw [← hM]
  refine s4_bd (fun j h1 h2 => ?_)
  unfold tA tB
  by_cases c : j < 4 ∧ 1 < q j
  · rw [if_pos c, if_pos c, hb j h1 h2]
    try dsimp only
    have n1 := pp_bd (hq j h1 h2) c.2
    have e1 := he j h1 h2 (by omega)
    have w1 := ws_bd (hsz j) (hsc j h1 h2) (hq j h1 h2)
    generalize hX : q j * (q j - 1) = X at *
    have m1 : X * 1 ≤ X * e j := Int.mul_le_mul_of_nonneg_left e1 (by omega)
    have d1 := div_bd (c := M) (b := X * e j) (by omega) (by omega)
    have d2 : (M / (X * e j)) * (X * e j) ≤ M := Int.ediv_mul_le _ (by omega)
    have d3 : (M / (X * e j)) * X ≤ (M / (X * e j)) * (X * e j) := Int.mul_le_mul_of_nonneg_left (by omega) d1.1
    refine ⟨Int.mul_nonneg w1.1 d1.1, ?_⟩
    have g1 := Int.mul_le_mul_of_nonneg_right w1.2.1 d1.1
    have g2 := Int.mul_le_mul_of_nonneg_right n1.2.2 d1.1
    have g3 : 10000 * (q j * q j * 100000000) * (M / (X * e j)) = 1000000000000 * (q j * q j * (M / (X * e j))) := by
      rw [show 10000 * (q j * q j * 100000000) = 1000000000000 * (q j * q j) by omega, Int.mul_assoc]
    have g4 : 2 * X * (M / (X * e j)) = 2 * ((M / (X * e j)) * X) := by rw [Int.mul_assoc, Int.mul_comm X]
    omega
  · rw [if_neg c, if_neg c]; omega
theorem ebk_f {ho lo gr sz : Int → Int} {nb kd k : Int} (h1 : 0 ≤ nb) (h2 : nb ≤ 12) (hs : ∀ j, 0 ≤ sz j ∧ sz j ≤ 100) (hsc : ∀ j, 0 ≤ j → j < 4 → 0 ≤ SCf ho lo gr kd nb j ∧ SCf ho lo gr kd nb j ≤ NBf ho lo nb j * NBf ho lo nb j * 100000000) (hcK : mnC 1 (NBf ho lo nb) (ebk (NBf ho lo nb) k) ≤ 25200) (htt : 1 ≤ TTv ho lo sz nb ∧ TTv ho lo sz nb ≤ 400) :
    (0 ≤ mnO 1 (NBf ho lo nb) (fun j => sz j * sz j * SCf ho lo gr kd nb j) (ebk (NBf ho lo nb) k) ∧ mnO 1 (NBf ho lo nb) (fun j => sz j * sz j * SCf ho lo gr kd nb j) (ebk (NBf ho lo nb) k) ≤ 4 * (1000000000000 * (2 * 25200))) ∧ 1 ≤ mnC 1 (NBf ho lo nb) (ebk (NBf ho lo nb) k) * TTv ho lo sz nb * TTv ho lo sz nb ∧ mnC 1 (NBf ho lo nb) (ebk (NBf ho lo nb) k) * TTv ho lo sz nb * TTv ho lo sz nb ≤ 25200 * 400 * 400 := by
  have hq := nb12 ho lo h1 h2
  have he : ∀ j, 0 ≤ j → j < 4 → 0 < NBf ho lo nb j → 1 ≤ tpl (NBf ho lo nb) k j ∧ tpl (NBf ho lo nb) k j ≤ 12 := by
    intro j a b c
    unfold tpl
    have := dg_b k j
    rw [if_pos c]; omega
  have hbl := tB_eb hq he
  have hcb := cm_b (f := tB 1 (NBf ho lo nb) (ebk (NBf ho lo nb) k) 4) rfl (show (0 : Int) ≤ 4 by omega) (by omega) hbl
  have m1 := mul_bd1 (a := mnC 1 (NBf ho lo nb) (ebk (NBf ho lo nb) k)) hcb.1 hcK htt.1 htt.2
  have m2 := mul_bd1 m1.1 m1.2 htt.1 htt.2
  exact ⟨eb_sb rfl (tpl (NBf ho lo nb) k) (fun _ _ _ => rfl) (fun j a b c => (he j a b c).1) hs hq hsc hcb.1 hcK, m2.1, m2.2⟩
theorem plF_b {q cf : Int → Int} {nr : Int → Prop} (hc : ∀ k, 0 ≤ cf k ∧ cf k ≤ 2400000) : ∀ n : Nat, -1 ≤ (plF q cf nr n).1 ∧ (plF q cf nr n).1 < n ∧ 0 ≤ (plF q cf nr n).2 ∧ (plF q cf nr n).2 ≤ 2400000 := by
  intro n
  induction n with
  | zero => exact ⟨show (-1 : Int) ≤ -1 by omega, show (-1 : Int) < 0 by omega, show (0 : Int) ≤ 0 by omega, show (0 : Int) ≤ 2400000 by omega⟩
  | succ n ih =>
    show -1 ≤ (plS q cf nr n (plF q cf nr n)).1 ∧ (plS q cf nr n (plF q cf nr n)).1 < ((n + 1 : Nat) : Int) ∧ 0 ≤ (plS q cf nr n (plF q cf nr n)).2 ∧ (plS q cf nr n (plF q cf nr n)).2 ≤ 2400000
    unfold plS
    by_cases c : own q n ∧ ((plF q cf nr n).1 < 0 ∨ cf n < (plF q cf nr n).2) ∧ nr n
    · rw [if_pos c]
      have := hc n
      exact ⟨show (-1 : Int) ≤ n by omega, show (n : Int) < ((n + 1 : Nat) : Int) by omega, this.1, this.2⟩
    · rw [if_neg c]; omega
theorem plF_bb {q cf : Int → Int} {nr : Int → Prop} {k b c : Int} (hc : ∀ k, 0 ≤ cf k ∧ cf k ≤ 2400000) (h : (b, c) = plF q cf nr k.toNat) (hk : 0 ≤ k) : -1 ≤ b ∧ b < k ∧ 0 ≤ c ∧ c ≤ 2400000 := by
  have := plF_b (q := q) (nr := nr) hc k.toNat
  rw [← h] at this
  dsimp only at this
  omega
theorem ncf_b {q co : Int → Int} (hco : ∀ j, 0 ≤ co j ∧ co j ≤ 100000) (k : Int) : 0 ≤ ncost co (tpl q k) ∧ ncost co (tpl q k) ≤ 2400000 := nc_b (x := ncost co (tpl q k)) rfl (by omega) (by omega) (fun j _ _ => tpl_b q k j) (fun j _ _ => hco j)
theorem pl_z {q cf : Int → Int} {nr : Int → Prop} : ((-1 : Int), (0 : Int)) = plF q cf nr (0 : Int).toNat := rfl
theorem pl_e {q cf : Int → Int} {nr : Int → Prop} {k b c : Int} (h : (b, c) = plF q cf nr k.toNat) (hk : k = 1296) : (b, c) = plF q cf nr 1296 := by subst hk; exact h
theorem pn_end {q pn t : Int → Int} {k i : Int} (h : ∀ j, 0 ≤ j → j < i → pn j = tpl q k j) (ht : ∀ j, 0 ≤ j → j < 4 → t j = tpl q k j) (hi : i = 4) : ∀ j, 0 ≤ j → j < 4 → pn j = tpl q k j := hi ▸ h
