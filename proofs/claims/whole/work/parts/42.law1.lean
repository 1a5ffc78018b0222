/-! THE LAW: what holds between two calls. -/
def lwI (n : Int) (sz co go : Int → Int) (nb : Int) (ho da lo gr li le : Int → Int) (nr : Int) (so ki fo : Int → Int) (hp : Int) (hc hr : Int → Int) : Prop :=
  (0 ≤ n ∧ n ≤ 4) ∧ (∀ j, 0 ≤ sz j ∧ sz j ≤ 100) ∧ (∀ j, 0 ≤ co j ∧ co j ≤ 100000) ∧ (∀ j, 0 ≤ go j ∧ go j ≤ 1) ∧ (∀ j, 0 ≤ j → j < n → 1 ≤ sz j) ∧ (0 ≤ nb ∧ nb ≤ 12) ∧ (∀ j, 0 ≤ ho j ∧ ho j ≤ 3) ∧ (∀ j, 0 ≤ j → j < nb → ho j < n ∧ go (ho j) = 0) ∧ (∀ j, 0 ≤ da j ∧ da j ≤ 1) ∧ (∀ j, 0 ≤ lo j ∧ lo j ≤ 1) ∧ (∀ j, 0 ≤ gr j ∧ gr j ≤ 10000) ∧ (∀ j, 0 ≤ li j ∧ li j ≤ 99) ∧ (∀ j, 0 ≤ le j ∧ le j ≤ 100) ∧ (0 ≤ nr ∧ nr ≤ 40) ∧ (∀ j, 0 ≤ j → j < nr → 0 ≤ so j ∧ so j < nb) ∧ (∀ j, 0 ≤ ki j ∧ ki j ≤ 2) ∧ (∀ j, 0 ≤ fo j ∧ fo j ≤ 10000) ∧ (0 ≤ hp ∧ hp ≤ 1) ∧ (∀ j, 0 ≤ j → j < 4 → hc j = hr j)
theorem det2 {P : Prop} {a b v w : Int} (h1 : (P ∧ a = v) ∨ (¬ P ∧ a = w)) (h2 : (P ∧ b = v) ∨ (¬ P ∧ b = w)) : a = b := by
  rcases h1 with ⟨p, h1⟩ | ⟨p, h1⟩ <;> rcases h2 with ⟨q, h2⟩ | ⟨q, h2⟩
  · exact h1.trans h2.symm
  · exact absurd p q
  · exact absurd q p
  · exact h1.trans h2.symm
theorem lw_zero {ho lo go : Int → Int} {nb n : Int} (how : ∀ j, 0 ≤ j → j < nb → ho j < n ∧ go (ho j) = 0) : ∀ j, 0 ≤ j → j < 4 → (n ≤ j ∨ ¬ go j = 0) → NBf ho lo nb j = 0 := by
  intro j h1 h2 h3
  have : NBf ho lo nb j = sZ (fun _ => 0) nb := sZ_c (fun b a c => by
    unfold gn
    rw [if_neg]
    intro z
    have w := how b a c
    rw [z.1] at w
    rcases h3 with h3 | h3
    · omega
    · exact h3 w.2)
  rw [this]
  unfold sZ
  induction nb.toNat with
  | zero => rfl
  | succ k ih => show sN (fun _ => 0) k + 0 = 0; rw [ih]; rfl
theorem lw_ps {ho lo go sz : Int → Int} {nb n : Int} (hz : ∀ j, 0 ≤ j → j < 4 → (n ≤ j ∨ ¬ go j = 0) → NBf ho lo nb j = 0) (hsp : ∀ j, 0 ≤ j → j < n → 1 ≤ sz j) : ∀ j, 0 ≤ j → j < 4 → 0 < NBf ho lo nb j → 1 ≤ sz j := by
  intro j h1 h2 h3
  by_cases c : j < n
  · exact hsp j h1 c
  · have := hz j h1 h2 (Or.inl (by omega)); omega
def xi (xs : Nat → Int32) (k : Int) : Int := (xs k.toNat).toInt
theorem xi_get (xs : Nat → Int32) {k : Int} (h1 : 0 ≤ k) (h2 : k < 2147483648) : xs (iZ k).toNatClampNeg = iZ (xi xs k) := by
  unfold xi; rw [iZ_clamp h1 h2, iZ_of]
theorem xi_b (xs : Nat → Int32) (k : Int) : -2147483648 ≤ xi xs k ∧ xi xs k < 2147483648 := ⟨iZ_b1 _, iZ_b2 _⟩
def l2 (a b : Int) : Int := ((lZ a <<< ((iZ 32).toInt64 &&& 63)) ||| (lZ b &&& lZ 4294967295)).toInt
theorem l2_get (a b : Int) : (lZ a <<< ((iZ 32).toInt64 &&& 63)) ||| (lZ b &&& lZ 4294967295) = lZ (l2 a b) := (lZ_of _).symm
theorem l2_b (a b : Int) : -9223372036854775808 ≤ l2 a b ∧ l2 a b < 9223372036854775808 := ⟨lZ_b1 _, lZ_b2 _⟩
section LWC
variable {p : Program} {l : Launch} {e : Env} {R : Room} {s : State} {m : MethodId} {args : Array Value} {below : List Frame} {meth : Method} {c : Code} {H : Heap} {locs : List Loc} {cells slots : Nat} {Q : State → Prop}
variable {cc : ByteArray} {pc : Nat} {ls : Array Slot} {rest : List Value}
theorem z_same (hx : p.tables.exec = Jvm.exec) (hb : c.code = cc) {x y : Int} (hxy : x = y) {off : Int} {tgt : Nat} (hdg : decode cc pc = .ok (.if_icmp .eq off, 3)) (ht : (pc : Int) + off = (tgt : Int)) (k : W p l e R s m args below meth c H locs cells slots Q (F0 m tgt ls rest)) : W p l e R s m args below meth c H locs cells slots Q (F0 m pc ls (.int (iZ y) :: .int (iZ x) :: rest)) := by
  subst hxy
  exact lv_icmp_eq hx hb hdg ht (fun _ => k) (fun z => absurd rfl z)
theorem z_samel (hx : p.tables.exec = Jvm.exec) (hb : c.code = cc) {x y : Int} (hxy : x = y) {off : Int} {tgt : Nat} (hd0 : decode cc pc = .ok (.lcmp, 1)) (hdg : decode cc (pc + 1) = .ok (.ifCond .eq off, 3)) (ht : ((pc + 1 : Nat) : Int) + off = (tgt : Int)) (k : W p l e R s m args below meth c H locs cells slots Q (F0 m tgt ls rest)) : W p l e R s m args below meth c H locs cells slots Q (F0 m pc ls (.long (lZ y) :: .long (lZ x) :: rest)) := by
  subst hxy
  refine W.lcmp hx hb hd0 ?_
  exact lv_if_eq hx hb hdg ht (fun _ => k) (fun z => absurd (lg_eq.mpr rfl) z)
end LWC
theorem inv_stratum {n : Int} {sz co go : Int → Int} {nb : Int} {ho da lo gr li le : Int → Int} {nr : Int} {so ki fo : Int → Int} {hp : Int} {hc hr : Int → Int} {size rv n2 : Int} {sz2 co2 : Int → Int} (h : lwI n sz co go nb ho da lo gr li le nr so ki fo hp hc hr) (pC : ((n < 4 ∧ 1 ≤ size ∧ size ≤ 100) ∧ rv = n ∧ n2 = n + 1 ∧ sz2 = pu sz n size ∧ co2 = pu co n 1) ∨ (¬ (n < 4 ∧ 1 ≤ size ∧ size ≤ 100) ∧ rv = -1 ∧ n2 = n ∧ sz2 = sz ∧ co2 = co)) : lwI n2 sz2 co2 go nb ho da lo gr li le nr so ki fo hp hc hr := by
  obtain ⟨h1, h2, h3, h4, h5, h6, h7, h8, h9⟩ := h
  rcases pC with ⟨a, -, rfl, rfl, rfl⟩ | ⟨-, -, rfl, rfl, rfl⟩
  · refine ⟨by omega, pu_all h2 (by omega) (by omega), pu_all h3 (by omega) (by omega), h4, ?_, h6, h7, fun j u v => ⟨by have := (h8 j u v).1; omega, (h8 j u v).2⟩, h9⟩
    intro j u v
    by_cases e : j = n
    · subst e; rw [pu_eq]; omega
    · rw [pu_ne _ e]; exact h5 j u (by omega)
  · exact ⟨h1, h2, h3, h4, h5, h6, h7, h8, h9⟩
theorem inv_cost {n : Int} {sz co go : Int → Int} {nb : Int} {ho da lo gr li le : Int → Int} {nr : Int} {so ki fo : Int → Int} {hp : Int} {hc hr : Int → Int} {z cents rv : Int} {co2 : Int → Int} {P : Prop} (h : lwI n sz co go nb ho da lo gr li le nr so ki fo hp hc hr) (pC : ((P ∧ 1 ≤ cents ∧ cents ≤ 100000) ∧ rv = 1 ∧ co2 = pu co z cents) ∨ (¬ (P ∧ 1 ≤ cents ∧ cents ≤ 100000) ∧ rv = 0 ∧ co2 = co)) : lwI n sz co2 go nb ho da lo gr li le nr so ki fo hp hc hr := by
  obtain ⟨h1, h2, h3, h4⟩ := h
  rcases pC with ⟨a, -, rfl⟩ | ⟨-, -, rfl⟩
  · exact ⟨h1, h2, pu_all h3 (by omega) (by omega), h4⟩
  · exact ⟨h1, h2, h3, h4⟩
theorem inv_bag {n : Int} {sz co go : Int → Int} {nb : Int} {ho da lo gr li le : Int → Int} {nr : Int} {so ki fo : Int → Int} {hp : Int} {hc hr : Int → Int} {z rv nb2 : Int} {ho2 : Int → Int} (h : lwI n sz co go nb ho da lo gr li le nr so ki fo hp hc hr) (pC : (((0 ≤ z ∧ z < n ∧ go z = 0) ∧ nb < 12) ∧ rv = nb ∧ nb2 = nb + 1 ∧ ho2 = pu ho nb z) ∨ (¬ ((0 ≤ z ∧ z < n ∧ go z = 0) ∧ nb < 12) ∧ rv = -1 ∧ nb2 = nb ∧ ho2 = ho)) : lwI n sz co go nb2 ho2 da lo gr li le nr so ki fo hp hc hr := by
  obtain ⟨h1, h2, h3, h4, h5, h6, h7, h8, h9, h10, h11, h12, h13, h14, h15, h16⟩ := h
  rcases pC with ⟨a, -, rfl, rfl⟩ | ⟨-, -, rfl, rfl⟩
  · refine ⟨h1, h2, h3, h4, h5, by omega, pu_all h7 (by omega) (by omega), ?_, h9, h10, h11, h12, h13, h14, fun j u v => by have := h15 j u v; omega, h16⟩
    intro j u v
    by_cases e : j = nb
    · subst e; rw [pu_eq]; exact ⟨a.1.2.1, a.1.2.2⟩
    · rw [pu_ne _ e]; exact h8 j u (by omega)
  · exact ⟨h1, h2, h3, h4, h5, h6, h7, h8, h9, h10, h11, h12, h13, h14, h15, h16⟩
theorem inv_weight {n : Int} {sz co go : Int → Int} {nb : Int} {ho da lo gr li le : Int → Int} {nr : Int} {so ki fo : Int → Int} {hp : Int} {hc hr : Int → Int} {z gm rv : Int} {gr2 : Int → Int} {P P2 : Prop} (h : lwI n sz co go nb ho da lo gr li le nr so ki fo hp hc hr) (pC : ((P ∧ P2 ∧ 0 ≤ gm ∧ gm ≤ 10000) ∧ rv = 1 ∧ gr2 = pu gr z gm) ∨ (¬ (P ∧ P2 ∧ 0 ≤ gm ∧ gm ≤ 10000) ∧ rv = 0 ∧ gr2 = gr)) : lwI n sz co go nb ho da lo gr2 li le nr so ki fo hp hc hr := by
  obtain ⟨h1, h2, h3, h4, h5, h6, h7, h8, h9, h10, h11, h12⟩ := h
  rcases pC with ⟨a, -, rfl⟩ | ⟨-, -, rfl⟩
  · exact ⟨h1, h2, h3, h4, h5, h6, h7, h8, h9, h10, pu_all h11 (by omega) (by omega), h12⟩
  · exact ⟨h1, h2, h3, h4, h5, h6, h7, h8, h9, h10, h11, h12⟩
theorem inv_year {n : Int} {sz co go : Int → Int} {nb : Int} {ho da lo gr li le : Int → Int} {nr : Int} {so ki fo : Int → Int} {hp : Int} {hc hr : Int → Int} {z y rv : Int} {da2 : Int → Int} {P : Prop} (h : lwI n sz co go nb ho da lo gr li le nr so ki fo hp hc hr) (pC : ((P ∧ 0 ≤ y ∧ y < 2) ∧ rv = 1 ∧ da2 = pu da z y) ∨ (¬ (P ∧ 0 ≤ y ∧ y < 2) ∧ rv = 0 ∧ da2 = da)) : lwI n sz co go nb ho da2 lo gr li le nr so ki fo hp hc hr := by
  obtain ⟨h1, h2, h3, h4, h5, h6, h7, h8, h9, h10⟩ := h
  rcases pC with ⟨a, -, rfl⟩ | ⟨-, -, rfl⟩
  · exact ⟨h1, h2, h3, h4, h5, h6, h7, h8, pu_all h9 (by omega) (by omega), h10⟩
  · exact ⟨h1, h2, h3, h4, h5, h6, h7, h8, h9, h10⟩
theorem inv_missing {n : Int} {sz co go : Int → Int} {nb : Int} {ho da lo gr li le : Int → Int} {nr : Int} {so ki fo : Int → Int} {hp : Int} {hc hr : Int → Int} {z rv : Int} {lo2 : Int → Int} {P : Prop} (h : lwI n sz co go nb ho da lo gr li le nr so ki fo hp hc hr) (pC : (P ∧ rv = 1 ∧ lo2 = pu lo z 1) ∨ (¬ P ∧ rv = 0 ∧ lo2 = lo)) : lwI n sz co go nb ho da lo2 gr li le nr so ki fo hp hc hr := by
  obtain ⟨h1, h2, h3, h4, h5, h6, h7, h8, h9, h10, h11⟩ := h
  rcases pC with ⟨a, -, rfl⟩ | ⟨-, -, rfl⟩
  · exact ⟨h1, h2, h3, h4, h5, h6, h7, h8, h9, pu_all h10 (by omega) (by omega), h11⟩
  · exact ⟨h1, h2, h3, h4, h5, h6, h7, h8, h9, h10, h11⟩
