/-! PURE ROWS: what the calls answer, as one reading for both. -/
def NBf (ho lo : Int → Int) (nb : Int) : Int → Int := fun j => sZ (gn ho lo j) nb
def SMf (ho lo gr : Int → Int) (k nb : Int) : Int → Int := fun j => sZ (gm_ ho lo gr k j) nb
def SQf (ho lo gr : Int → Int) (k nb : Int) : Int → Int := fun j => sZ (gq ho lo gr k j) nb
def SCf (ho lo gr : Int → Int) (k nb : Int) : Int → Int := fun j => NBf ho lo nb j * SQf ho lo gr k nb j - SMf ho lo gr k nb j * SMf ho lo gr k nb j
def CNv (ho lo : Int → Int) (nb : Int) : Int := sZ (gc ho lo nb) 4
def TTv (ho lo sz : Int → Int) (nb : Int) : Int := sZ (gt ho lo nb sz) 4
def bpf (q : Int → Int) : Int → Int := fun j => q j * (q j * (q j - 1))
def prf (q : Int → Int) : Int → Int := fun j => q j * (q j - 1)
theorem mn_cg {t : Int} {q q' a a' b b' : Int → Int} (hq : ∀ j, 0 ≤ j → j < 4 → q j = q' j) (ha : ∀ j, 0 ≤ j → j < 4 → a j = a' j) (hb : ∀ j, 0 ≤ j → j < 4 → b j = b' j) : mnO t q a b = mnO t q' a' b' ∧ mnC t q b = mnC t q' b' := by
  have eB : ∀ j, 0 ≤ j → j < 4 → tB t q b 4 j = tB t q' b' 4 j := fun j h1 h2 => by unfold tB; rw [hq j h1 h2, hb j h1 h2]
  have eA : ∀ j, 0 ≤ j → j < 4 → tA t q a 4 j = tA t q' a' 4 j := fun j h1 h2 => by unfold tA; rw [hq j h1 h2, ha j h1 h2]
  have eC : mnC t q b = mnC t q' b' := cm_c eB
  refine ⟨?_, eC⟩
  unfold mnO
  rw [eC]
  exact sZ_c (fun j h1 h2 => by rw [eA j h1 h2, eB j h1 h2])
def meV (ho lo gr sz : Int → Int) (nb k p : Int) : Int := telv (mnO 0 (NBf ho lo nb) (fun j => sz j * SMf ho lo gr k nb j) (NBf ho lo nb)) (mnC 0 (NBf ho lo nb) (NBf ho lo nb) * TTv ho lo sz nb) p
def spV (ho lo gr sz : Int → Int) (nb k p : Int) : Int := telv (mnO 1 (NBf ho lo nb) (fun j => sz j * sz j * SCf ho lo gr k nb j) (bpf (NBf ho lo nb))) (mnC 1 (NBf ho lo nb) (bpf (NBf ho lo nb)) * TTv ho lo sz nb * TTv ho lo sz nb) p
theorem me_y {ho lo gr sz nu si su : Int → Int} {nb k p : Int} (gS : ∀ j, 0 ≤ j → j < 4 → si j = sz j) (gN : ∀ j, 0 ≤ j → j < 4 → nu j = sZ (gn ho lo j) nb) (gM : ∀ j, 0 ≤ j → j < 4 → su j = sZ (gm_ ho lo gr k j) nb) : telv (mnO 0 nu (fun j => si j * su j) nu) (mnC 0 nu nu * sZ (gt ho lo nb sz) 4) p = meV ho lo gr sz nb k p := by
  have e := mn_cg (t := 0) (q := nu) (q' := NBf ho lo nb) (a := fun j => si j * su j) (a' := fun j => sz j * SMf ho lo gr k nb j) (b := nu) (b' := NBf ho lo nb) gN (fun j h1 h2 => by (try dsimp only); rw [gS j h1 h2, gM j h1 h2]; rfl) gN
  rw [e.1, e.2]; rfl
theorem sp_y {ho lo gr sz nu si sc : Int → Int} {nb k p : Int} (gS : ∀ j, 0 ≤ j → j < 4 → si j = sz j) (gN : ∀ j, 0 ≤ j → j < 4 → nu j = sZ (gn ho lo j) nb) (gC : ∀ j, 0 ≤ j → j < 4 → sc j = sZ (gn ho lo j) nb * sZ (gq ho lo gr k j) nb - sZ (gm_ ho lo gr k j) nb * sZ (gm_ ho lo gr k j) nb) : telv (mnO 1 nu (fun j => si j * si j * sc j) (fun j => nu j * (nu j * (nu j - 1)))) (mnC 1 nu (fun j => nu j * (nu j * (nu j - 1))) * sZ (gt ho lo nb sz) 4 * sZ (gt ho lo nb sz) 4) p = spV ho lo gr sz nb k p := by
  have e := mn_cg (t := 1) (q := nu) (q' := NBf ho lo nb) (a := fun j => si j * si j * sc j) (a' := fun j => sz j * sz j * SCf ho lo gr k nb j) (b := fun j => nu j * (nu j * (nu j - 1))) (b' := bpf (NBf ho lo nb)) gN (fun j h1 h2 => by (try dsimp only); rw [gS j h1 h2, gC j h1 h2]; rfl) (fun j h1 h2 => by (try dsimp only); rw [gN j h1 h2]; rfl)
  rw [e.1, e.2]; rfl
theorem mnC_c {t : Int} {q q' b b' : Int → Int} (hq : ∀ j, 0 ≤ j → j < 4 → q j = q' j) (hb : ∀ j, 0 ≤ j → j < 4 → b j = b' j) : mnC t q b = mnC t q' b' := (mn_cg (a := fun _ => 0) (a' := fun _ => 0) hq (fun _ _ _ => rfl) hb).2
theorem gN_b {ho lo nu : Int → Int} {nb : Int} (hn : 0 ≤ nb ∧ nb ≤ 12) (gN : ∀ j, 0 ≤ j → j < 4 → nu j = sZ (gn ho lo j) nb) : ∀ j, 0 ≤ j → j < 4 → 0 ≤ nu j ∧ nu j ≤ 12 := fun j h1 h2 => by rw [gN j h1 h2]; exact gn_b ho lo j hn.1 hn.2
theorem gM_b {ho lo gr su : Int → Int} {k nb : Int} (hn : 0 ≤ nb ∧ nb ≤ 12) (hg : ∀ j, 0 ≤ gr j ∧ gr j ≤ 10000) (gM : ∀ j, 0 ≤ j → j < 4 → su j = sZ (gm_ ho lo gr k j) nb) : ∀ j, 0 ≤ j → j < 4 → 0 ≤ su j ∧ su j ≤ 120000 := fun j h1 h2 => by
  rw [gM j h1 h2]
  have b : ∀ i, 0 ≤ gm_ ho lo gr k j i ∧ gm_ ho lo gr k j i ≤ 10000 := by
    intro i
    unfold gm_
    have := hg (i * 3 + k)
    by_cases c : ho i = j ∧ lo i = 0
    · rw [if_pos c]; exact this
    · rw [if_neg c]; omega
  have l1 := sZ_nn nb (fun i => (b i).1)
  have l2 := sZ_le 10000 hn.1 (fun i => (b i).2)
  omega
theorem gS_b {sz si : Int → Int} (hs : ∀ j, 0 ≤ sz j ∧ sz j ≤ 100) (gS : ∀ j, 0 ≤ j → j < 4 → si j = sz j) : ∀ j, 0 ≤ j → j < 4 → 0 ≤ si j ∧ si j ≤ 100 := fun j h1 h2 => by rw [gS j h1 h2]; exact hs j
theorem gC_b {nu sc : Int → Int} {nb : Int} {q c : Int → Int} (gN : ∀ j, 0 ≤ j → j < 4 → nu j = q j) (gC : ∀ j, 0 ≤ j → j < 4 → sc j = c j) (h : ∀ j, 0 ≤ j → j < 4 → 0 ≤ c j ∧ c j ≤ q j * q j * 100000000) : ∀ j, 0 ≤ j → j < 4 → 0 ≤ sc j ∧ sc j ≤ nu j * nu j * 100000000 := fun j h1 h2 => by rw [gN j h1 h2, gC j h1 h2]; exact h j h1 h2
theorem TT_b {ho lo sz : Int → Int} {nb : Int} (hs : ∀ j, 0 ≤ sz j ∧ sz j ≤ 100) : 0 ≤ sZ (gt ho lo nb sz) 4 ∧ sZ (gt ho lo nb sz) 4 ≤ 400 := by
  have := s4_bd (f := gt ho lo nb sz) (B := 100) (fun j h1 h2 => by
    unfold gt
    have := hs j
    by_cases c : 0 < sZ (gn ho lo j) nb
    · rw [if_pos c]; exact this
    · rw [if_neg c]; omega)
  omega
theorem CN_b {ho lo : Int → Int} {nb : Int} : 0 ≤ sZ (gc ho lo nb) 4 ∧ sZ (gc ho lo nb) 4 ≤ 4 := by
  have := s4_bd (f := gc ho lo nb) (B := 1) (fun j h1 h2 => by
    unfold gc
    by_cases c : 0 < sZ (gn ho lo j) nb
    · rw [if_pos c]; omega
    · rw [if_neg c]; omega)
  omega
theorem TT_1 {ho lo sz : Int → Int} {nb : Int} (hs : ∀ j, 0 ≤ sz j ∧ sz j ≤ 100) (hp : ∀ j, 0 ≤ j → j < 4 → 0 < NBf ho lo nb j → 1 ≤ sz j) (hc : 0 < sZ (gc ho lo nb) 4) : 1 ≤ sZ (gt ho lo nb sz) 4 ∧ sZ (gt ho lo nb sz) 4 ≤ 400 := by
  refine ⟨?_, (TT_b hs).2⟩
  have t : ∀ j, 0 ≤ j → j < 4 → gc ho lo nb j ≤ gt ho lo nb sz j := by
    intro j h1 h2
    unfold gc gt
    by_cases c : 0 < sZ (gn ho lo j) nb
    · rw [if_pos c, if_pos c]; exact hp j h1 h2 c
    · rw [if_neg c, if_neg c]; omega
  rw [s4] at hc ⊢
  have t0 := t 0 (by omega) (by omega)
  have t1 := t 1 (by omega) (by omega)
  have t2 := t 2 (by omega) (by omega)
  have t3 := t 3 (by omega) (by omega)
  omega
theorem all_c {q q' : Int → Int} (h : ∀ j, 0 ≤ j → j < 4 → q j = q' j) : (∀ j, 0 ≤ j → j < 4 → ¬ q j = 1) ↔ (∀ j, 0 ≤ j → j < 4 → ¬ q' j = 1) := ⟨fun a j h1 h2 => by rw [← h j h1 h2]; exact a j h1 h2, fun a j h1 h2 => by rw [h j h1 h2]; exact a j h1 h2⟩
def okS (ho lo : Int → Int) (nb k : Int) : Prop := (0 ≤ k ∧ k < 3) ∧ (∀ j, 0 ≤ j → j < 4 → ¬ NBf ho lo nb j = 1) ∧ 0 < CNv ho lo nb
theorem okS_y {ho lo nu : Int → Int} {nb k : Int} (gN : ∀ j, 0 ≤ j → j < 4 → nu j = sZ (gn ho lo j) nb) (hk : 0 ≤ k ∧ k < 3) (h : (∀ j, 0 ≤ j → j < 4 → ¬ nu j = 1) ∧ 0 < sZ (gc ho lo nb) 4) : okS ho lo nb k := ⟨hk, (all_c gN).mp h.1, h.2⟩
theorem okS_n {ho lo nu : Int → Int} {nb k : Int} (gN : ∀ j, 0 ≤ j → j < 4 → nu j = sZ (gn ho lo j) nb) (h : ¬ ((∀ j, 0 ≤ j → j < 4 → ¬ nu j = 1) ∧ 0 < sZ (gc ho lo nb) 4)) : ¬ okS ho lo nb k := fun q => h ⟨(all_c gN).mpr q.2.1, q.2.2⟩
theorem sp_or {rv a : Int} {p q : Prop} (h : (rv = 1 ∧ p) ∨ (rv = 0 ∧ ¬ p)) (hr : ¬ rv = 0) : p := by
  rcases h with h | h
  · exact h.2
  · exact absurd h.1 hr
theorem sp_or0 {rv : Int} {p : Prop} (h : (rv = 1 ∧ p) ∨ (rv = 0 ∧ ¬ p)) (hr : rv = 0) : ¬ p := by
  rcases h with h | h
  · omega
  · exact h.2
