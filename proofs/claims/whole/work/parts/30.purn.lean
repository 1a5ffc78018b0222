theorem mv_miss2 {f g : Int → Int} {i a b : Int} (h : g = mv f i a b) (hi : 0 ≤ i) (hc : ¬ g i = a) : pu g i (g i) = mv f (i + 1) a b := by
  rw [← mv_miss h hi hc]
  funext j
  by_cases e : j = i
  · subst e; rw [pu_eq]
  · rw [pu_ne _ e]
theorem er_v {a b : Int → Int} {ov un tm i n p : Int} (h1 : ov = sZ a i) (hu : un = 2 * tm) (h2 : tm = sZ b i) (hi : i = n) (ht : 0 < tm) : telv ov un p = ert (sZ a n) (sZ b n) p := by
  subst hi; rw [← h1, ← h2, hu]; unfold ert; rw [if_pos ht]
theorem erc_out {ki : Int → Int} {k i : Int} (hk : ∀ j, 0 ≤ ki j ∧ ki j ≤ 2) (h : ¬ (0 ≤ k ∧ k < 3)) : sZ (erc ki k) i = 0 := by
  have : ∀ m : Nat, sN (erc ki k) m = 0 := by
    intro m
    induction m with
    | zero => rfl
    | succ m ih =>
      show sN (erc ki k) m + erc ki k m = 0
      have := hk m
      unfold erc
      unfold erc at ih
      rw [ih, if_neg (by omega)]
      rfl
  exact this _
theorem er_ok {ki : Int → Int} {k i tm p : Int} (hk : ∀ j, 0 ≤ ki j ∧ ki j ≤ 2) (ht : tm = sZ (erc ki k) i) (h : ¬ tm = 0) (hp1 : 0 ≤ p) (hp2 : p < 2) : (0 ≤ k ∧ k < 3) ∧ 0 ≤ p ∧ p < 2 := by
  refine ⟨?_, hp1, hp2⟩
  by_cases c : 0 ≤ k ∧ k < 3
  · exact c
  · exact absurd (ht.trans (erc_out hk c)) h
theorem er_none {ki a : Int → Int} {k i n un tm p : Int} (hk : ∀ j, 0 ≤ ki j ∧ ki j ≤ 2) (hu : un = 2 * tm) (ht : tm = sZ (erc ki k) i) (h : un = 0) (hi : i = n) : (((0 ≤ k ∧ k < 3) ∧ 0 ≤ p ∧ p < 2) ∧ -1 = ert (sZ a n) (sZ (erc ki k) n) p) ∨ (¬ ((0 ≤ k ∧ k < 3) ∧ 0 ≤ p ∧ p < 2) ∧ (-1 : Int) = -1) := by
  by_cases c : (0 ≤ k ∧ k < 3) ∧ 0 ≤ p ∧ p < 2
  · refine Or.inl ⟨c, ?_⟩
    subst hi
    rw [← ht]
    unfold ert
    rw [if_neg (by omega)]
  · exact Or.inr ⟨c, rfl⟩
def hsI (q : Int → Int) (cn k i hs : Int) : Prop := (hs = 1 ∧ (0 ≤ k ∧ k < 3) ∧ 0 < cn ∧ ∀ j, 0 ≤ j → j < i → ¬ q j = 1) ∨ (hs = 0 ∧ ¬ ((0 ≤ k ∧ k < 3) ∧ 0 < cn ∧ ∀ j, 0 ≤ j → j < i → ¬ q j = 1))
theorem hs_rng {q : Int → Int} {cn k i hs : Int} (h : hsI q cn k i hs) : 0 ≤ hs ∧ hs ≤ 1 := by
  rcases h with h | h <;> omega
theorem hs_1 {q : Int → Int} {cn k : Int} (hk : 0 ≤ k ∧ k < 3) (hc : 0 < cn) : hsI q cn k 0 1 := Or.inl ⟨rfl, hk, hc, fun j h1 h2 => absurd h2 (by omega)⟩
theorem hs_0 {q : Int → Int} {cn k : Int} (h : ¬ ((0 ≤ k ∧ k < 3) ∧ 0 < cn)) : hsI q cn k 0 0 := Or.inr ⟨rfl, fun z => h ⟨z.1, z.2.1⟩⟩
theorem hs_z {q : Int → Int} {cn k i hs : Int} (h : hsI q cn k i hs) (h0 : hs = 0) : hsI q cn k (i + 1) 0 := by
  rcases h with h | h
  · omega
  · exact Or.inr ⟨rfl, fun z => h.2 ⟨z.1, z.2.1, fun j h1 h2 => z.2.2 j h1 (by omega)⟩⟩
theorem hs_a {q : Int → Int} {cn k i hs : Int} (h : hsI q cn k i hs) (h0 : ¬ hs = 0) (hq : ¬ 0 < q i) : hsI q cn k (i + 1) 1 := by
  rcases h with h | h
  · refine Or.inl ⟨rfl, h.2.1, h.2.2.1, fun j h1 h2 => ?_⟩
    by_cases e : j = i
    · subst e; omega
    · exact h.2.2.2 j h1 (by omega)
  · exact absurd h.1 h0
theorem hs_b {q : Int → Int} {cn k i hs : Int} (h : hsI q cn k i hs) (h0 : ¬ hs = 0) (hq : 1 < q i) : hsI q cn k (i + 1) 1 := by
  rcases h with h | h
  · refine Or.inl ⟨rfl, h.2.1, h.2.2.1, fun j h1 h2 => ?_⟩
    by_cases e : j = i
    · subst e; omega
    · exact h.2.2.2 j h1 (by omega)
  · exact absurd h.1 h0
theorem hs_c {q : Int → Int} {cn k i hs : Int} (h : hsI q cn k i hs) (h0 : ¬ hs = 0) (hq : 0 < q i) (hq2 : ¬ 1 < q i) (hi : 0 ≤ i := by omega) : hsI q cn k (i + 1) 0 := Or.inr ⟨rfl, fun z => z.2.2 i hi (by omega) (by omega)⟩
theorem hs_end {ho lo go : Int → Int} {nb k i n hs : Int} (h : hsI (NBf ho lo nb) (CNv ho lo nb) k i hs) (hi : i = n) (h1 : 0 ≤ n) (h4 : n ≤ 4) (hz : ∀ j, 0 ≤ j → j < 4 → (n ≤ j ∨ ¬ go j = 0) → NBf ho lo nb j = 0) : (hs = 1 ∧ okS ho lo nb k) ∨ (hs = 0 ∧ ¬ okS ho lo nb k) := by
  subst hi
  have e : (∀ j, 0 ≤ j → j < i → ¬ NBf ho lo nb j = 1) → ∀ j, 0 ≤ j → j < 4 → ¬ NBf ho lo nb j = 1 := by
    intro a j b c
    by_cases d : j < i
    · exact a j b d
    · have := hz j b c (Or.inl (by omega)); omega
  rcases h with h | h
  · exact Or.inl ⟨h.1, h.2.1, e h.2.2.2, h.2.2.1⟩
  · refine Or.inr ⟨h.1, fun q => h.2 ⟨q.1, q.2.2, fun j b c => ?_⟩⟩
    exact q.2.1 j b (by omega)
theorem n1_of {q : Int → Int} {i : Int} (h : ∀ j, 0 ≤ j → j < 4 → ¬ q j = 1) (h1 : 0 ≤ i) (h2 : i < 4) (hq : 0 < q i) : 1 < q i := by
  have := h i h1 h2; omega
theorem tB_eb {q e : Int → Int} (hq : ∀ j, 0 ≤ j → j < 4 → 0 ≤ q j ∧ q j ≤ 12) (he : ∀ j, 0 ≤ j → j < 4 → 0 < q j → 1 ≤ e j ∧ e j ≤ 12) : ∀ j, 0 ≤ j → j < 4 → 1 ≤ tB 1 q (fun j => q j * (q j - 1) * e j) 4 j ∧ tB 1 q (fun j => q j * (q j - 1) * e j) 4 j ≤ 2000 := by
  intro j h1 h2
  unfold tB
  by_cases c : j < 4 ∧ 1 < q j
  · rw [if_pos c]; try dsimp only
    have a := pp_bd (hq j h1 h2) c.2
    have b := he j h1 h2 (by omega)
    have m := mul_bd1 a.1 a.2.1 b.1 b.2
    omega
  · rw [if_neg c]; omega
theorem cm_ext1 {ho lo go b : Int → Int} {nb n i x : Int} (h : x = cm (tB 1 (NBf ho lo nb) b 4) i) (hi : i = n) (h1 : 0 ≤ n) (h2 : n ≤ 4) (hz : ∀ j, 0 ≤ j → j < 4 → (n ≤ j ∨ ¬ go j = 0) → NBf ho lo nb j = 0) : x = mnC 1 (NBf ho lo nb) b := by
  subst hi
  rw [h]
  exact cm_e1 h1 h2 (tB_out (by omega) hz h1)
theorem ms_ext {ho lo go a b : Int → Int} {nb n i x : Int} (h : x = sZ (fun j => tA 1 (NBf ho lo nb) a 4 j * (mnC 1 (NBf ho lo nb) b / tB 1 (NBf ho lo nb) b 4 j)) i) (hi : i = n) (h1 : 0 ≤ n) (h2 : n ≤ 4) (hz : ∀ j, 0 ≤ j → j < 4 → (n ≤ j ∨ ¬ go j = 0) → NBf ho lo nb j = 0) : x = mnO 1 (NBf ho lo nb) a b := by
  subst hi
  rw [h]
  refine sz_ext h1 h2 (fun j c d => ?_)
  try dsimp only
  rw [tA_out (by omega) hz h1 j c d, Int.zero_mul]
theorem ms_y {ho lo gr sz b : Int → Int} {nb k i x bo : Int} (h : x = sZ (fun j => tA 1 (NBf ho lo nb) (fun j => sz j * sz j * SCf ho lo gr k nb j) 4 j * (mnC 1 (NBf ho lo nb) b / tB 1 (NBf ho lo nb) b 4 j)) i) (hbo : bo = mnC 1 (NBf ho lo nb) b) (hi : 0 ≤ i) (h4 : i < 4) (hc : 1 < NBf ho lo nb i) : x + (NBf ho lo nb i * SQf ho lo gr k nb i - SMf ho lo gr k nb i * SMf ho lo gr k nb i) * sz i * sz i * (bo / b i) = sZ (fun j => tA 1 (NBf ho lo nb) (fun j => sz j * sz j * SCf ho lo gr k nb j) 4 j * (mnC 1 (NBf ho lo nb) b / tB 1 (NBf ho lo nb) b 4 j)) (i + 1) := by
  rw [sZ_s _ hi, ← h]
  try dsimp only
  unfold tA tB
  rw [if_pos ⟨h4, hc⟩, if_pos ⟨h4, hc⟩, hbo]
  try dsimp only
  have e : SCf ho lo gr k nb i = NBf ho lo nb i * SQf ho lo gr k nb i - SMf ho lo gr k nb i * SMf ho lo gr k nb i := rfl
  rw [← e]
  have e2 : SCf ho lo gr k nb i * sz i * sz i = sz i * sz i * SCf ho lo gr k nb i := by rw [Int.mul_comm (sz i * sz i), Int.mul_assoc]
  rw [e2]
theorem he_0 {ho lo tr : Int → Int} {nb : Int} (h1 : 0 ≤ nb) (h2 : nb ≤ 12) : ∀ j, 0 ≤ j → j < 4 → 0 < NBf ho lo nb j → 1 ≤ (if (0 : Int) = 0 then NBf ho lo nb j else tr j) ∧ (if (0 : Int) = 0 then NBf ho lo nb j else tr j) ≤ 12 := by
  intro j a b c
  rw [if_pos rfl]
  have := nb12 ho lo h1 h2 j a b
  omega
theorem ph_y {rv : Int} {p : Prop} (h : (rv = 1 ∧ p) ∨ (rv = 0 ∧ ¬ p)) (hr : ¬ rv = 0) : p := by
  rcases h with h | h
  · exact h.2
  · exact absurd h.1 hr
theorem ph_n {rv : Int} {p : Prop} (h : (rv = 1 ∧ p) ∨ (rv = 0 ∧ ¬ p)) (hr : rv = 0) : ¬ p := by
  rcases h with h | h
  · omega
  · exact h.2
theorem sp_fin {ho lo gr sz t_trial : Int → Int} {nb k p : Int} (h1 : 0 ≤ nb) (h2 : nb ≤ 12) (hs : ∀ j, 0 ≤ sz j ∧ sz j ≤ 100) (hsc : ∀ j, 0 ≤ j → j < 4 → 0 ≤ SCf ho lo gr k nb j ∧ SCf ho lo gr k nb j ≤ NBf ho lo nb j * NBf ho lo nb j * 100000000) (hcB : mnC 1 (NBf ho lo nb) (bpf (NBf ho lo nb)) ≤ 110592) (hps : ∀ j, 0 ≤ j → j < 4 → 0 < NBf ho lo nb j → 1 ≤ sz j) (hc : 0 < CNv ho lo nb) :
    0 ≤ mnO 1 (NBf ho lo nb) (fun j => sz j * sz j * SCf ho lo gr k nb j) (fun j => NBf ho lo nb j * (NBf ho lo nb j - 1) * (if (0 : Int) = 0 then NBf ho lo nb j else t_trial j)) ∧ mnO 1 (NBf ho lo nb) (fun j => sz j * sz j * SCf ho lo gr k nb j) (fun j => NBf ho lo nb j * (NBf ho lo nb j - 1) * (if (0 : Int) = 0 then NBf ho lo nb j else t_trial j)) ≤ 4 * (1000000000000 * 110592) ∧ 1 ≤ mnC 1 (NBf ho lo nb) (fun j => NBf ho lo nb j * (NBf ho lo nb j - 1) * (if (0 : Int) = 0 then NBf ho lo nb j else t_trial j)) * TTv ho lo sz nb * TTv ho lo sz nb ∧ mnC 1 (NBf ho lo nb) (fun j => NBf ho lo nb j * (NBf ho lo nb j - 1) * (if (0 : Int) = 0 then NBf ho lo nb j else t_trial j)) * TTv ho lo sz nb * TTv ho lo sz nb ≤ 110592 * 400 * 400 ∧ telv (mnO 1 (NBf ho lo nb) (fun j => sz j * sz j * SCf ho lo gr k nb j) (fun j => NBf ho lo nb j * (NBf ho lo nb j - 1) * (if (0 : Int) = 0 then NBf ho lo nb j else t_trial j))) (mnC 1 (NBf ho lo nb) (fun j => NBf ho lo nb j * (NBf ho lo nb j - 1) * (if (0 : Int) = 0 then NBf ho lo nb j else t_trial j)) * TTv ho lo sz nb * TTv ho lo sz nb) p = spV ho lo gr sz nb k p := by
  have hq := nb12 ho lo h1 h2
  have e := mn_cg (t := 1) (q := NBf ho lo nb) (q' := NBf ho lo nb) (a := fun j => sz j * sz j * SCf ho lo gr k nb j) (a' := fun j => sz j * sz j * SCf ho lo gr k nb j) (b := fun j => NBf ho lo nb j * (NBf ho lo nb j - 1) * (if (0 : Int) = 0 then NBf ho lo nb j else t_trial j)) (b' := bpf (NBf ho lo nb)) (fun _ _ _ => rfl) (fun _ _ _ => rfl) (fun j _ _ => by (try dsimp only); rw [if_pos rfl]; unfold bpf; rw [Int.mul_comm])
  rw [e.1, e.2]
  have hbl := tB_bp (i := 4) (be := tB 1 (NBf ho lo nb) (bpf (NBf ho lo nb)) 4) (fun _ _ _ => rfl) hq
  have hcb := cm_b (f := tB 1 (NBf ho lo nb) (bpf (NBf ho lo nb)) 4) rfl (show (0 : Int) ≤ 4 by omega) (by omega) hbl
  have hsb := sp_sb (i := 4) (q := NBf ho lo nb) (sz := sz) (sc := SCf ho lo gr k nb) (ab := tA 1 (NBf ho lo nb) (fun j => sz j * sz j * SCf ho lo gr k nb j) 4) (be := tB 1 (NBf ho lo nb) (bpf (NBf ho lo nb)) 4) (fun _ _ _ => rfl) (fun _ _ _ => rfl) rfl (fun j _ _ => hs j) hq hsc hcb.1 hcB
  have htt : 1 ≤ TTv ho lo sz nb ∧ TTv ho lo sz nb ≤ 400 := TT_1 hs hps hc
  have hub := tt_bd (c := mnC 1 (NBf ho lo nb) (bpf (NBf ho lo nb))) hcb.1 hcB htt
  exact ⟨hsb.1, hsb.2, hub.1, hub.2, rfl⟩
theorem cq_room16 {m : MethodId} {pc : Nat} {ls : Array Slot} {rest st : List Value} (h : (st.map fun v => v.category).sum ≤ 16) : 2 * (F0 m pc ls rest).monitorRoom + (st.map fun v => v.category).sum ≤ 16 := by
  show 2 * 0 + _ ≤ 16
  omega
section CQ16
variable {p : Program} {l : Launch} {e : Env} {R : Room} {s : State} {m : MethodId} {args : Array Value} {below : List Frame} {meth : Method} {c : Code} {H : Heap} {locs : List Loc} {cells slots : Nat}
variable {y : MethodName} {bytes cc : ByteArray} {maxL nL mc ms n index : Nat} {ret : Option FieldType} {ws : List Cond} {rm : Room} {Pc : Array Value → State → Prop} {Qc : Array Value → State → Outcome → State → Prop} {free : Addr → Prop} {Ts : List Cond} {own C : String} {b : Addr} {As rest : List Value} {g : JFrame}
/-- a call with more words below its arguments -/
theorem cq_runV16 (S : CallFix p m c cc nL s args Ts own) (hM : Met l y ws rm Pc Qc mc ms free) (cw : CallW R s args own C index y bytes maxL ret ws rm mc ms n) (h16 : 16 + (maxL + 11) + rm.locals ≤ R.locals) (hp : PreV s H C b Pc As)
    (hg : g.method = m) (hn : As.length = n) (hsize : g.locals.size = nL) (hstack : g.stack = As.reverse ++ .ref b :: rest) (hW : 2 * g.monitorRoom + (rest.map fun v => v.category).sum ≤ 16) (hdg : decode cc g.pc = .ok (.invokevirtual index, 3)) (hf : cells + mc ≤ R.cells ∧ slots + ms ≤ R.slots) :
    va_Run p l e R s m args below meth c H locs cells slots mc ms g rest (Qc (Value.ref b :: As).toArray) (free) := by
  obtain ⟨⟨hrc, hrs, hfr, hlo, hws, hcw, hcode, hini, hy, hlen, hl⟩, hin, hse⟩ := cw
  have hK : Back l R p e below s args y 3 16 (PreOf R mc ms Pc) (PostOf Qc mc ms free) := back_of (bytes := bytes) (maxL := maxL) (ret := ret) hM hp.1 hrc hrs hfr h16 hws hcw (fun a' U hW => word_at hW (Or.inl (by first | rfl | simp [Cond.onTables, Cond.keeps, Cond.steady])) hini)
  obtain ⟨hx, hb, hml, ho, -⟩ := S
  obtain ⟨-, ⟨cellB, hcB, hoB, hclB⟩, hPc⟩ := hp
  intro T hT X
  obtain ⟨v, vm₁, ⟨U', l2, c2, s2⟩, hW₁, X', ⟨g', mk, t, L, e1, e2, hq, h1, hL, h2, h3⟩, st⟩ := callV X hx (C := C) (bytes := bytes) (maxL := maxL) (ret := ret) ho hl hin hse hcode hy hK (by rw [hT]; exact hcB) hoB hclB hg (hsize.trans hml.symm) (argsL := As) (rest := rest) (fun sig h => hn.trans (hlen sig h)) hstack hW (by rw [hb]; exact hdg)
    (fun vm₁ hW₁ => ⟨hf.1, hf.2, hPc (T.setVm vm₁) hT hW₁⟩)
  dsimp only [Pt.U, Pt.locs, Pt.cells, Pt.slots] at X' e1 e2 h1 h2 h3 st
  subst h1; subst h2; subst h3
  exact ⟨v, (T.setVm vm₁).calling g' mk (Value.ref b :: As).toArray, t, U', L, hT, X', hL, e1, e2, hq, st⟩
end CQ16
