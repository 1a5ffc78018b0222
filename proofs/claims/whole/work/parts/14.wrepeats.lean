set_option maxHeartbeats 4000000 in
set_option maxRecDepth 100000 in
theorem k_Repeats_add (l : Launch) (D : va_G) (cI cJ cZ : ClassId) (t_a t_sorted_a t_kinds_a t_found_a : Nat) (sz : Nat) (t_made : Int) (t_sorted_f : Int → Int) (t_kinds_f : Int → Int) (t_found_f : Int → Int) (z : Int) (kind : Int) (gm : Int) (h_z1 : -2147483648 ≤ z) (h_z2 : z < 2147483648) (h_kind1 : -2147483648 ≤ kind) (h_kind2 : kind < 2147483648) (h_gm1 : -9223372036854775808 ≤ gm) (h_gm2 : gm < 9223372036854775808) (hn1 : 0 ≤ t_made) (hn2 : t_made ≤ 40) : cq_i l yRp_add wsRp_add ({ frames := 0, cells := 0, slots := 0, locals := 0 }) D clAll [(cI, .int), (cJ, .long), (cZ, .boolean)] nwAll [.ref t_a, .int (iZ z), .int (iZ kind), .long (lZ gm)] [(t_a, .inr (5, [.ref t_sorted_a, .ref t_kinds_a, .ref t_found_a, .int (iZ t_made)])), (t_sorted_a, .inl (cI, 40, .inl (aI t_sorted_f))), (t_kinds_a, .inl (cI, 40, .inl (aI t_kinds_f))), (t_found_a, .inl (cJ, 40, .inr (.inl (aL t_found_f))))] sz (S := Int × Int × (Int → Int) × (Int → Int) × (Int → Int)) (fun (r : Int32) (u : Int × Int × (Int → Int) × (Int → Int) × (Int → Int)) => r = iZ u.1 ∧ ((t_made < 40 ∧ u.1 = t_made + 1 ∧ u.2.1 = t_made + 1 ∧ u.2.2.1 = pu t_sorted_f t_made z ∧ u.2.2.2.1 = pu t_kinds_f t_made kind ∧ u.2.2.2.2 = pu t_found_f t_made gm) ∨ (¬ t_made < 40 ∧ u.1 = -1 ∧ u.2.1 = t_made ∧ u.2.2.1 = t_sorted_f ∧ u.2.2.2.1 = t_kinds_f ∧ u.2.2.2.2 = t_found_f))) (fun (u : Int × Int × (Int → Int) × (Int → Int) × (Int → Int)) => [(t_a, .inr (5, [.ref t_sorted_a, .ref t_kinds_a, .ref t_found_a, .int (iZ u.2.1)])), (t_sorted_a, .inl (cI, 40, .inl (aI u.2.2.1))), (t_kinds_a, .inl (cI, 40, .inl (aI u.2.2.2.1))), (t_found_a, .inl (cJ, 40, .inr (.inl (aL u.2.2.2.2))))]) 0 0 := by
  refine cq_enter (cc := cRp_add) (maxL := 5) (ret := some .int) (by decide) rfl (Nat.le_of_ble_eq_true rfl) ?_
  intro p e s m below meth c A args Q H hAe hQ hsz hAt hA hP hK hD hS ls hl
  obtain ⟨hx, hb, hr, hml, hown, hts, hlocks, hin⟩ := hAt
  have hown : s.vm.findClass RRp = some m.cls := hown
  have hl : lv_has ls 5 [(0, .ref t_a), (1, .int (iZ z)), (2, .int (iZ kind)), (3, .long (lZ gm))] := hl
  refine lv_aload_n hx hb dRp_add_0 rfl (lv_at hl 0 rfl) ?_
  refine va_get (D := D) (ci := 5) (v := .int (iZ t_made)) (C := RRp) (T := TRp) (N := 4) hx hb hts layRp hown hK.1 hP 0 rfl rfl 3 (by decide) (hts _ (hm g130)) (fun _ h9 => h9) rfl dRp_add_1 ?_
  refine lv_bipush (v := iZ (40)) hx hb dRp_add_4 (by decide) ?_
  refine z_icmp_lt (tgt := 11) hx hb (by omega) (by omega) (by omega) (by omega) dRp_add_6 (by decide) (fun c_1 => ?_) (fun c_1 => ?_)
  ·
    refine lv_aload_n hx hb dRp_add_11 rfl (lv_at hl 0 rfl) ?_
    refine va_get (D := D) (ci := 5) (v := .ref t_sorted_a) (C := RRp) (T := TRp) (N := 4) hx hb hts layRp hown hK.1 hP 0 rfl rfl 0 (by decide) (hts _ (hm g127)) (fun _ h9 => h9) rfl dRp_add_12 ?_
    refine lv_aload_n hx hb dRp_add_15 rfl (lv_at hl 0 rfl) ?_
    refine va_get (D := D) (ci := 5) (v := .int (iZ t_made)) (C := RRp) (T := TRp) (N := 4) hx hb hts layRp hown hK.1 hP 0 rfl rfl 3 (by decide) (hts _ (hm g130)) (fun _ h9 => h9) rfl dRp_add_16 ?_
    refine lv_iload_n hx hb dRp_add_19 rfl (lv_at hl 1 rfl) ?_
    refine z_iast hx hb hK hP hD hS 1 0 rfl rfl (by omega) (by omega) (by decide) dRp_add_20 (fun H locs hP hD hS => ?_)
    have hP : va_P D clAll [(t_a, .inr (5, [.ref t_sorted_a, .ref t_kinds_a, .ref t_found_a, .int (iZ t_made)])), (t_sorted_a, .inl (cI, 40, .inl (aI (pu t_sorted_f t_made z)))), (t_kinds_a, .inl (cI, 40, .inl (aI t_kinds_f))), (t_found_a, .inl (cJ, 40, .inr (.inl (aL t_found_f))))] H := hP
    have hD : va_D A [(t_a, .inr (5, [.ref t_sorted_a, .ref t_kinds_a, .ref t_found_a, .int (iZ t_made)])), (t_sorted_a, .inl (cI, 40, .inl (aI (pu t_sorted_f t_made z)))), (t_kinds_a, .inl (cI, 40, .inl (aI t_kinds_f))), (t_found_a, .inl (cJ, 40, .inr (.inl (aL t_found_f))))] := hD
    refine lv_aload_n hx hb dRp_add_21 rfl (lv_at hl 0 rfl) ?_
    refine va_get (D := D) (ci := 5) (v := .ref t_kinds_a) (C := RRp) (T := TRp) (N := 4) hx hb hts layRp hown hK.1 hP 0 rfl rfl 1 (by decide) (hts _ (hm g128)) (fun _ h9 => h9) rfl dRp_add_22 ?_
    refine lv_aload_n hx hb dRp_add_25 rfl (lv_at hl 0 rfl) ?_
    refine va_get (D := D) (ci := 5) (v := .int (iZ t_made)) (C := RRp) (T := TRp) (N := 4) hx hb hts layRp hown hK.1 hP 0 rfl rfl 3 (by decide) (hts _ (hm g130)) (fun _ h9 => h9) rfl dRp_add_26 ?_
    refine lv_iload_n hx hb dRp_add_29 rfl (lv_at hl 2 rfl) ?_
    refine z_iast hx hb hK hP hD hS 2 0 rfl rfl (by omega) (by omega) (by decide) dRp_add_30 (fun H locs hP hD hS => ?_)
    have hP : va_P D clAll [(t_a, .inr (5, [.ref t_sorted_a, .ref t_kinds_a, .ref t_found_a, .int (iZ t_made)])), (t_sorted_a, .inl (cI, 40, .inl (aI (pu t_sorted_f t_made z)))), (t_kinds_a, .inl (cI, 40, .inl (aI (pu t_kinds_f t_made kind)))), (t_found_a, .inl (cJ, 40, .inr (.inl (aL t_found_f))))] H := hP
    have hD : va_D A [(t_a, .inr (5, [.ref t_sorted_a, .ref t_kinds_a, .ref t_found_a, .int (iZ t_made)])), (t_sorted_a, .inl (cI, 40, .inl (aI (pu t_sorted_f t_made z)))), (t_kinds_a, .inl (cI, 40, .inl (aI (pu t_kinds_f t_made kind)))), (t_found_a, .inl (cJ, 40, .inr (.inl (aL t_found_f))))] := hD
    refine lv_aload_n hx hb dRp_add_31 rfl (lv_at hl 0 rfl) ?_
    refine va_get (D := D) (ci := 5) (v := .ref t_found_a) (C := RRp) (T := TRp) (N := 4) hx hb hts layRp hown hK.1 hP 0 rfl rfl 2 (by decide) (hts _ (hm g129)) (fun _ h9 => h9) rfl dRp_add_32 ?_
    refine lv_aload_n hx hb dRp_add_35 rfl (lv_at hl 0 rfl) ?_
    refine va_get (D := D) (ci := 5) (v := .int (iZ t_made)) (C := RRp) (T := TRp) (N := 4) hx hb hts layRp hown hK.1 hP 0 rfl rfl 3 (by decide) (hts _ (hm g130)) (fun _ h9 => h9) rfl dRp_add_36 ?_
    refine lv_lload_n hx hb dRp_add_39 rfl (lv_at hl 3 rfl) ?_
    refine z_last hx hb hK hP hD hS 3 1 rfl rfl (by omega) (by omega) (by decide) dRp_add_40 (fun H locs hP hD hS => ?_)
    have hP : va_P D clAll [(t_a, .inr (5, [.ref t_sorted_a, .ref t_kinds_a, .ref t_found_a, .int (iZ t_made)])), (t_sorted_a, .inl (cI, 40, .inl (aI (pu t_sorted_f t_made z)))), (t_kinds_a, .inl (cI, 40, .inl (aI (pu t_kinds_f t_made kind)))), (t_found_a, .inl (cJ, 40, .inr (.inl (aL (pu t_found_f t_made gm)))))] H := hP
    have hD : va_D A [(t_a, .inr (5, [.ref t_sorted_a, .ref t_kinds_a, .ref t_found_a, .int (iZ t_made)])), (t_sorted_a, .inl (cI, 40, .inl (aI (pu t_sorted_f t_made z)))), (t_kinds_a, .inl (cI, 40, .inl (aI (pu t_kinds_f t_made kind)))), (t_found_a, .inl (cJ, 40, .inr (.inl (aL (pu t_found_f t_made gm)))))] := hD
    refine lv_aload_n hx hb dRp_add_41 rfl (lv_at hl 0 rfl) ?_
    refine lv_dup hx hb dRp_add_42 rfl ?_
    refine va_get (D := D) (ci := 5) (v := .int (iZ t_made)) (C := RRp) (T := TRp) (N := 4) hx hb hts layRp hown hK.1 hP 0 rfl rfl 3 (by decide) (hts _ (hm g130)) (fun _ h9 => h9) rfl dRp_add_43 ?_
    refine lv_iconst (v := iZ 1) hx hb dRp_add_46 (by decide) ?_
    refine z_iadd hx hb dRp_add_47 ?_
    refine va_put (D := D) (ci := 5) (v := .int (iZ (t_made + 1))) (ty := .int) (C := RRp) (T := TRp) (N := 4) hx hb hts layRp tyRp tyRp_ok nmRp hown hK.1 hP hD hS 0 rfl rfl 3 (by decide) (hts _ (hm g130)) (fun _ h9 => h9) rfl (by decide +kernel) rfl rfl (Nat.le_of_ble_eq_true rfl) dRp_add_48 (fun H locs hP hD hS => ?_)
    have hP : va_P D clAll [(t_a, .inr (5, [.ref t_sorted_a, .ref t_kinds_a, .ref t_found_a, .int (iZ (t_made + 1))])), (t_sorted_a, .inl (cI, 40, .inl (aI (pu t_sorted_f t_made z)))), (t_kinds_a, .inl (cI, 40, .inl (aI (pu t_kinds_f t_made kind)))), (t_found_a, .inl (cJ, 40, .inr (.inl (aL (pu t_found_f t_made gm)))))] H := hP
    have hD : va_D A [(t_a, .inr (5, [.ref t_sorted_a, .ref t_kinds_a, .ref t_found_a, .int (iZ (t_made + 1))])), (t_sorted_a, .inl (cI, 40, .inl (aI (pu t_sorted_f t_made z)))), (t_kinds_a, .inl (cI, 40, .inl (aI (pu t_kinds_f t_made kind)))), (t_found_a, .inl (cJ, 40, .inr (.inl (aL (pu t_found_f t_made gm)))))] := hD
    refine lv_aload_n hx hb dRp_add_51 rfl (lv_at hl 0 rfl) ?_
    refine va_get (D := D) (ci := 5) (v := .int (iZ (t_made + 1))) (C := RRp) (T := TRp) (N := 4) hx hb hts layRp hown hK.1 hP 0 rfl rfl 3 (by decide) (hts _ (hm g130)) (fun _ h9 => h9) rfl dRp_add_52 ?_
    exact cq_iret hx hb hr hlocks hAe hQ (t_made + 1, t_made + 1, (pu t_sorted_f t_made z), (pu t_kinds_f t_made kind), (pu t_found_f t_made gm)) ⟨rfl, (by (try dsimp only) <;> (first | rfl | omega | (refine Or.inl ?_; and_intros <;> first | rfl | omega) | (refine Or.inr ?_; and_intros <;> first | rfl | omega)))⟩ (hP.sub [0, 1, 2, 3] rfl) (hD.sub [0, 1, 2, 3] (by decide) rfl) hS (by decide) (by decide) dRp_add_55
  ·
    refine lv_iconst (v := iZ (-1)) hx hb dRp_add_9 (by decide) ?_
    exact cq_iret hx hb hr hlocks hAe hQ (-1, t_made, t_sorted_f, t_kinds_f, t_found_f) ⟨rfl, (by (try dsimp only) <;> (first | rfl | omega | (refine Or.inl ?_; and_intros <;> first | rfl | omega) | (refine Or.inr ?_; and_intros <;> first | rfl | omega)))⟩ (hP.sub [0, 1, 2, 3] rfl) (hD.sub [0, 1, 2, 3] (by decide) rfl) hS (by decide) (by decide) dRp_add_10
set_option maxHeartbeats 4000000 in
set_option maxRecDepth 100000 in
theorem k_Repeats_tellError (l : Launch) (D : va_G) (cI cJ cZ : ClassId) (t_a bags_a t_sorted_a t_kinds_a t_found_a bags_homes_a bags_dates_a bags_lost_a bags_grams_a : Nat) (sz : Nat) (t_made : Int) (t_sorted_f : Int → Int) (t_kinds_f : Int → Int) (t_found_f : Int → Int) (bags_made : Int) (bags_grams_f : Int → Int) (kind : Int) (part : Int) (h_kind1 : -2147483648 ≤ kind) (h_kind2 : kind < 2147483648) (h_part1 : -2147483648 ≤ part) (h_part2 : part < 2147483648) (hn1 : 0 ≤ t_made) (hn2 : t_made ≤ 40) (hbm : 0 ≤ bags_made ∧ bags_made ≤ 12) (hso : ∀ j, 0 ≤ j → j < t_made → 0 ≤ t_sorted_f j ∧ t_sorted_f j < bags_made) (hki : ∀ j, 0 ≤ t_kinds_f j ∧ t_kinds_f j ≤ 2) (hfo : ∀ j, 0 ≤ t_found_f j ∧ t_found_f j ≤ 10000) (hgr : ∀ j, 0 ≤ bags_grams_f j ∧ bags_grams_f j ≤ 10000) (hkd : 0 ≤ kind ∧ kind < 3) : cq_l l yRp_tellError wsRp_tellError ({ frames := 2, cells := 0, slots := 0, locals := 56 }) D clAll [(cI, .int), (cJ, .long), (cZ, .boolean)] nwAll [.ref t_a, .ref bags_a, .int (iZ kind), .int (iZ part)] [(t_a, .inr (5, [.ref t_sorted_a, .ref t_kinds_a, .ref t_found_a, .int (iZ t_made)])), (t_sorted_a, .inl (cI, 40, .inl (aI t_sorted_f))), (t_kinds_a, .inl (cI, 40, .inl (aI t_kinds_f))), (t_found_a, .inl (cJ, 40, .inr (.inl (aL t_found_f)))), (bags_a, .inr (0, [.ref bags_homes_a, .ref bags_dates_a, .ref bags_lost_a, .ref bags_grams_a, .int (iZ bags_made)])), (bags_grams_a, .inl (cJ, 36, .inr (.inl (aL bags_grams_f))))] sz (S := Int) (fun (r : Int64) (u : Int) => r = lZ u ∧ (u = ert (sZ (erq t_sorted_f t_kinds_f t_found_f bags_grams_f kind) t_made) (sZ (erc t_kinds_f kind) t_made) part)) (fun (u : Int) => [(t_a, .inr (5, [.ref t_sorted_a, .ref t_kinds_a, .ref t_found_a, .int (iZ t_made)])), (t_sorted_a, .inl (cI, 40, .inl (aI t_sorted_f))), (t_kinds_a, .inl (cI, 40, .inl (aI t_kinds_f))), (t_found_a, .inl (cJ, 40, .inr (.inl (aL t_found_f)))), (bags_a, .inr (0, [.ref bags_homes_a, .ref bags_dates_a, .ref bags_lost_a, .ref bags_grams_a, .int (iZ bags_made)])), (bags_grams_a, .inl (cJ, 36, .inr (.inl (aL bags_grams_f))))]) 0 0 := by
  refine cq_enter (cc := cRp_tellError) (maxL := 11) (ret := some .long) (by decide) rfl (Nat.le_of_ble_eq_true rfl) ?_
  intro p e s m below meth c A args Q H hAe hQ hsz hAt hA hP hK hD hS ls hl
  obtain ⟨hx, hb, hr, hml, hown, hts, hlocks, hin⟩ := hAt
  have hown : s.vm.findClass RRp = some m.cls := hown
  have hl : lv_has ls 11 [(0, .ref t_a), (1, .ref bags_a), (2, .int (iZ kind)), (3, .int (iZ part))] := hl
  refine lv_lconst (v := lZ 0) hx hb dRp_tellError_0 (by decide) ?_
  refine lv_lstore (lv' := [(4, .long (lZ 0)), (0, .ref t_a), (1, .ref bags_a), (2, .int (iZ kind)), (3, .int (iZ part))]) hx hb dRp_tellError_1 hl (by decide) rfl (fun ls hl => ?_)
  refine lv_lconst (v := lZ 0) hx hb dRp_tellError_3 (by decide) ?_
  refine lv_lstore (lv' := [(6, .long (lZ 0)), (4, .long (lZ 0)), (0, .ref t_a), (1, .ref bags_a), (2, .int (iZ kind)), (3, .int (iZ part))]) hx hb dRp_tellError_4 hl (by decide) rfl (fun ls hl => ?_)
  refine lv_iconst (v := iZ 0) hx hb dRp_tellError_6 (by decide) ?_
  refine lv_istore (lv' := [(8, .int (iZ 0)), (6, .long (lZ 0)), (4, .long (lZ 0)), (0, .ref t_a), (1, .ref bags_a), (2, .int (iZ kind)), (3, .int (iZ part))]) hx hb dRp_tellError_7 hl (by decide) rfl (fun ls hl => ?_)
  have loop_1 : ∀ (n_3 : Nat) (sq : Int) (tm : Int) (i : Int), (0 ≤ i) → (i ≤ t_made) → (sq = sZ (erq t_sorted_f t_kinds_f t_found_f bags_grams_f kind) i) → (tm = sZ (erc t_kinds_f kind) i) → (t_made - i < (n_3 : Int)) → ∀ (H : Heap) (locs : List Loc), va_P D clAll [(t_a, .inr (5, [.ref t_sorted_a, .ref t_kinds_a, .ref t_found_a, .int (iZ t_made)])), (t_sorted_a, .inl (cI, 40, .inl (aI t_sorted_f))), (t_kinds_a, .inl (cI, 40, .inl (aI t_kinds_f))), (t_found_a, .inl (cJ, 40, .inr (.inl (aL t_found_f)))), (bags_a, .inr (0, [.ref bags_homes_a, .ref bags_dates_a, .ref bags_lost_a, .ref bags_grams_a, .int (iZ bags_made)])), (bags_grams_a, .inl (cJ, 36, .inr (.inl (aL bags_grams_f))))] H → va_D A [(t_a, .inr (5, [.ref t_sorted_a, .ref t_kinds_a, .ref t_found_a, .int (iZ t_made)])), (t_sorted_a, .inl (cI, 40, .inl (aI t_sorted_f))), (t_kinds_a, .inl (cI, 40, .inl (aI t_kinds_f))), (t_found_a, .inl (cJ, 40, .inr (.inl (aL t_found_f)))), (bags_a, .inr (0, [.ref bags_homes_a, .ref bags_dates_a, .ref bags_lost_a, .ref bags_grams_a, .int (iZ bags_made)])), (bags_grams_a, .inl (cJ, 36, .inr (.inl (aL bags_grams_f))))] → va_S A s.heap H locs → ∀ ls : Array Slot, lv_has ls 11 [(0, .ref t_a), (1, .ref bags_a), (2, .int (iZ kind)), (3, .int (iZ part)), (4, .long (lZ sq)), (6, .long (lZ tm)), (8, .int (iZ i))] → W p l e { frames := 2, cells := 0, slots := 0, locals := 56 } s m args below meth c H locs 0 0 Q (F0 m 9 ls []) := by
    intro n_3
    induction n_3 with
    | zero => intro sq tm i hi hi2 hsq htm hm_4; exact absurd hm_4 (by omega)
    | succ n_3 ih_2 =>
      intro sq tm i hi hi2 hsq htm hm_4 H locs hP hD hS ls hl
      refine lv_iload hx hb dRp_tellError_9 (lv_at hl 6 rfl) ?_
      refine lv_aload_n hx hb dRp_tellError_11 rfl (lv_at hl 0 rfl) ?_
      refine va_get (D := D) (ci := 5) (v := .int (iZ t_made)) (C := RRp) (T := TRp) (N := 4) hx hb hts layRp hown hK.1 hP 0 rfl rfl 3 (by decide) (hts _ (hm g130)) (fun _ h9 => h9) rfl dRp_tellError_12 ?_
      refine z_icmp_ge (tgt := 73) hx hb (by omega) (by omega) (by omega) (by omega) dRp_tellError_15 (by decide) (fun c_5 => ?_) (fun c_5 => ?_)
      ·
        have hb1 := erq_b hsq hi (by omega) hfo hgr
        refine lv_lload hx hb dRp_tellError_73 (lv_at hl 5 rfl) ?_
        have hb2 := erc_b htm hi (by omega)
        refine lv_lconst (v := lZ 0) hx hb dRp_tellError_75 (by decide) ?_
        refine z_lcmp_le (tgt := 95) hx hb (by omega) (by omega) (by omega) (by omega) dRp_tellError_76 dRp_tellError_77 (by decide) (fun c_6 => ?_) (fun c_6 => ?_)
        ·
          refine lv_ldc2 (v := lZ (-1)) hx hb hown (hts _ (hm g420)) dRp_tellError_95 ?_
          exact cq_lret hx hb hr hlocks hAe hQ (-1) ⟨rfl, (by (try dsimp only) <;> (first | exact ert_1 hsq htm (by omega) (by omega) | exact ert_0 htm (by omega) (by omega)))⟩ (hP.sub [0, 1, 2, 3, 4, 5] rfl) (hD.sub [0, 1, 2, 3, 4, 5] (by decide) rfl) hS (by decide) (by decide) dRp_tellError_98
        ·
          refine lv_lload hx hb dRp_tellError_80 (lv_at hl 4 rfl) ?_
          refine lv_ldc2 (v := lZ (2)) hx hb hown (hts _ (hm g419)) dRp_tellError_82 ?_
          refine lv_lload hx hb dRp_tellError_85 (lv_at hl 5 rfl) ?_
          refine z_lmul hx hb dRp_tellError_87 ?_
          refine lv_iload_n hx hb dRp_tellError_88 rfl (lv_at hl 3 rfl) ?_
          refine cq_calll (wr := [(t_a, .inr (5, [.ref t_sorted_a, .ref t_kinds_a, .ref t_found_a, .int (iZ t_made)])), (t_sorted_a, .inl (cI, 40, .inl (aI t_sorted_f))), (t_kinds_a, .inl (cI, 40, .inl (aI t_kinds_f))), (t_found_a, .inl (cJ, 40, .inr (.inl (aL t_found_f)))), (bags_a, .inr (0, [.ref bags_homes_a, .ref bags_dates_a, .ref bags_lost_a, .ref bags_grams_a, .int (iZ bags_made)])), (bags_grams_a, .inl (cJ, 36, .inr (.inl (aL bags_grams_f))))]) (va_runSN (As := [.long (lZ sq), .long (lZ (2 * tm)), .int (iZ part)]) (rest := []) ⟨hx, hb, hml, hown, hts⟩ (k_StratumCounts_tell l D cI cJ cZ H.size sq (2 * tm) part (by omega) (by omega) (by omega) (by omega) (by omega) (by omega) (by first | assumption | omega) (by first | assumption | omega)) ⟨(va_cnB 3 hts (gAll cmSc_tell) rfl rfl rfl (hK.2.2 _ n63) (hts _ (hm g58)) (by decide +kernel) ⟨Nat.le_of_ble_eq_true rfl, Nat.le_of_ble_eq_true rfl⟩), (hts _ (hm g326)), trivial⟩ (cq_preS hK hP hD [] (by decide) rfl) rfl rfl hl.1 rfl (lv_room (Nat.le_of_ble_eq_true rfl)) dRp_tellError_89 ⟨by decide, by decide⟩) hP hD hS hA [] [0, 1, 2, 3, 4, 5] rfl rfl (by decide) (by decide) (fun r u H locs hw_7 hP hD hS => ?_)
          obtain ⟨o_8, rfl⟩ : ∃ z, z = u := ⟨_, rfl⟩
          try dsimp only at hw_7
          obtain ⟨rfl, rfl⟩ := hw_7
          have hP : va_P D clAll [(t_a, .inr (5, [.ref t_sorted_a, .ref t_kinds_a, .ref t_found_a, .int (iZ t_made)])), (t_sorted_a, .inl (cI, 40, .inl (aI t_sorted_f))), (t_kinds_a, .inl (cI, 40, .inl (aI t_kinds_f))), (t_found_a, .inl (cJ, 40, .inr (.inl (aL t_found_f)))), (bags_a, .inr (0, [.ref bags_homes_a, .ref bags_dates_a, .ref bags_lost_a, .ref bags_grams_a, .int (iZ bags_made)])), (bags_grams_a, .inl (cJ, 36, .inr (.inl (aL bags_grams_f))))] H := hP
          have hD : va_D A [(t_a, .inr (5, [.ref t_sorted_a, .ref t_kinds_a, .ref t_found_a, .int (iZ t_made)])), (t_sorted_a, .inl (cI, 40, .inl (aI t_sorted_f))), (t_kinds_a, .inl (cI, 40, .inl (aI t_kinds_f))), (t_found_a, .inl (cJ, 40, .inr (.inl (aL t_found_f)))), (bags_a, .inr (0, [.ref bags_homes_a, .ref bags_dates_a, .ref bags_lost_a, .ref bags_grams_a, .int (iZ bags_made)])), (bags_grams_a, .inl (cJ, 36, .inr (.inl (aL bags_grams_f))))] := hD
          refine lv_goto (tgt := 98) hx hb dRp_tellError_92 (by decide) ?_
          exact cq_lret hx hb hr hlocks hAe hQ ((if part = 0 then sq else (2 * tm)) / (Int.gcd sq (2 * tm) : Int)) ⟨rfl, (by (try dsimp only) <;> (first | exact ert_1 hsq htm (by omega) (by omega) | exact ert_0 htm (by omega) (by omega)))⟩ (hP.sub [0, 1, 2, 3, 4, 5] rfl) (hD.sub [0, 1, 2, 3, 4, 5] (by decide) rfl) hS (by decide) (by decide) dRp_tellError_98
      ·
        refine lv_aload_n hx hb dRp_tellError_18 rfl (lv_at hl 0 rfl) ?_
        refine va_get (D := D) (ci := 5) (v := .ref t_kinds_a) (C := RRp) (T := TRp) (N := 4) hx hb hts layRp hown hK.1 hP 0 rfl rfl 1 (by decide) (hts _ (hm g128)) (fun _ h9 => h9) rfl dRp_tellError_19 ?_
        refine lv_iload hx hb dRp_tellError_22 (lv_at hl 6 rfl) ?_
        refine z_iald hx hb hK hP 2 0 rfl rfl (by omega) (by omega) (by decide) dRp_tellError_24 ?_
        have f_9 := hki i
        refine lv_iload_n hx hb dRp_tellError_25 rfl (lv_at hl 2 rfl) ?_
        refine z_icmp_ne (tgt := 67) hx hb (by omega) (by omega) (by omega) (by omega) dRp_tellError_26 (by decide) (fun c_10 => ?_) (fun c_10 => ?_)
        ·
          refine lv_iinc (v := iZ (i + 1)) (lv' := [(8, .int (iZ (i + 1))), (0, .ref t_a), (1, .ref bags_a), (2, .int (iZ kind)), (3, .int (iZ part)), (4, .long (lZ sq)), (6, .long (lZ tm))]) hx hb dRp_tellError_67 hl (k := 6) rfl (iZ_add i 1) (by decide) rfl (fun ls hl => ?_)
          refine lv_goto (tgt := 9) hx hb dRp_tellError_70 (by decide) ?_
          exact ih_2  sq tm (i + 1) (by omega) (by omega) (by first | exact erq_1 hsq hi (by assumption) | exact erq_0 hsq hi (by assumption)) (by first | exact erc_1 htm hi (by assumption) | exact erc_0 htm hi (by assumption)) (by omega) _ _ (hP.sub [0, 1, 2, 3, 4, 5] rfl) (hD.sub [0, 1, 2, 3, 4, 5] (by decide) rfl) hS ls (lv_sub hl [1, 2, 3, 4, 5, 6, 0] rfl)
        ·
          refine lv_aload_n hx hb dRp_tellError_29 rfl (lv_at hl 0 rfl) ?_
          refine va_get (D := D) (ci := 5) (v := .ref t_found_a) (C := RRp) (T := TRp) (N := 4) hx hb hts layRp hown hK.1 hP 0 rfl rfl 2 (by decide) (hts _ (hm g129)) (fun _ h9 => h9) rfl dRp_tellError_30 ?_
          refine lv_iload hx hb dRp_tellError_33 (lv_at hl 6 rfl) ?_
          refine z_lald hx hb hK hP 3 1 rfl rfl (by omega) (by omega) (by decide) dRp_tellError_35 ?_
          have f_11 := hfo i
          refine lv_aload_n hx hb dRp_tellError_36 rfl (lv_at hl 1 rfl) ?_
          refine lv_aload_n hx hb dRp_tellError_37 rfl (lv_at hl 0 rfl) ?_
          refine va_get (D := D) (ci := 5) (v := .ref t_sorted_a) (C := RRp) (T := TRp) (N := 4) hx hb hts layRp hown hK.1 hP 0 rfl rfl 0 (by decide) (hts _ (hm g127)) (fun _ h9 => h9) rfl dRp_tellError_38 ?_
          refine lv_iload hx hb dRp_tellError_41 (lv_at hl 6 rfl) ?_
          refine z_iald hx hb hK hP 1 0 rfl rfl (by omega) (by omega) (by decide) dRp_tellError_43 ?_
          have f_12 := hso i (by omega) (by omega)
          refine lv_iload_n hx hb dRp_tellError_44 rfl (lv_at hl 2 rfl) ?_
          refine cq_calll (wr := [(t_a, .inr (5, [.ref t_sorted_a, .ref t_kinds_a, .ref t_found_a, .int (iZ t_made)])), (t_sorted_a, .inl (cI, 40, .inl (aI t_sorted_f))), (t_kinds_a, .inl (cI, 40, .inl (aI t_kinds_f))), (t_found_a, .inl (cJ, 40, .inr (.inl (aL t_found_f))))]) (va_runVN (C := RBg) (As := [.int (iZ (t_sorted_f i)), .int (iZ kind)]) (rest := [.long (lZ (t_found_f i))]) ⟨hx, hb, hml, hown, hts⟩ (k_Bags_gramsOf l D cI cJ cZ bags_a bags_homes_a bags_dates_a bags_lost_a bags_grams_a H.size bags_made bags_grams_f (t_sorted_f i) kind (by omega) (by omega) (by omega) (by omega) (by first | assumption | omega) (by first | assumption | omega) (by first | assumption | omega) (by first | assumption | omega)) ⟨(va_cnB 2 hts (gAll cmBg_gramsOf) rfl rfl rfl (hK.2.2 _ n62) (hts _ (hm g60)) (by decide +kernel) ⟨Nat.le_of_ble_eq_true rfl, Nat.le_of_ble_eq_true rfl⟩), (hts _ (hm g303)), (hts _ (hm g15))⟩ (cq_preV (va_recv hK.1 hP (ci := 0) (q0 := 4) rfl rfl) (cq_preS hK hP hD [4, 5] (by decide) rfl)) rfl rfl hl.1 rfl (lv_room (Nat.le_of_ble_eq_true rfl)) dRp_tellError_45 ⟨by decide, by decide⟩) hP hD hS hA [4, 5] [0, 1, 2, 3] rfl rfl (by decide) (by decide) (fun r u H locs hw_13 hP hD hS => ?_)
          obtain ⟨o_14, rfl⟩ : ∃ z, z = u := ⟨_, rfl⟩
          try dsimp only at hw_13
          obtain ⟨rfl, rfl⟩ := hw_13
          have hP : va_P D clAll [(t_a, .inr (5, [.ref t_sorted_a, .ref t_kinds_a, .ref t_found_a, .int (iZ t_made)])), (t_sorted_a, .inl (cI, 40, .inl (aI t_sorted_f))), (t_kinds_a, .inl (cI, 40, .inl (aI t_kinds_f))), (t_found_a, .inl (cJ, 40, .inr (.inl (aL t_found_f)))), (bags_a, .inr (0, [.ref bags_homes_a, .ref bags_dates_a, .ref bags_lost_a, .ref bags_grams_a, .int (iZ bags_made)])), (bags_grams_a, .inl (cJ, 36, .inr (.inl (aL bags_grams_f))))] H := hP
          have hD : va_D A [(t_a, .inr (5, [.ref t_sorted_a, .ref t_kinds_a, .ref t_found_a, .int (iZ t_made)])), (t_sorted_a, .inl (cI, 40, .inl (aI t_sorted_f))), (t_kinds_a, .inl (cI, 40, .inl (aI t_kinds_f))), (t_found_a, .inl (cJ, 40, .inr (.inl (aL t_found_f)))), (bags_a, .inr (0, [.ref bags_homes_a, .ref bags_dates_a, .ref bags_lost_a, .ref bags_grams_a, .int (iZ bags_made)])), (bags_grams_a, .inl (cJ, 36, .inr (.inl (aL bags_grams_f))))] := hD
          refine z_lsub hx hb dRp_tellError_48 ?_
          refine lv_lstore (lv' := [(9, .long (lZ ((t_found_f i) - (bags_grams_f ((t_sorted_f i) * 3 + kind))))), (0, .ref t_a), (1, .ref bags_a), (2, .int (iZ kind)), (3, .int (iZ part)), (4, .long (lZ sq)), (6, .long (lZ tm)), (8, .int (iZ i))]) hx hb dRp_tellError_49 hl (by decide) rfl (fun ls hl => ?_)
          refine lv_lload hx hb dRp_tellError_51 (lv_at hl 5 rfl) ?_
          refine lv_lload hx hb dRp_tellError_53 (lv_at hl 0 rfl) ?_
          refine lv_lload hx hb dRp_tellError_55 (lv_at hl 0 rfl) ?_
          refine z_lmul hx hb dRp_tellError_57 ?_
          refine z_ladd hx hb dRp_tellError_58 ?_
          refine lv_lstore (lv' := [(4, .long (lZ (sq + (((t_found_f i) - (bags_grams_f ((t_sorted_f i) * 3 + kind))) * ((t_found_f i) - (bags_grams_f ((t_sorted_f i) * 3 + kind))))))), (9, .long (lZ ((t_found_f i) - (bags_grams_f ((t_sorted_f i) * 3 + kind))))), (0, .ref t_a), (1, .ref bags_a), (2, .int (iZ kind)), (3, .int (iZ part)), (6, .long (lZ tm)), (8, .int (iZ i))]) hx hb dRp_tellError_59 hl (by decide) rfl (fun ls hl => ?_)
          refine lv_lload hx hb dRp_tellError_61 (lv_at hl 6 rfl) ?_
          refine lv_lconst (v := lZ 1) hx hb dRp_tellError_63 (by decide) ?_
          refine z_ladd hx hb dRp_tellError_64 ?_
          refine lv_lstore (lv' := [(6, .long (lZ (tm + 1))), (4, .long (lZ (sq + (((t_found_f i) - (bags_grams_f ((t_sorted_f i) * 3 + kind))) * ((t_found_f i) - (bags_grams_f ((t_sorted_f i) * 3 + kind))))))), (9, .long (lZ ((t_found_f i) - (bags_grams_f ((t_sorted_f i) * 3 + kind))))), (0, .ref t_a), (1, .ref bags_a), (2, .int (iZ kind)), (3, .int (iZ part)), (8, .int (iZ i))]) hx hb dRp_tellError_65 hl (by decide) rfl (fun ls hl => ?_)
          refine lv_iinc (v := iZ (i + 1)) (lv' := [(8, .int (iZ (i + 1))), (6, .long (lZ (tm + 1))), (4, .long (lZ (sq + (((t_found_f i) - (bags_grams_f ((t_sorted_f i) * 3 + kind))) * ((t_found_f i) - (bags_grams_f ((t_sorted_f i) * 3 + kind))))))), (9, .long (lZ ((t_found_f i) - (bags_grams_f ((t_sorted_f i) * 3 + kind))))), (0, .ref t_a), (1, .ref bags_a), (2, .int (iZ kind)), (3, .int (iZ part))]) hx hb dRp_tellError_67 hl (k := 7) rfl (iZ_add i 1) (by decide) rfl (fun ls hl => ?_)
          refine lv_goto (tgt := 9) hx hb dRp_tellError_70 (by decide) ?_
          exact ih_2  (sq + (((t_found_f i) - (bags_grams_f ((t_sorted_f i) * 3 + kind))) * ((t_found_f i) - (bags_grams_f ((t_sorted_f i) * 3 + kind))))) (tm + 1) (i + 1) (by omega) (by omega) (by first | exact erq_1 hsq hi (by assumption) | exact erq_0 hsq hi (by assumption)) (by first | exact erc_1 htm hi (by assumption) | exact erc_0 htm hi (by assumption)) (by omega) _ _ (hP.sub [0, 1, 2, 3, 4, 5] rfl) (hD.sub [0, 1, 2, 3, 4, 5] (by decide) rfl) hS ls (lv_sub hl [4, 5, 6, 7, 2, 1, 0] rfl)
  exact loop_1 ((t_made - 0 : Int).toNat + 1) 0 0 0 (by omega) (by omega) (by rfl) (by rfl) (by omega) _ _ (hP.sub [0, 1, 2, 3, 4, 5] rfl) (hD.sub [0, 1, 2, 3, 4, 5] (by decide) rfl) hS ls (lv_sub hl [3, 4, 5, 6, 2, 1, 0] rfl)
