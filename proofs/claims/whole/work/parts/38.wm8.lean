set_option maxHeartbeats 4000000 in
set_option maxRecDepth 100000 in
theorem m_bagsOfYear (l : Launch) (D : va_G) (cI cJ cZ : ClassId) (t_a t_sizes_a t_costs_a t_gone_a t_drawn_a t_drawnCounts_a t_owners_a t_years_a t_missing_a t_grams_a t_planned_a t_againBag_a t_againKind_a t_againGrams_a t_trial_a : Nat) (sz : Nat) (t_seed : Int) (t_strata : Int) (t_bags : Int) (t_hasPlan : Int) (t_again : Int) (t_over : Int) (t_under : Int) (t_missing_f : Int → Int) (t_years_f : Int → Int) (y : Int) (h_y1 : -2147483648 ≤ y) (h_y2 : y < 2147483648) (hb1 : 0 ≤ t_bags) (hb2 : t_bags ≤ 12) (hlo : ∀ j, 0 ≤ t_missing_f j ∧ t_missing_f j ≤ 1) (hyr : ∀ j, 0 ≤ t_years_f j ∧ t_years_f j ≤ 1) : cq_i l yMd_bagsOfYear wsMd_bagsOfYear ({ frames := 0, cells := 0, slots := 0, locals := 0 }) D clAll [(cI, .int), (cJ, .long), (cZ, .boolean)] nwAll [.ref t_a, .int (iZ y)] [(t_a, .inr (9, [.long (lZ t_seed), .int (iZ t_strata), .ref t_sizes_a, .ref t_costs_a, .ref t_gone_a, .ref t_drawn_a, .ref t_drawnCounts_a, .int (iZ t_bags), .ref t_owners_a, .ref t_years_a, .ref t_missing_a, .ref t_grams_a, .int (iZ t_hasPlan), .ref t_planned_a, .int (iZ t_again), .ref t_againBag_a, .ref t_againKind_a, .ref t_againGrams_a, .long (lZ t_over), .long (lZ t_under), .ref t_trial_a])), (t_missing_a, .inl (cZ, 12, .inl (aI t_missing_f))), (t_years_a, .inl (cI, 12, .inl (aI t_years_f)))] sz (S := Int) (fun (r : Int32) (u : Int) => r = iZ u ∧ (u = cY t_missing_f t_years_f y t_bags)) (fun (u : Int) => [(t_a, .inr (9, [.long (lZ t_seed), .int (iZ t_strata), .ref t_sizes_a, .ref t_costs_a, .ref t_gone_a, .ref t_drawn_a, .ref t_drawnCounts_a, .int (iZ t_bags), .ref t_owners_a, .ref t_years_a, .ref t_missing_a, .ref t_grams_a, .int (iZ t_hasPlan), .ref t_planned_a, .int (iZ t_again), .ref t_againBag_a, .ref t_againKind_a, .ref t_againGrams_a, .long (lZ t_over), .long (lZ t_under), .ref t_trial_a])), (t_missing_a, .inl (cZ, 12, .inl (aI t_missing_f))), (t_years_a, .inl (cI, 12, .inl (aI t_years_f)))]) 0 0 := by
  refine cq_enter (cc := cMd_bagsOfYear) (maxL := 4) (ret := some .int) (by decide) rfl (Nat.le_of_ble_eq_true rfl) ?_
  intro p e s m below meth c A args Q H hAe hQ hsz hAt hA hP hK hD hS ls hl
  obtain ⟨hx, hb, hr, hml, hown, hts, hlocks, hin⟩ := hAt
  have hown : s.vm.findClass RMd = some m.cls := hown
  have hl : lv_has ls 4 [(0, .ref t_a), (1, .int (iZ y))] := hl
  refine lv_iconst (v := iZ 0) hx hb dMd_bagsOfYear_0 (by decide) ?_
  refine lv_istore_n (lv' := [(2, .int (iZ 0)), (0, .ref t_a), (1, .int (iZ y))]) hx hb dMd_bagsOfYear_1 rfl hl (by decide) rfl (fun ls hl => ?_)
  refine lv_iconst (v := iZ 0) hx hb dMd_bagsOfYear_2 (by decide) ?_
  refine lv_istore_n (lv' := [(3, .int (iZ 0)), (2, .int (iZ 0)), (0, .ref t_a), (1, .int (iZ y))]) hx hb dMd_bagsOfYear_3 rfl hl (by decide) rfl (fun ls hl => ?_)
  have loop_1 : ∀ (n_3 : Nat) (nu : Int) (i : Int), (0 ≤ i) → (i ≤ t_bags) → (nu = cY t_missing_f t_years_f y i) → (t_bags - i < (n_3 : Int)) → ∀ (H : Heap) (locs : List Loc), va_P D clAll [(t_a, .inr (9, [.long (lZ t_seed), .int (iZ t_strata), .ref t_sizes_a, .ref t_costs_a, .ref t_gone_a, .ref t_drawn_a, .ref t_drawnCounts_a, .int (iZ t_bags), .ref t_owners_a, .ref t_years_a, .ref t_missing_a, .ref t_grams_a, .int (iZ t_hasPlan), .ref t_planned_a, .int (iZ t_again), .ref t_againBag_a, .ref t_againKind_a, .ref t_againGrams_a, .long (lZ t_over), .long (lZ t_under), .ref t_trial_a])), (t_missing_a, .inl (cZ, 12, .inl (aI t_missing_f))), (t_years_a, .inl (cI, 12, .inl (aI t_years_f)))] H → va_D A [(t_a, .inr (9, [.long (lZ t_seed), .int (iZ t_strata), .ref t_sizes_a, .ref t_costs_a, .ref t_gone_a, .ref t_drawn_a, .ref t_drawnCounts_a, .int (iZ t_bags), .ref t_owners_a, .ref t_years_a, .ref t_missing_a, .ref t_grams_a, .int (iZ t_hasPlan), .ref t_planned_a, .int (iZ t_again), .ref t_againBag_a, .ref t_againKind_a, .ref t_againGrams_a, .long (lZ t_over), .long (lZ t_under), .ref t_trial_a])), (t_missing_a, .inl (cZ, 12, .inl (aI t_missing_f))), (t_years_a, .inl (cI, 12, .inl (aI t_years_f)))] → va_S A s.heap H locs → ∀ ls : Array Slot, lv_has ls 4 [(0, .ref t_a), (1, .int (iZ y)), (2, .int (iZ nu)), (3, .int (iZ i))] → W p l e { frames := 0, cells := 0, slots := 0, locals := 0 } s m args below meth c H locs 0 0 Q (F0 m 4 ls []) := by
    intro n_3
    induction n_3 with
    | zero => intro nu i hi hi2 hnu hm_4; exact absurd hm_4 (by omega)
    | succ n_3 ih_2 =>
      intro nu i hi hi2 hnu hm_4 H locs hP hD hS ls hl
      refine lv_iload_n hx hb dMd_bagsOfYear_4 rfl (lv_at hl 3 rfl) ?_
      refine lv_aload_n hx hb dMd_bagsOfYear_5 rfl (lv_at hl 0 rfl) ?_
      refine va_get (D := D) (ci := 9) (v := .int (iZ t_bags)) (C := RMd) (T := TMd) (N := 21) hx hb hts layMd hown hK.1 hP 0 rfl rfl 7 (by decide) (hts _ (hm g441)) (fun _ h9 => h9) rfl dMd_bagsOfYear_6 ?_
      refine z_icmp_ge (tgt := 45) hx hb (by omega) (by omega) (by omega) (by omega) dMd_bagsOfYear_9 (by decide) (fun c_5 => ?_) (fun c_5 => ?_)
      ·
        refine lv_iload_n hx hb dMd_bagsOfYear_45 rfl (lv_at hl 2 rfl) ?_
        exact cq_iret hx hb hr hlocks hAe hQ nu ⟨rfl, (by (try dsimp only) <;> (exact cY_e hnu (by omega)))⟩ (hP.sub [0, 1, 2] rfl) (hD.sub [0, 1, 2] (by decide) rfl) hS (by decide) (by decide) dMd_bagsOfYear_46
      ·
        refine lv_iload_n hx hb dMd_bagsOfYear_12 rfl (lv_at hl 2 rfl) ?_
        refine lv_aload_n hx hb dMd_bagsOfYear_13 rfl (lv_at hl 0 rfl) ?_
        refine va_get (D := D) (ci := 9) (v := .ref t_missing_a) (C := RMd) (T := TMd) (N := 21) hx hb hts layMd hown hK.1 hP 0 rfl rfl 10 (by decide) (hts _ (hm g444)) (fun _ h9 => h9) rfl dMd_bagsOfYear_14 ?_
        refine lv_iload_n hx hb dMd_bagsOfYear_17 rfl (lv_at hl 3 rfl) ?_
        refine z_zald hx hb hK hP 1 2 rfl rfl (by omega) (by omega) (by decide) dMd_bagsOfYear_18 ?_
        have f_6 := hlo i
        refine z_if_ne (tgt := 36) hx hb (by omega) (by omega) dMd_bagsOfYear_19 (by decide) (fun c_7 => ?_) (fun c_7 => ?_)
        ·
          refine lv_iconst (v := iZ 0) hx hb dMd_bagsOfYear_36 (by decide) ?_
          refine z_iadd hx hb dMd_bagsOfYear_37 ?_
          refine lv_istore_n (lv' := [(2, .int (iZ (nu + 0))), (0, .ref t_a), (1, .int (iZ y)), (3, .int (iZ i))]) hx hb dMd_bagsOfYear_38 rfl hl (by decide) rfl (fun ls hl => ?_)
          refine lv_iinc (v := iZ (i + 1)) (lv' := [(3, .int (iZ (i + 1))), (2, .int (iZ (nu + 0))), (0, .ref t_a), (1, .int (iZ y))]) hx hb dMd_bagsOfYear_39 hl (k := 3) rfl (iZ_add i 1) (by decide) rfl (fun ls hl => ?_)
          refine lv_goto (tgt := 4) hx hb dMd_bagsOfYear_42 (by decide) ?_
          exact ih_2  (nu + 0) (i + 1) (by omega) (by omega) (by first | exact cY_1 hnu hi (by assumption) (by assumption) | (rw [Int.add_zero]; exact cY_0 hnu hi (by first | exact Or.inl (by assumption) | exact Or.inr (by assumption)))) (by omega) _ _ (hP.sub [0, 1, 2] rfl) (hD.sub [0, 1, 2] (by decide) rfl) hS ls (lv_sub hl [2, 3, 1, 0] rfl)
        ·
          refine lv_aload_n hx hb dMd_bagsOfYear_22 rfl (lv_at hl 0 rfl) ?_
          refine va_get (D := D) (ci := 9) (v := .ref t_years_a) (C := RMd) (T := TMd) (N := 21) hx hb hts layMd hown hK.1 hP 0 rfl rfl 9 (by decide) (hts _ (hm g443)) (fun _ h9 => h9) rfl dMd_bagsOfYear_23 ?_
          refine lv_iload_n hx hb dMd_bagsOfYear_26 rfl (lv_at hl 3 rfl) ?_
          refine z_iald hx hb hK hP 2 0 rfl rfl (by omega) (by omega) (by decide) dMd_bagsOfYear_27 ?_
          have f_8 := hyr i
          refine lv_iload_n hx hb dMd_bagsOfYear_28 rfl (lv_at hl 1 rfl) ?_
          refine z_icmp_ne (tgt := 36) hx hb (by omega) (by omega) (by omega) (by omega) dMd_bagsOfYear_29 (by decide) (fun c_9 => ?_) (fun c_9 => ?_)
          ·
            refine lv_iconst (v := iZ 0) hx hb dMd_bagsOfYear_36 (by decide) ?_
            refine z_iadd hx hb dMd_bagsOfYear_37 ?_
            refine lv_istore_n (lv' := [(2, .int (iZ (nu + 0))), (0, .ref t_a), (1, .int (iZ y)), (3, .int (iZ i))]) hx hb dMd_bagsOfYear_38 rfl hl (by decide) rfl (fun ls hl => ?_)
            refine lv_iinc (v := iZ (i + 1)) (lv' := [(3, .int (iZ (i + 1))), (2, .int (iZ (nu + 0))), (0, .ref t_a), (1, .int (iZ y))]) hx hb dMd_bagsOfYear_39 hl (k := 3) rfl (iZ_add i 1) (by decide) rfl (fun ls hl => ?_)
            refine lv_goto (tgt := 4) hx hb dMd_bagsOfYear_42 (by decide) ?_
            exact ih_2  (nu + 0) (i + 1) (by omega) (by omega) (by first | exact cY_1 hnu hi (by assumption) (by assumption) | (rw [Int.add_zero]; exact cY_0 hnu hi (by first | exact Or.inl (by assumption) | exact Or.inr (by assumption)))) (by omega) _ _ (hP.sub [0, 1, 2] rfl) (hD.sub [0, 1, 2] (by decide) rfl) hS ls (lv_sub hl [2, 3, 1, 0] rfl)
          ·
            refine lv_iconst (v := iZ 1) hx hb dMd_bagsOfYear_32 (by decide) ?_
            refine lv_goto (tgt := 37) hx hb dMd_bagsOfYear_33 (by decide) ?_
            refine z_iadd hx hb dMd_bagsOfYear_37 ?_
            refine lv_istore_n (lv' := [(2, .int (iZ (nu + 1))), (0, .ref t_a), (1, .int (iZ y)), (3, .int (iZ i))]) hx hb dMd_bagsOfYear_38 rfl hl (by decide) rfl (fun ls hl => ?_)
            refine lv_iinc (v := iZ (i + 1)) (lv' := [(3, .int (iZ (i + 1))), (2, .int (iZ (nu + 1))), (0, .ref t_a), (1, .int (iZ y))]) hx hb dMd_bagsOfYear_39 hl (k := 3) rfl (iZ_add i 1) (by decide) rfl (fun ls hl => ?_)
            refine lv_goto (tgt := 4) hx hb dMd_bagsOfYear_42 (by decide) ?_
            exact ih_2  (nu + 1) (i + 1) (by omega) (by omega) (by first | exact cY_1 hnu hi (by assumption) (by assumption) | (rw [Int.add_zero]; exact cY_0 hnu hi (by first | exact Or.inl (by assumption) | exact Or.inr (by assumption)))) (by omega) _ _ (hP.sub [0, 1, 2] rfl) (hD.sub [0, 1, 2] (by decide) rfl) hS ls (lv_sub hl [2, 3, 1, 0] rfl)
  exact loop_1 ((t_bags - 0 : Int).toNat + 1) 0 0 (by omega) (by omega) (by rfl) (by omega) _ _ (hP.sub [0, 1, 2] rfl) (hD.sub [0, 1, 2] (by decide) rfl) hS ls (lv_sub hl [2, 3, 1, 0] rfl)
set_option maxHeartbeats 4000000 in
set_option maxRecDepth 100000 in
theorem m_apart (l : Launch) (D : va_G) (cI cJ cZ : ClassId) (t_a t_sizes_a t_costs_a t_gone_a t_drawn_a t_drawnCounts_a t_owners_a t_years_a t_missing_a t_grams_a t_planned_a t_againBag_a t_againKind_a t_againGrams_a t_trial_a : Nat) (sz : Nat) (t_seed : Int) (t_strata : Int) (t_bags : Int) (t_hasPlan : Int) (t_again : Int) (t_over : Int) (t_under : Int) (t_missing_f : Int → Int) (t_grams_f : Int → Int) (kind : Int) (w : Int) (f : Int) (s2 : Int) (h_kind1 : -2147483648 ≤ kind) (h_kind2 : kind < 2147483648) (h_w1 : -2147483648 ≤ w) (h_w2 : w < 2147483648) (h_f1 : -9223372036854775808 ≤ f) (h_f2 : f < 9223372036854775808) (h_s21 : -9223372036854775808 ≤ s2) (h_s22 : s2 < 9223372036854775808) (hb1 : 0 ≤ t_bags) (hb2 : t_bags ≤ 12) (hlo : ∀ j, 0 ≤ t_missing_f j ∧ t_missing_f j ≤ 1) (hgr : ∀ j, 0 ≤ t_grams_f j ∧ t_grams_f j ≤ 10000) (hk : 0 ≤ kind ∧ kind < 3) (hw : 0 ≤ w ∧ w < 4096) (hf : 0 ≤ f ∧ f ≤ 12) (hs : 0 ≤ s2 ∧ s2 ≤ 12) : cq_l l yMd_apart wsMd_apart ({ frames := 0, cells := 0, slots := 0, locals := 0 }) D clAll [(cI, .int), (cJ, .long), (cZ, .boolean)] nwAll [.ref t_a, .int (iZ kind), .int (iZ w), .long (lZ f), .long (lZ s2)] [(t_a, .inr (9, [.long (lZ t_seed), .int (iZ t_strata), .ref t_sizes_a, .ref t_costs_a, .ref t_gone_a, .ref t_drawn_a, .ref t_drawnCounts_a, .int (iZ t_bags), .ref t_owners_a, .ref t_years_a, .ref t_missing_a, .ref t_grams_a, .int (iZ t_hasPlan), .ref t_planned_a, .int (iZ t_again), .ref t_againBag_a, .ref t_againKind_a, .ref t_againGrams_a, .long (lZ t_over), .long (lZ t_under), .ref t_trial_a])), (t_missing_a, .inl (cZ, 12, .inl (aI t_missing_f))), (t_grams_a, .inl (cJ, 36, .inr (.inl (aL t_grams_f))))] sz (S := Int) (fun (r : Int64) (u : Int) => r = lZ u ∧ (u = ap2 (gx t_missing_f t_grams_f kind) w t_bags f s2)) (fun (u : Int) => [(t_a, .inr (9, [.long (lZ t_seed), .int (iZ t_strata), .ref t_sizes_a, .ref t_costs_a, .ref t_gone_a, .ref t_drawn_a, .ref t_drawnCounts_a, .int (iZ t_bags), .ref t_owners_a, .ref t_years_a, .ref t_missing_a, .ref t_grams_a, .int (iZ t_hasPlan), .ref t_planned_a, .int (iZ t_again), .ref t_againBag_a, .ref t_againKind_a, .ref t_againGrams_a, .long (lZ t_over), .long (lZ t_under), .ref t_trial_a])), (t_missing_a, .inl (cZ, 12, .inl (aI t_missing_f))), (t_grams_a, .inl (cJ, 36, .inr (.inl (aL t_grams_f))))]) 0 0 := by
  refine cq_enter (cc := cMd_apart) (maxL := 15) (ret := some .long) (by decide) rfl (Nat.le_of_ble_eq_true rfl) ?_
  intro p e s m below meth c A args Q H hAe hQ hsz hAt hA hP hK hD hS ls hl
  obtain ⟨hx, hb, hr, hml, hown, hts, hlocks, hin⟩ := hAt
  have hown : s.vm.findClass RMd = some m.cls := hown
  have hl : lv_has ls 15 [(0, .ref t_a), (1, .int (iZ kind)), (2, .int (iZ w)), (3, .long (lZ f)), (5, .long (lZ s2))] := hl
  refine lv_lconst (v := lZ 0) hx hb dMd_apart_0 (by decide) ?_
  refine lv_lstore (lv' := [(7, .long (lZ 0)), (0, .ref t_a), (1, .int (iZ kind)), (2, .int (iZ w)), (3, .long (lZ f)), (5, .long (lZ s2))]) hx hb dMd_apart_1 hl (by decide) rfl (fun ls hl => ?_)
  refine lv_lconst (v := lZ 0) hx hb dMd_apart_3 (by decide) ?_
  refine lv_lstore (lv' := [(9, .long (lZ 0)), (7, .long (lZ 0)), (0, .ref t_a), (1, .int (iZ kind)), (2, .int (iZ w)), (3, .long (lZ f)), (5, .long (lZ s2))]) hx hb dMd_apart_4 hl (by decide) rfl (fun ls hl => ?_)
  refine lv_iconst (v := iZ 0) hx hb dMd_apart_6 (by decide) ?_
  refine lv_istore (lv' := [(11, .int (iZ 0)), (9, .long (lZ 0)), (7, .long (lZ 0)), (0, .ref t_a), (1, .int (iZ kind)), (2, .int (iZ w)), (3, .long (lZ f)), (5, .long (lZ s2))]) hx hb dMd_apart_7 hl (by decide) rfl (fun ls hl => ?_)
  have loop_1 : ∀ (n_3 : Nat) (sm : Int) (ot : Int) (i : Int), (0 ≤ i) → (i ≤ t_bags) → (sm = s1 (gx t_missing_f t_grams_f kind) w i) → (ot = s0 (gx t_missing_f t_grams_f kind) w i) → (t_bags - i < (n_3 : Int)) → ∀ (H : Heap) (locs : List Loc), va_P D clAll [(t_a, .inr (9, [.long (lZ t_seed), .int (iZ t_strata), .ref t_sizes_a, .ref t_costs_a, .ref t_gone_a, .ref t_drawn_a, .ref t_drawnCounts_a, .int (iZ t_bags), .ref t_owners_a, .ref t_years_a, .ref t_missing_a, .ref t_grams_a, .int (iZ t_hasPlan), .ref t_planned_a, .int (iZ t_again), .ref t_againBag_a, .ref t_againKind_a, .ref t_againGrams_a, .long (lZ t_over), .long (lZ t_under), .ref t_trial_a])), (t_missing_a, .inl (cZ, 12, .inl (aI t_missing_f))), (t_grams_a, .inl (cJ, 36, .inr (.inl (aL t_grams_f))))] H → va_D A [(t_a, .inr (9, [.long (lZ t_seed), .int (iZ t_strata), .ref t_sizes_a, .ref t_costs_a, .ref t_gone_a, .ref t_drawn_a, .ref t_drawnCounts_a, .int (iZ t_bags), .ref t_owners_a, .ref t_years_a, .ref t_missing_a, .ref t_grams_a, .int (iZ t_hasPlan), .ref t_planned_a, .int (iZ t_again), .ref t_againBag_a, .ref t_againKind_a, .ref t_againGrams_a, .long (lZ t_over), .long (lZ t_under), .ref t_trial_a])), (t_missing_a, .inl (cZ, 12, .inl (aI t_missing_f))), (t_grams_a, .inl (cJ, 36, .inr (.inl (aL t_grams_f))))] → va_S A s.heap H locs → ∀ ls : Array Slot, lv_has ls 15 [(0, .ref t_a), (1, .int (iZ kind)), (2, .int (iZ w)), (3, .long (lZ f)), (5, .long (lZ s2)), (7, .long (lZ sm)), (9, .long (lZ ot)), (11, .int (iZ i))] → W p l e { frames := 0, cells := 0, slots := 0, locals := 0 } s m args below meth c H locs 0 0 Q (F0 m 9 ls []) := by
    intro n_3
    induction n_3 with
    | zero => intro sm ot i hi hi2 hsm hot hm_4; exact absurd hm_4 (by omega)
    | succ n_3 ih_2 =>
      intro sm ot i hi hi2 hsm hot hm_4 H locs hP hD hS ls hl
      refine lv_iload hx hb dMd_apart_9 (lv_at hl 7 rfl) ?_
      refine lv_aload_n hx hb dMd_apart_11 rfl (lv_at hl 0 rfl) ?_
      refine va_get (D := D) (ci := 9) (v := .int (iZ t_bags)) (C := RMd) (T := TMd) (N := 21) hx hb hts layMd hown hK.1 hP 0 rfl rfl 7 (by decide) (hts _ (hm g441)) (fun _ h9 => h9) rfl dMd_apart_12 ?_
      refine z_icmp_ge (tgt := 100) hx hb (by omega) (by omega) (by omega) (by omega) dMd_apart_15 (by decide) (fun c_5 => ?_) (fun c_5 => ?_)
      ·
        have hd := d_bd (hsm ▸ s1_b (w := w) (g := (gx t_missing_f t_grams_f kind)) (show 0 ≤ i ∧ i ≤ 12 by omega) (gx_b hgr)) (hot ▸ s0_b (w := w) (g := (gx t_missing_f t_grams_f kind)) (show 0 ≤ i ∧ i ≤ 12 by omega) (gx_b hgr)) hs hf
        refine lv_lload hx hb dMd_apart_100 (lv_at hl 5 rfl) ?_
        refine lv_lload hx hb dMd_apart_102 (lv_at hl 4 rfl) ?_
        refine z_lmul hx hb dMd_apart_104 ?_
        refine lv_lload hx hb dMd_apart_105 (lv_at hl 6 rfl) ?_
        refine lv_lload_n hx hb dMd_apart_107 rfl (lv_at hl 3 rfl) ?_
        refine z_lmul hx hb dMd_apart_108 ?_
        refine z_lsub hx hb dMd_apart_109 ?_
        refine lv_lstore (lv' := [(11, .long (lZ ((sm * s2) - (ot * f)))), (0, .ref t_a), (1, .int (iZ kind)), (2, .int (iZ w)), (3, .long (lZ f)), (5, .long (lZ s2)), (7, .long (lZ sm)), (9, .long (lZ ot))]) hx hb dMd_apart_110 hl (by decide) rfl (fun ls hl => ?_)
        refine lv_lload hx hb dMd_apart_112 (lv_at hl 0 rfl) ?_
        refine lv_lconst (v := lZ 0) hx hb dMd_apart_114 (by decide) ?_
        refine z_lcmp_ge (tgt := 125) hx hb (by omega) (by omega) (by omega) (by omega) dMd_apart_115 dMd_apart_116 (by decide) (fun c_6 => ?_) (fun c_6 => ?_)
        ·
          refine lv_lload hx hb dMd_apart_125 (lv_at hl 0 rfl) ?_
          exact cq_lret hx hb hr hlocks hAe hQ ((sm * s2) - (ot * f)) ⟨rfl, (by (try dsimp only) <;> (first | exact ap2_n hsm hot (by omega) (by assumption) | exact ap2_p hsm hot (by omega) (by assumption)))⟩ (hP.sub [0, 1, 2] rfl) (hD.sub [0, 1, 2] (by decide) rfl) hS (by decide) (by decide) dMd_apart_127
        ·
          refine lv_lload hx hb dMd_apart_119 (lv_at hl 0 rfl) ?_
          refine lv_lneg hx hb dMd_apart_121 ?_
          refine cq_tl (lZ_neg ((sm * s2) - (ot * f))) ?_
          refine lv_goto (tgt := 127) hx hb dMd_apart_122 (by decide) ?_
          exact cq_lret hx hb hr hlocks hAe hQ (-((sm * s2) - (ot * f))) ⟨rfl, (by (try dsimp only) <;> (first | exact ap2_n hsm hot (by omega) (by assumption) | exact ap2_p hsm hot (by omega) (by assumption)))⟩ (hP.sub [0, 1, 2] rfl) (hD.sub [0, 1, 2] (by decide) rfl) hS (by decide) (by decide) dMd_apart_127
      ·
        refine lv_iload_n hx hb dMd_apart_18 rfl (lv_at hl 2 rfl) ?_
        refine lv_iload hx hb dMd_apart_19 (lv_at hl 7 rfl) ?_
        refine lv_ishr hx hb dMd_apart_21 ?_
        refine lv_iconst (v := iZ 1) hx hb dMd_apart_22 (by decide) ?_
        refine lv_iand hx hb dMd_apart_23 ?_
        refine cq_ti (sh_bit hw.1 hw.2 hi (by omega)) ?_
        have hbb := bi_b w i
        refine lv_iconst (v := iZ 1) hx hb dMd_apart_24 (by decide) ?_
        refine z_icmp_ne (tgt := 32) hx hb (by omega) (by omega) (by omega) (by omega) dMd_apart_25 (by decide) (fun c_7 => ?_) (fun c_7 => ?_)
        ·
          refine lv_iconst (v := iZ 0) hx hb dMd_apart_32 (by decide) ?_
          refine lv_istore (lv' := [(12, .int (iZ 0)), (0, .ref t_a), (1, .int (iZ kind)), (2, .int (iZ w)), (3, .long (lZ f)), (5, .long (lZ s2)), (7, .long (lZ sm)), (9, .long (lZ ot)), (11, .int (iZ i))]) hx hb dMd_apart_33 hl (by decide) rfl (fun ls hl => ?_)
          refine lv_aload_n hx hb dMd_apart_35 rfl (lv_at hl 1 rfl) ?_
          refine va_get (D := D) (ci := 9) (v := .ref t_missing_a) (C := RMd) (T := TMd) (N := 21) hx hb hts layMd hown hK.1 hP 0 rfl rfl 10 (by decide) (hts _ (hm g444)) (fun _ h9 => h9) rfl dMd_apart_36 ?_
          refine lv_iload hx hb dMd_apart_39 (lv_at hl 8 rfl) ?_
          refine z_zald hx hb hK hP 1 2 rfl rfl (by omega) (by omega) (by decide) dMd_apart_41 ?_
          have f_8 := hlo i
          refine z_if_eq (tgt := 49) hx hb (by omega) (by omega) dMd_apart_42 (by decide) (fun c_9 => ?_) (fun c_9 => ?_)
          ·
            refine lv_aload_n hx hb dMd_apart_49 rfl (lv_at hl 1 rfl) ?_
            refine va_get (D := D) (ci := 9) (v := .ref t_grams_a) (C := RMd) (T := TMd) (N := 21) hx hb hts layMd hown hK.1 hP 0 rfl rfl 11 (by decide) (hts _ (hm g445)) (fun _ h9 => h9) rfl dMd_apart_50 ?_
            refine lv_iconst (v := iZ 3) hx hb dMd_apart_53 (by decide) ?_
            refine lv_iload hx hb dMd_apart_54 (lv_at hl 8 rfl) ?_
            refine z_imul hx hb dMd_apart_56 ?_
            refine cq_ti (congrArg iZ (Int.mul_comm _ _)) ?_
            refine lv_iload_n hx hb dMd_apart_57 rfl (lv_at hl 2 rfl) ?_
            refine z_iadd hx hb dMd_apart_58 ?_
            refine z_lald hx hb hK hP 2 1 rfl rfl (by omega) (by omega) (by decide) dMd_apart_59 ?_
            have f_10 := hgr ((i * 3) + kind)
            refine lv_lstore (lv' := [(13, .long (lZ (t_grams_f ((i * 3) + kind)))), (12, .int (iZ 0)), (0, .ref t_a), (1, .int (iZ kind)), (2, .int (iZ w)), (3, .long (lZ f)), (5, .long (lZ s2)), (7, .long (lZ sm)), (9, .long (lZ ot)), (11, .int (iZ i))]) hx hb dMd_apart_60 hl (by decide) rfl (fun ls hl => ?_)
            refine lv_lload hx hb dMd_apart_62 (lv_at hl 7 rfl) ?_
            refine lv_iload hx hb dMd_apart_64 (lv_at hl 1 rfl) ?_
            refine z_if_eq (tgt := 74) hx hb (by decide) (by decide) dMd_apart_66 (by decide) (fun c_11 => ?_) (fun c_11 => absurd c_11 (by decide))
            refine lv_lconst (v := lZ 0) hx hb dMd_apart_74 (by decide) ?_
            refine z_ladd hx hb dMd_apart_75 ?_
            refine lv_lstore (lv' := [(7, .long (lZ (sm + 0))), (13, .long (lZ (t_grams_f ((i * 3) + kind)))), (12, .int (iZ 0)), (0, .ref t_a), (1, .int (iZ kind)), (2, .int (iZ w)), (3, .long (lZ f)), (5, .long (lZ s2)), (9, .long (lZ ot)), (11, .int (iZ i))]) hx hb dMd_apart_76 hl (by decide) rfl (fun ls hl => ?_)
            refine lv_lload hx hb dMd_apart_78 (lv_at hl 8 rfl) ?_
            refine lv_iload hx hb dMd_apart_80 (lv_at hl 2 rfl) ?_
            refine z_if_eq (tgt := 89) hx hb (by decide) (by decide) dMd_apart_82 (by decide) (fun c_12 => ?_) (fun c_12 => absurd c_12 (by decide))
            refine lv_lload hx hb dMd_apart_89 (lv_at hl 1 rfl) ?_
            refine z_ladd hx hb dMd_apart_91 ?_
            refine lv_lstore (lv' := [(9, .long (lZ (ot + (t_grams_f ((i * 3) + kind))))), (7, .long (lZ (sm + 0))), (13, .long (lZ (t_grams_f ((i * 3) + kind)))), (12, .int (iZ 0)), (0, .ref t_a), (1, .int (iZ kind)), (2, .int (iZ w)), (3, .long (lZ f)), (5, .long (lZ s2)), (11, .int (iZ i))]) hx hb dMd_apart_92 hl (by decide) rfl (fun ls hl => ?_)
            refine lv_iinc (v := iZ (i + 1)) (lv' := [(11, .int (iZ (i + 1))), (9, .long (lZ (ot + (t_grams_f ((i * 3) + kind))))), (7, .long (lZ (sm + 0))), (13, .long (lZ (t_grams_f ((i * 3) + kind)))), (12, .int (iZ 0)), (0, .ref t_a), (1, .int (iZ kind)), (2, .int (iZ w)), (3, .long (lZ f)), (5, .long (lZ s2))]) hx hb dMd_apart_94 hl (k := 9) rfl (iZ_add i 1) (by decide) rfl (fun ls hl => ?_)
            refine lv_goto (tgt := 9) hx hb dMd_apart_97 (by decide) ?_
            exact ih_2  (sm + 0) (ot + (t_grams_f ((i * 3) + kind))) (i + 1) (by omega) (by omega) (by first | exact s1_y hsm hi (by assumption) (by first | exact gx_y (by assumption) | exact gx_n (by assumption)) | exact s1_n hsm hi (by assumption)) (by first | exact s0_n hot hi (by assumption) | exact s0_y hot hi (by assumption) (by first | exact gx_y (by assumption) | exact gx_n (by assumption))) (by omega) _ _ (hP.sub [0, 1, 2] rfl) (hD.sub [0, 1, 2] (by decide) rfl) hS ls (lv_sub hl [5, 6, 7, 8, 9, 2, 1, 0] rfl)
          ·
            refine lv_lconst (v := lZ 0) hx hb dMd_apart_45 (by decide) ?_
            refine lv_goto (tgt := 60) hx hb dMd_apart_46 (by decide) ?_
            refine lv_lstore (lv' := [(13, .long (lZ 0)), (12, .int (iZ 0)), (0, .ref t_a), (1, .int (iZ kind)), (2, .int (iZ w)), (3, .long (lZ f)), (5, .long (lZ s2)), (7, .long (lZ sm)), (9, .long (lZ ot)), (11, .int (iZ i))]) hx hb dMd_apart_60 hl (by decide) rfl (fun ls hl => ?_)
            refine lv_lload hx hb dMd_apart_62 (lv_at hl 7 rfl) ?_
            refine lv_iload hx hb dMd_apart_64 (lv_at hl 1 rfl) ?_
            refine z_if_eq (tgt := 74) hx hb (by decide) (by decide) dMd_apart_66 (by decide) (fun c_13 => ?_) (fun c_13 => absurd c_13 (by decide))
            refine lv_lconst (v := lZ 0) hx hb dMd_apart_74 (by decide) ?_
            refine z_ladd hx hb dMd_apart_75 ?_
            refine lv_lstore (lv' := [(7, .long (lZ (sm + 0))), (13, .long (lZ 0)), (12, .int (iZ 0)), (0, .ref t_a), (1, .int (iZ kind)), (2, .int (iZ w)), (3, .long (lZ f)), (5, .long (lZ s2)), (9, .long (lZ ot)), (11, .int (iZ i))]) hx hb dMd_apart_76 hl (by decide) rfl (fun ls hl => ?_)
            refine lv_lload hx hb dMd_apart_78 (lv_at hl 8 rfl) ?_
            refine lv_iload hx hb dMd_apart_80 (lv_at hl 2 rfl) ?_
            refine z_if_eq (tgt := 89) hx hb (by decide) (by decide) dMd_apart_82 (by decide) (fun c_14 => ?_) (fun c_14 => absurd c_14 (by decide))
            refine lv_lload hx hb dMd_apart_89 (lv_at hl 1 rfl) ?_
            refine z_ladd hx hb dMd_apart_91 ?_
            refine lv_lstore (lv' := [(9, .long (lZ (ot + 0))), (7, .long (lZ (sm + 0))), (13, .long (lZ 0)), (12, .int (iZ 0)), (0, .ref t_a), (1, .int (iZ kind)), (2, .int (iZ w)), (3, .long (lZ f)), (5, .long (lZ s2)), (11, .int (iZ i))]) hx hb dMd_apart_92 hl (by decide) rfl (fun ls hl => ?_)
            refine lv_iinc (v := iZ (i + 1)) (lv' := [(11, .int (iZ (i + 1))), (9, .long (lZ (ot + 0))), (7, .long (lZ (sm + 0))), (13, .long (lZ 0)), (12, .int (iZ 0)), (0, .ref t_a), (1, .int (iZ kind)), (2, .int (iZ w)), (3, .long (lZ f)), (5, .long (lZ s2))]) hx hb dMd_apart_94 hl (k := 9) rfl (iZ_add i 1) (by decide) rfl (fun ls hl => ?_)
            refine lv_goto (tgt := 9) hx hb dMd_apart_97 (by decide) ?_
            exact ih_2  (sm + 0) (ot + 0) (i + 1) (by omega) (by omega) (by first | exact s1_y hsm hi (by assumption) (by first | exact gx_y (by assumption) | exact gx_n (by assumption)) | exact s1_n hsm hi (by assumption)) (by first | exact s0_n hot hi (by assumption) | exact s0_y hot hi (by assumption) (by first | exact gx_y (by assumption) | exact gx_n (by assumption))) (by omega) _ _ (hP.sub [0, 1, 2] rfl) (hD.sub [0, 1, 2] (by decide) rfl) hS ls (lv_sub hl [5, 6, 7, 8, 9, 2, 1, 0] rfl)
        ·
          refine lv_iconst (v := iZ 1) hx hb dMd_apart_28 (by decide) ?_
          refine lv_goto (tgt := 33) hx hb dMd_apart_29 (by decide) ?_
          refine lv_istore (lv' := [(12, .int (iZ 1)), (0, .ref t_a), (1, .int (iZ kind)), (2, .int (iZ w)), (3, .long (lZ f)), (5, .long (lZ s2)), (7, .long (lZ sm)), (9, .long (lZ ot)), (11, .int (iZ i))]) hx hb dMd_apart_33 hl (by decide) rfl (fun ls hl => ?_)
          refine lv_aload_n hx hb dMd_apart_35 rfl (lv_at hl 1 rfl) ?_
          refine va_get (D := D) (ci := 9) (v := .ref t_missing_a) (C := RMd) (T := TMd) (N := 21) hx hb hts layMd hown hK.1 hP 0 rfl rfl 10 (by decide) (hts _ (hm g444)) (fun _ h9 => h9) rfl dMd_apart_36 ?_
          refine lv_iload hx hb dMd_apart_39 (lv_at hl 8 rfl) ?_
          refine z_zald hx hb hK hP 1 2 rfl rfl (by omega) (by omega) (by decide) dMd_apart_41 ?_
          have f_15 := hlo i
          refine z_if_eq (tgt := 49) hx hb (by omega) (by omega) dMd_apart_42 (by decide) (fun c_16 => ?_) (fun c_16 => ?_)
          ·
            refine lv_aload_n hx hb dMd_apart_49 rfl (lv_at hl 1 rfl) ?_
            refine va_get (D := D) (ci := 9) (v := .ref t_grams_a) (C := RMd) (T := TMd) (N := 21) hx hb hts layMd hown hK.1 hP 0 rfl rfl 11 (by decide) (hts _ (hm g445)) (fun _ h9 => h9) rfl dMd_apart_50 ?_
            refine lv_iconst (v := iZ 3) hx hb dMd_apart_53 (by decide) ?_
            refine lv_iload hx hb dMd_apart_54 (lv_at hl 8 rfl) ?_
            refine z_imul hx hb dMd_apart_56 ?_
            refine cq_ti (congrArg iZ (Int.mul_comm _ _)) ?_
            refine lv_iload_n hx hb dMd_apart_57 rfl (lv_at hl 2 rfl) ?_
            refine z_iadd hx hb dMd_apart_58 ?_
            refine z_lald hx hb hK hP 2 1 rfl rfl (by omega) (by omega) (by decide) dMd_apart_59 ?_
            have f_17 := hgr ((i * 3) + kind)
            refine lv_lstore (lv' := [(13, .long (lZ (t_grams_f ((i * 3) + kind)))), (12, .int (iZ 1)), (0, .ref t_a), (1, .int (iZ kind)), (2, .int (iZ w)), (3, .long (lZ f)), (5, .long (lZ s2)), (7, .long (lZ sm)), (9, .long (lZ ot)), (11, .int (iZ i))]) hx hb dMd_apart_60 hl (by decide) rfl (fun ls hl => ?_)
            refine lv_lload hx hb dMd_apart_62 (lv_at hl 7 rfl) ?_
            refine lv_iload hx hb dMd_apart_64 (lv_at hl 1 rfl) ?_
            refine z_if_eq (tgt := 74) hx hb (by decide) (by decide) dMd_apart_66 (by decide) (fun c_18 => absurd c_18 (by decide)) (fun c_18 => ?_)
            refine lv_lload hx hb dMd_apart_69 (lv_at hl 0 rfl) ?_
            refine lv_goto (tgt := 75) hx hb dMd_apart_71 (by decide) ?_
            refine z_ladd hx hb dMd_apart_75 ?_
            refine lv_lstore (lv' := [(7, .long (lZ (sm + (t_grams_f ((i * 3) + kind))))), (13, .long (lZ (t_grams_f ((i * 3) + kind)))), (12, .int (iZ 1)), (0, .ref t_a), (1, .int (iZ kind)), (2, .int (iZ w)), (3, .long (lZ f)), (5, .long (lZ s2)), (9, .long (lZ ot)), (11, .int (iZ i))]) hx hb dMd_apart_76 hl (by decide) rfl (fun ls hl => ?_)
            refine lv_lload hx hb dMd_apart_78 (lv_at hl 8 rfl) ?_
            refine lv_iload hx hb dMd_apart_80 (lv_at hl 2 rfl) ?_
            refine z_if_eq (tgt := 89) hx hb (by decide) (by decide) dMd_apart_82 (by decide) (fun c_19 => absurd c_19 (by decide)) (fun c_19 => ?_)
            refine lv_lconst (v := lZ 0) hx hb dMd_apart_85 (by decide) ?_
            refine lv_goto (tgt := 91) hx hb dMd_apart_86 (by decide) ?_
            refine z_ladd hx hb dMd_apart_91 ?_
            refine lv_lstore (lv' := [(9, .long (lZ (ot + 0))), (7, .long (lZ (sm + (t_grams_f ((i * 3) + kind))))), (13, .long (lZ (t_grams_f ((i * 3) + kind)))), (12, .int (iZ 1)), (0, .ref t_a), (1, .int (iZ kind)), (2, .int (iZ w)), (3, .long (lZ f)), (5, .long (lZ s2)), (11, .int (iZ i))]) hx hb dMd_apart_92 hl (by decide) rfl (fun ls hl => ?_)
            refine lv_iinc (v := iZ (i + 1)) (lv' := [(11, .int (iZ (i + 1))), (9, .long (lZ (ot + 0))), (7, .long (lZ (sm + (t_grams_f ((i * 3) + kind))))), (13, .long (lZ (t_grams_f ((i * 3) + kind)))), (12, .int (iZ 1)), (0, .ref t_a), (1, .int (iZ kind)), (2, .int (iZ w)), (3, .long (lZ f)), (5, .long (lZ s2))]) hx hb dMd_apart_94 hl (k := 9) rfl (iZ_add i 1) (by decide) rfl (fun ls hl => ?_)
            refine lv_goto (tgt := 9) hx hb dMd_apart_97 (by decide) ?_
            exact ih_2  (sm + (t_grams_f ((i * 3) + kind))) (ot + 0) (i + 1) (by omega) (by omega) (by first | exact s1_y hsm hi (by assumption) (by first | exact gx_y (by assumption) | exact gx_n (by assumption)) | exact s1_n hsm hi (by assumption)) (by first | exact s0_n hot hi (by assumption) | exact s0_y hot hi (by assumption) (by first | exact gx_y (by assumption) | exact gx_n (by assumption))) (by omega) _ _ (hP.sub [0, 1, 2] rfl) (hD.sub [0, 1, 2] (by decide) rfl) hS ls (lv_sub hl [5, 6, 7, 8, 9, 2, 1, 0] rfl)
          ·
            refine lv_lconst (v := lZ 0) hx hb dMd_apart_45 (by decide) ?_
            refine lv_goto (tgt := 60) hx hb dMd_apart_46 (by decide) ?_
            refine lv_lstore (lv' := [(13, .long (lZ 0)), (12, .int (iZ 1)), (0, .ref t_a), (1, .int (iZ kind)), (2, .int (iZ w)), (3, .long (lZ f)), (5, .long (lZ s2)), (7, .long (lZ sm)), (9, .long (lZ ot)), (11, .int (iZ i))]) hx hb dMd_apart_60 hl (by decide) rfl (fun ls hl => ?_)
            refine lv_lload hx hb dMd_apart_62 (lv_at hl 7 rfl) ?_
            refine lv_iload hx hb dMd_apart_64 (lv_at hl 1 rfl) ?_
            refine z_if_eq (tgt := 74) hx hb (by decide) (by decide) dMd_apart_66 (by decide) (fun c_20 => absurd c_20 (by decide)) (fun c_20 => ?_)
            refine lv_lload hx hb dMd_apart_69 (lv_at hl 0 rfl) ?_
            refine lv_goto (tgt := 75) hx hb dMd_apart_71 (by decide) ?_
            refine z_ladd hx hb dMd_apart_75 ?_
            refine lv_lstore (lv' := [(7, .long (lZ (sm + 0))), (13, .long (lZ 0)), (12, .int (iZ 1)), (0, .ref t_a), (1, .int (iZ kind)), (2, .int (iZ w)), (3, .long (lZ f)), (5, .long (lZ s2)), (9, .long (lZ ot)), (11, .int (iZ i))]) hx hb dMd_apart_76 hl (by decide) rfl (fun ls hl => ?_)
            refine lv_lload hx hb dMd_apart_78 (lv_at hl 8 rfl) ?_
            refine lv_iload hx hb dMd_apart_80 (lv_at hl 2 rfl) ?_
            refine z_if_eq (tgt := 89) hx hb (by decide) (by decide) dMd_apart_82 (by decide) (fun c_21 => absurd c_21 (by decide)) (fun c_21 => ?_)
            refine lv_lconst (v := lZ 0) hx hb dMd_apart_85 (by decide) ?_
            refine lv_goto (tgt := 91) hx hb dMd_apart_86 (by decide) ?_
            refine z_ladd hx hb dMd_apart_91 ?_
            refine lv_lstore (lv' := [(9, .long (lZ (ot + 0))), (7, .long (lZ (sm + 0))), (13, .long (lZ 0)), (12, .int (iZ 1)), (0, .ref t_a), (1, .int (iZ kind)), (2, .int (iZ w)), (3, .long (lZ f)), (5, .long (lZ s2)), (11, .int (iZ i))]) hx hb dMd_apart_92 hl (by decide) rfl (fun ls hl => ?_)
            refine lv_iinc (v := iZ (i + 1)) (lv' := [(11, .int (iZ (i + 1))), (9, .long (lZ (ot + 0))), (7, .long (lZ (sm + 0))), (13, .long (lZ 0)), (12, .int (iZ 1)), (0, .ref t_a), (1, .int (iZ kind)), (2, .int (iZ w)), (3, .long (lZ f)), (5, .long (lZ s2))]) hx hb dMd_apart_94 hl (k := 9) rfl (iZ_add i 1) (by decide) rfl (fun ls hl => ?_)
            refine lv_goto (tgt := 9) hx hb dMd_apart_97 (by decide) ?_
            exact ih_2  (sm + 0) (ot + 0) (i + 1) (by omega) (by omega) (by first | exact s1_y hsm hi (by assumption) (by first | exact gx_y (by assumption) | exact gx_n (by assumption)) | exact s1_n hsm hi (by assumption)) (by first | exact s0_n hot hi (by assumption) | exact s0_y hot hi (by assumption) (by first | exact gx_y (by assumption) | exact gx_n (by assumption))) (by omega) _ _ (hP.sub [0, 1, 2] rfl) (hD.sub [0, 1, 2] (by decide) rfl) hS ls (lv_sub hl [5, 6, 7, 8, 9, 2, 1, 0] rfl)
  exact loop_1 ((t_bags - 0 : Int).toNat + 1) 0 0 0 (by omega) (by omega) (by rfl) (by rfl) (by omega) _ _ (hP.sub [0, 1, 2] rfl) (hD.sub [0, 1, 2] (by decide) rfl) hS ls (lv_sub hl [3, 4, 5, 6, 7, 2, 1, 0] rfl)
