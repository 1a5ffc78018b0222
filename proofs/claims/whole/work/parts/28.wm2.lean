set_option maxHeartbeats 4000000 in
set_option maxRecDepth 100000 in
theorem m_countOf (l : Launch) (D : va_G) (cI cJ cZ : ClassId) (t_a t_sizes_a t_costs_a t_gone_a t_drawn_a t_drawnCounts_a t_owners_a t_years_a t_missing_a t_grams_a t_planned_a t_againBag_a t_againKind_a t_againGrams_a t_trial_a : Nat) (sz : Nat) (t_seed : Int) (t_strata : Int) (t_bags : Int) (t_hasPlan : Int) (t_again : Int) (t_over : Int) (t_under : Int) (t_owners_f : Int → Int) (t_missing_f : Int → Int) (z : Int) (h_z1 : -2147483648 ≤ z) (h_z2 : z < 2147483648) (hb1 : 0 ≤ t_bags) (hb2 : t_bags ≤ 12) (hho : ∀ j, 0 ≤ t_owners_f j ∧ t_owners_f j ≤ 3) (hlo : ∀ j, 0 ≤ t_missing_f j ∧ t_missing_f j ≤ 1) : cq_i l yMd_countOf wsMd_countOf ({ frames := 0, cells := 0, slots := 0, locals := 0 }) D clAll [(cI, .int), (cJ, .long), (cZ, .boolean)] nwAll [.ref t_a, .int (iZ z)] [(t_a, .inr (9, [.long (lZ t_seed), .int (iZ t_strata), .ref t_sizes_a, .ref t_costs_a, .ref t_gone_a, .ref t_drawn_a, .ref t_drawnCounts_a, .int (iZ t_bags), .ref t_owners_a, .ref t_years_a, .ref t_missing_a, .ref t_grams_a, .int (iZ t_hasPlan), .ref t_planned_a, .int (iZ t_again), .ref t_againBag_a, .ref t_againKind_a, .ref t_againGrams_a, .long (lZ t_over), .long (lZ t_under), .ref t_trial_a])), (t_owners_a, .inl (cI, 12, .inl (aI t_owners_f))), (t_missing_a, .inl (cZ, 12, .inl (aI t_missing_f)))] sz (S := Int) (fun (r : Int32) (u : Int) => r = iZ u ∧ (u = NBf t_owners_f t_missing_f t_bags z)) (fun (u : Int) => [(t_a, .inr (9, [.long (lZ t_seed), .int (iZ t_strata), .ref t_sizes_a, .ref t_costs_a, .ref t_gone_a, .ref t_drawn_a, .ref t_drawnCounts_a, .int (iZ t_bags), .ref t_owners_a, .ref t_years_a, .ref t_missing_a, .ref t_grams_a, .int (iZ t_hasPlan), .ref t_planned_a, .int (iZ t_again), .ref t_againBag_a, .ref t_againKind_a, .ref t_againGrams_a, .long (lZ t_over), .long (lZ t_under), .ref t_trial_a])), (t_owners_a, .inl (cI, 12, .inl (aI t_owners_f))), (t_missing_a, .inl (cZ, 12, .inl (aI t_missing_f)))]) 0 0 := by
  refine cq_enter (cc := cMd_countOf) (maxL := 4) (ret := some .int) (by decide) rfl (Nat.le_of_ble_eq_true rfl) ?_
  intro p e s m below meth c A args Q H hAe hQ hsz hAt hA hP hK hD hS ls hl
  obtain ⟨hx, hb, hr, hml, hown, hts, hlocks, hin⟩ := hAt
  have hown : s.vm.findClass RMd = some m.cls := hown
  have hl : lv_has ls 4 [(0, .ref t_a), (1, .int (iZ z))] := hl
  refine lv_iconst (v := iZ 0) hx hb dMd_countOf_0 (by decide) ?_
  refine lv_istore_n (lv' := [(2, .int (iZ 0)), (0, .ref t_a), (1, .int (iZ z))]) hx hb dMd_countOf_1 rfl hl (by decide) rfl (fun ls hl => ?_)
  refine lv_iconst (v := iZ 0) hx hb dMd_countOf_2 (by decide) ?_
  refine lv_istore_n (lv' := [(3, .int (iZ 0)), (2, .int (iZ 0)), (0, .ref t_a), (1, .int (iZ z))]) hx hb dMd_countOf_3 rfl hl (by decide) rfl (fun ls hl => ?_)
  have loop_1 : ∀ (n_3 : Nat) (nu : Int) (i : Int), (0 ≤ i) → (i ≤ t_bags) → (nu = sZ (gn t_owners_f t_missing_f z) i) → (t_bags - i < (n_3 : Int)) → ∀ (H : Heap) (locs : List Loc), va_P D clAll [(t_a, .inr (9, [.long (lZ t_seed), .int (iZ t_strata), .ref t_sizes_a, .ref t_costs_a, .ref t_gone_a, .ref t_drawn_a, .ref t_drawnCounts_a, .int (iZ t_bags), .ref t_owners_a, .ref t_years_a, .ref t_missing_a, .ref t_grams_a, .int (iZ t_hasPlan), .ref t_planned_a, .int (iZ t_again), .ref t_againBag_a, .ref t_againKind_a, .ref t_againGrams_a, .long (lZ t_over), .long (lZ t_under), .ref t_trial_a])), (t_owners_a, .inl (cI, 12, .inl (aI t_owners_f))), (t_missing_a, .inl (cZ, 12, .inl (aI t_missing_f)))] H → va_D A [(t_a, .inr (9, [.long (lZ t_seed), .int (iZ t_strata), .ref t_sizes_a, .ref t_costs_a, .ref t_gone_a, .ref t_drawn_a, .ref t_drawnCounts_a, .int (iZ t_bags), .ref t_owners_a, .ref t_years_a, .ref t_missing_a, .ref t_grams_a, .int (iZ t_hasPlan), .ref t_planned_a, .int (iZ t_again), .ref t_againBag_a, .ref t_againKind_a, .ref t_againGrams_a, .long (lZ t_over), .long (lZ t_under), .ref t_trial_a])), (t_owners_a, .inl (cI, 12, .inl (aI t_owners_f))), (t_missing_a, .inl (cZ, 12, .inl (aI t_missing_f)))] → va_S A s.heap H locs → ∀ ls : Array Slot, lv_has ls 4 [(0, .ref t_a), (1, .int (iZ z)), (2, .int (iZ nu)), (3, .int (iZ i))] → W p l e { frames := 0, cells := 0, slots := 0, locals := 0 } s m args below meth c H locs 0 0 Q (F0 m 4 ls []) := by
    intro n_3
    induction n_3 with
    | zero => intro nu i hi hi2 hnu hm_4; exact absurd hm_4 (by omega)
    | succ n_3 ih_2 =>
      intro nu i hi hi2 hnu hm_4 H locs hP hD hS ls hl
      refine lv_iload_n hx hb dMd_countOf_4 rfl (lv_at hl 3 rfl) ?_
      refine lv_aload_n hx hb dMd_countOf_5 rfl (lv_at hl 0 rfl) ?_
      refine va_get (D := D) (ci := 9) (v := .int (iZ t_bags)) (C := RMd) (T := TMd) (N := 21) hx hb hts layMd hown hK.1 hP 0 rfl rfl 7 (by decide) (hts _ (hm g441)) (fun _ h9 => h9) rfl dMd_countOf_6 ?_
      refine z_icmp_ge (tgt := 45) hx hb (by omega) (by omega) (by omega) (by omega) dMd_countOf_9 (by decide) (fun c_5 => ?_) (fun c_5 => ?_)
      ·
        refine lv_iload_n hx hb dMd_countOf_45 rfl (lv_at hl 2 rfl) ?_
        exact cq_iret hx hb hr hlocks hAe hQ nu ⟨rfl, (by (try dsimp only) <;> (exact sz_end hnu (by omega)))⟩ (hP.sub [0, 1, 2] rfl) (hD.sub [0, 1, 2] (by decide) rfl) hS (by decide) (by decide) dMd_countOf_46
      ·
        refine lv_iload_n hx hb dMd_countOf_12 rfl (lv_at hl 2 rfl) ?_
        refine lv_aload_n hx hb dMd_countOf_13 rfl (lv_at hl 0 rfl) ?_
        refine va_get (D := D) (ci := 9) (v := .ref t_owners_a) (C := RMd) (T := TMd) (N := 21) hx hb hts layMd hown hK.1 hP 0 rfl rfl 8 (by decide) (hts _ (hm g442)) (fun _ h9 => h9) rfl dMd_countOf_14 ?_
        refine lv_iload_n hx hb dMd_countOf_17 rfl (lv_at hl 3 rfl) ?_
        refine z_iald hx hb hK hP 1 0 rfl rfl (by omega) (by omega) (by decide) dMd_countOf_18 ?_
        have f_6 := hho i
        refine lv_iload_n hx hb dMd_countOf_19 rfl (lv_at hl 1 rfl) ?_
        refine z_icmp_ne (tgt := 36) hx hb (by omega) (by omega) (by omega) (by omega) dMd_countOf_20 (by decide) (fun c_7 => ?_) (fun c_7 => ?_)
        ·
          refine lv_iconst (v := iZ 0) hx hb dMd_countOf_36 (by decide) ?_
          refine z_iadd hx hb dMd_countOf_37 ?_
          refine lv_istore_n (lv' := [(2, .int (iZ (nu + 0))), (0, .ref t_a), (1, .int (iZ z)), (3, .int (iZ i))]) hx hb dMd_countOf_38 rfl hl (by decide) rfl (fun ls hl => ?_)
          refine lv_iinc (v := iZ (i + 1)) (lv' := [(3, .int (iZ (i + 1))), (2, .int (iZ (nu + 0))), (0, .ref t_a), (1, .int (iZ z))]) hx hb dMd_countOf_39 hl (k := 3) rfl (iZ_add i 1) (by decide) rfl (fun ls hl => ?_)
          refine lv_goto (tgt := 4) hx hb dMd_countOf_42 (by decide) ?_
          exact ih_2  (nu + 0) (i + 1) (by omega) (by omega) (by first | exact gn_1 hnu hi (by assumption) (by assumption) | (rw [Int.add_zero]; exact gn_0 hnu hi (by first | exact Or.inl (by assumption) | exact Or.inr (by assumption)))) (by omega) _ _ (hP.sub [0, 1, 2] rfl) (hD.sub [0, 1, 2] (by decide) rfl) hS ls (lv_sub hl [2, 3, 1, 0] rfl)
        ·
          refine lv_aload_n hx hb dMd_countOf_23 rfl (lv_at hl 0 rfl) ?_
          refine va_get (D := D) (ci := 9) (v := .ref t_missing_a) (C := RMd) (T := TMd) (N := 21) hx hb hts layMd hown hK.1 hP 0 rfl rfl 10 (by decide) (hts _ (hm g444)) (fun _ h9 => h9) rfl dMd_countOf_24 ?_
          refine lv_iload_n hx hb dMd_countOf_27 rfl (lv_at hl 3 rfl) ?_
          refine z_zald hx hb hK hP 2 2 rfl rfl (by omega) (by omega) (by decide) dMd_countOf_28 ?_
          have f_8 := hlo i
          refine z_if_ne (tgt := 36) hx hb (by omega) (by omega) dMd_countOf_29 (by decide) (fun c_9 => ?_) (fun c_9 => ?_)
          ·
            refine lv_iconst (v := iZ 0) hx hb dMd_countOf_36 (by decide) ?_
            refine z_iadd hx hb dMd_countOf_37 ?_
            refine lv_istore_n (lv' := [(2, .int (iZ (nu + 0))), (0, .ref t_a), (1, .int (iZ z)), (3, .int (iZ i))]) hx hb dMd_countOf_38 rfl hl (by decide) rfl (fun ls hl => ?_)
            refine lv_iinc (v := iZ (i + 1)) (lv' := [(3, .int (iZ (i + 1))), (2, .int (iZ (nu + 0))), (0, .ref t_a), (1, .int (iZ z))]) hx hb dMd_countOf_39 hl (k := 3) rfl (iZ_add i 1) (by decide) rfl (fun ls hl => ?_)
            refine lv_goto (tgt := 4) hx hb dMd_countOf_42 (by decide) ?_
            exact ih_2  (nu + 0) (i + 1) (by omega) (by omega) (by first | exact gn_1 hnu hi (by assumption) (by assumption) | (rw [Int.add_zero]; exact gn_0 hnu hi (by first | exact Or.inl (by assumption) | exact Or.inr (by assumption)))) (by omega) _ _ (hP.sub [0, 1, 2] rfl) (hD.sub [0, 1, 2] (by decide) rfl) hS ls (lv_sub hl [2, 3, 1, 0] rfl)
          ·
            refine lv_iconst (v := iZ 1) hx hb dMd_countOf_32 (by decide) ?_
            refine lv_goto (tgt := 37) hx hb dMd_countOf_33 (by decide) ?_
            refine z_iadd hx hb dMd_countOf_37 ?_
            refine lv_istore_n (lv' := [(2, .int (iZ (nu + 1))), (0, .ref t_a), (1, .int (iZ z)), (3, .int (iZ i))]) hx hb dMd_countOf_38 rfl hl (by decide) rfl (fun ls hl => ?_)
            refine lv_iinc (v := iZ (i + 1)) (lv' := [(3, .int (iZ (i + 1))), (2, .int (iZ (nu + 1))), (0, .ref t_a), (1, .int (iZ z))]) hx hb dMd_countOf_39 hl (k := 3) rfl (iZ_add i 1) (by decide) rfl (fun ls hl => ?_)
            refine lv_goto (tgt := 4) hx hb dMd_countOf_42 (by decide) ?_
            exact ih_2  (nu + 1) (i + 1) (by omega) (by omega) (by first | exact gn_1 hnu hi (by assumption) (by assumption) | (rw [Int.add_zero]; exact gn_0 hnu hi (by first | exact Or.inl (by assumption) | exact Or.inr (by assumption)))) (by omega) _ _ (hP.sub [0, 1, 2] rfl) (hD.sub [0, 1, 2] (by decide) rfl) hS ls (lv_sub hl [2, 3, 1, 0] rfl)
  exact loop_1 ((t_bags - 0 : Int).toNat + 1) 0 0 (by omega) (by omega) (by rfl) (by omega) _ _ (hP.sub [0, 1, 2] rfl) (hD.sub [0, 1, 2] (by decide) rfl) hS ls (lv_sub hl [2, 3, 1, 0] rfl)
set_option maxHeartbeats 4000000 in
set_option maxRecDepth 100000 in
theorem m_counts (l : Launch) (D : va_G) (cI cJ cZ : ClassId) (t_a t_sizes_a t_costs_a t_gone_a t_drawn_a t_drawnCounts_a t_owners_a t_years_a t_missing_a t_grams_a t_planned_a t_againBag_a t_againKind_a t_againGrams_a t_trial_a : Nat) (sz : Nat) (t_seed : Int) (t_strata : Int) (t_bags : Int) (t_hasPlan : Int) (t_again : Int) (t_over : Int) (t_under : Int) (t_gone_f : Int → Int) (t_owners_f : Int → Int) (t_missing_f : Int → Int) (z : Int) (h_z1 : -2147483648 ≤ z) (h_z2 : z < 2147483648) (hn1 : 0 ≤ t_strata) (hn2 : t_strata ≤ 4) (hb1 : 0 ≤ t_bags) (hb2 : t_bags ≤ 12) (hgo : ∀ j, 0 ≤ t_gone_f j ∧ t_gone_f j ≤ 1) (hho : ∀ j, 0 ≤ t_owners_f j ∧ t_owners_f j ≤ 3) (hlo : ∀ j, 0 ≤ t_missing_f j ∧ t_missing_f j ≤ 1) (hzero : ∀ j, 0 ≤ j → j < 4 → (t_strata ≤ j ∨ ¬ t_gone_f j = 0) → NBf t_owners_f t_missing_f t_bags j = 0) (hz0 : 0 ≤ z ∧ z < 4) : cq_i l yMd_counts wsMd_counts ({ frames := 1, cells := 0, slots := 0, locals := 23 }) D clAll [(cI, .int), (cJ, .long), (cZ, .boolean)] nwAll [.ref t_a, .int (iZ z)] [(t_a, .inr (9, [.long (lZ t_seed), .int (iZ t_strata), .ref t_sizes_a, .ref t_costs_a, .ref t_gone_a, .ref t_drawn_a, .ref t_drawnCounts_a, .int (iZ t_bags), .ref t_owners_a, .ref t_years_a, .ref t_missing_a, .ref t_grams_a, .int (iZ t_hasPlan), .ref t_planned_a, .int (iZ t_again), .ref t_againBag_a, .ref t_againKind_a, .ref t_againGrams_a, .long (lZ t_over), .long (lZ t_under), .ref t_trial_a])), (t_gone_a, .inl (cZ, 4, .inl (aI t_gone_f))), (t_owners_a, .inl (cI, 12, .inl (aI t_owners_f))), (t_missing_a, .inl (cZ, 12, .inl (aI t_missing_f)))] sz (S := Int) (fun (r : Int32) (u : Int) => r = iZ u ∧ ((u = 1 ∧ (0 ≤ z ∧ z < t_strata) ∧ 0 < NBf t_owners_f t_missing_f t_bags z) ∨ (u = 0 ∧ ¬ 0 < NBf t_owners_f t_missing_f t_bags z))) (fun (u : Int) => [(t_a, .inr (9, [.long (lZ t_seed), .int (iZ t_strata), .ref t_sizes_a, .ref t_costs_a, .ref t_gone_a, .ref t_drawn_a, .ref t_drawnCounts_a, .int (iZ t_bags), .ref t_owners_a, .ref t_years_a, .ref t_missing_a, .ref t_grams_a, .int (iZ t_hasPlan), .ref t_planned_a, .int (iZ t_again), .ref t_againBag_a, .ref t_againKind_a, .ref t_againGrams_a, .long (lZ t_over), .long (lZ t_under), .ref t_trial_a])), (t_gone_a, .inl (cZ, 4, .inl (aI t_gone_f))), (t_owners_a, .inl (cI, 12, .inl (aI t_owners_f))), (t_missing_a, .inl (cZ, 12, .inl (aI t_missing_f)))]) 0 0 := by
  refine cq_enter (cc := cMd_counts) (maxL := 2) (ret := some .boolean) (by decide) rfl (Nat.le_of_ble_eq_true rfl) ?_
  intro p e s m below meth c A args Q H hAe hQ hsz hAt hA hP hK hD hS ls hl
  obtain ⟨hx, hb, hr, hml, hown, hts, hlocks, hin⟩ := hAt
  have hown : s.vm.findClass RMd = some m.cls := hown
  have hl : lv_has ls 2 [(0, .ref t_a), (1, .int (iZ z))] := hl
  refine lv_aload_n hx hb dMd_counts_0 rfl (lv_at hl 0 rfl) ?_
  refine lv_iload_n hx hb dMd_counts_1 rfl (lv_at hl 1 rfl) ?_
  refine cq_calli (wr := [(t_owners_a, .inl (cI, 12, .inl (aI t_owners_f))), (t_missing_a, .inl (cZ, 12, .inl (aI t_missing_f)))]) (va_runV (C := RMd) (As := [.int (iZ z)]) (rest := []) ⟨hx, hb, hml, hown, hts⟩ (m_isHere l D cI cJ cZ t_a t_sizes_a t_costs_a t_gone_a t_drawn_a t_drawnCounts_a t_owners_a t_years_a t_missing_a t_grams_a t_planned_a t_againBag_a t_againKind_a t_againGrams_a t_trial_a H.size t_seed t_strata t_bags t_hasPlan t_again t_over t_under t_gone_f z (by omega) (by omega) (by first | assumption | omega) (by first | assumption | omega) (by first | assumption | omega)) ⟨(callB_of 1 hts (gAll cmMd_isHere) rfl rfl rfl (hts _ (hm g67)) (hts _ (hm g488)) (by decide +kernel) ⟨Nat.le_of_ble_eq_true rfl, Nat.le_of_ble_eq_true rfl⟩), (hts _ (hm g489)), (hts _ (hm g41))⟩ (cq_preV (va_recv hK.1 hP (ci := 9) (q0 := 0) rfl rfl) (cq_preS hK hP hD [0, 1] (by decide) rfl)) rfl rfl hl.1 rfl (lv_room (Nat.le_of_ble_eq_true rfl)) dMd_counts_2 ⟨by decide, by decide⟩) hP hD hS hA [0, 1] [2, 3] rfl rfl (by decide) (by decide) (fun r u H locs hw_1 hP hD hS => ?_)
  obtain ⟨o_2, rfl⟩ : ∃ z, z = u := ⟨_, rfl⟩
  try dsimp only at hw_1
  obtain ⟨rfl, p_3⟩ := hw_1
  have hP : va_P D clAll [(t_owners_a, .inl (cI, 12, .inl (aI t_owners_f))), (t_missing_a, .inl (cZ, 12, .inl (aI t_missing_f))), (t_a, .inr (9, [.long (lZ t_seed), .int (iZ t_strata), .ref t_sizes_a, .ref t_costs_a, .ref t_gone_a, .ref t_drawn_a, .ref t_drawnCounts_a, .int (iZ t_bags), .ref t_owners_a, .ref t_years_a, .ref t_missing_a, .ref t_grams_a, .int (iZ t_hasPlan), .ref t_planned_a, .int (iZ t_again), .ref t_againBag_a, .ref t_againKind_a, .ref t_againGrams_a, .long (lZ t_over), .long (lZ t_under), .ref t_trial_a])), (t_gone_a, .inl (cZ, 4, .inl (aI t_gone_f)))] H := hP
  have hD : va_D A [(t_owners_a, .inl (cI, 12, .inl (aI t_owners_f))), (t_missing_a, .inl (cZ, 12, .inl (aI t_missing_f))), (t_a, .inr (9, [.long (lZ t_seed), .int (iZ t_strata), .ref t_sizes_a, .ref t_costs_a, .ref t_gone_a, .ref t_drawn_a, .ref t_drawnCounts_a, .int (iZ t_bags), .ref t_owners_a, .ref t_years_a, .ref t_missing_a, .ref t_grams_a, .int (iZ t_hasPlan), .ref t_planned_a, .int (iZ t_again), .ref t_againBag_a, .ref t_againKind_a, .ref t_againGrams_a, .long (lZ t_over), .long (lZ t_under), .ref t_trial_a])), (t_gone_a, .inl (cZ, 4, .inl (aI t_gone_f)))] := hD
  refine z_if_eq (tgt := 20) hx hb (by omega) (by omega) dMd_counts_5 (by decide) (fun c_4 => ?_) (fun c_4 => ?_)
  ·
    refine lv_iconst (v := iZ 0) hx hb dMd_counts_20 (by decide) ?_
    exact cq_zret hx hb hr hlocks hAe hQ (bo_narr (by omega) (by omega)) 0 ⟨rfl, (by (try dsimp only) <;> (first | exact Or.inl ⟨rfl, by omega, by assumption⟩ | exact Or.inr ⟨rfl, by assumption⟩ | exact Or.inr ⟨rfl, fun q => by have := hzero z hz0.1 hz0.2 (by omega); omega⟩))⟩ (hP.sub [2, 3, 0, 1] rfl) (hD.sub [2, 3, 0, 1] (by decide) rfl) hS (by decide) (by decide) dMd_counts_21
  ·
    refine lv_aload_n hx hb dMd_counts_8 rfl (lv_at hl 0 rfl) ?_
    refine lv_iload_n hx hb dMd_counts_9 rfl (lv_at hl 1 rfl) ?_
    refine cq_calli (wr := [(t_gone_a, .inl (cZ, 4, .inl (aI t_gone_f)))]) (va_runV (C := RMd) (As := [.int (iZ z)]) (rest := []) ⟨hx, hb, hml, hown, hts⟩ (m_countOf l D cI cJ cZ t_a t_sizes_a t_costs_a t_gone_a t_drawn_a t_drawnCounts_a t_owners_a t_years_a t_missing_a t_grams_a t_planned_a t_againBag_a t_againKind_a t_againGrams_a t_trial_a H.size t_seed t_strata t_bags t_hasPlan t_again t_over t_under t_owners_f t_missing_f z (by omega) (by omega) (by first | assumption | omega) (by first | assumption | omega) (by first | assumption | omega) (by first | assumption | omega)) ⟨(callB_of 1 hts (gAll cmMd_countOf) rfl rfl rfl (hts _ (hm g67)) (hts _ (hm g532)) (by decide +kernel) ⟨Nat.le_of_ble_eq_true rfl, Nat.le_of_ble_eq_true rfl⟩), (hts _ (hm g533)), (hts _ (hm g44))⟩ (cq_preV (va_recv hK.1 hP (ci := 9) (q0 := 2) rfl rfl) (cq_preS hK hP hD [2, 0, 1] (by decide) rfl)) rfl rfl hl.1 rfl (lv_room (Nat.le_of_ble_eq_true rfl)) dMd_counts_10 ⟨by decide, by decide⟩) hP hD hS hA [2, 0, 1] [3] rfl rfl (by decide) (by decide) (fun r u H locs hw_5 hP hD hS => ?_)
    obtain ⟨o_6, rfl⟩ : ∃ z, z = u := ⟨_, rfl⟩
    try dsimp only at hw_5
    obtain ⟨rfl, rfl⟩ := hw_5
    have hP : va_P D clAll [(t_gone_a, .inl (cZ, 4, .inl (aI t_gone_f))), (t_a, .inr (9, [.long (lZ t_seed), .int (iZ t_strata), .ref t_sizes_a, .ref t_costs_a, .ref t_gone_a, .ref t_drawn_a, .ref t_drawnCounts_a, .int (iZ t_bags), .ref t_owners_a, .ref t_years_a, .ref t_missing_a, .ref t_grams_a, .int (iZ t_hasPlan), .ref t_planned_a, .int (iZ t_again), .ref t_againBag_a, .ref t_againKind_a, .ref t_againGrams_a, .long (lZ t_over), .long (lZ t_under), .ref t_trial_a])), (t_owners_a, .inl (cI, 12, .inl (aI t_owners_f))), (t_missing_a, .inl (cZ, 12, .inl (aI t_missing_f)))] H := hP
    have hD : va_D A [(t_gone_a, .inl (cZ, 4, .inl (aI t_gone_f))), (t_a, .inr (9, [.long (lZ t_seed), .int (iZ t_strata), .ref t_sizes_a, .ref t_costs_a, .ref t_gone_a, .ref t_drawn_a, .ref t_drawnCounts_a, .int (iZ t_bags), .ref t_owners_a, .ref t_years_a, .ref t_missing_a, .ref t_grams_a, .int (iZ t_hasPlan), .ref t_planned_a, .int (iZ t_again), .ref t_againBag_a, .ref t_againKind_a, .ref t_againGrams_a, .long (lZ t_over), .long (lZ t_under), .ref t_trial_a])), (t_owners_a, .inl (cI, 12, .inl (aI t_owners_f))), (t_missing_a, .inl (cZ, 12, .inl (aI t_missing_f)))] := hD
    have hnb := gn_b t_owners_f t_missing_f z hb1 hb2
    refine z_if_le (tgt := 20) hx hb (by show _; unfold NBf; omega) (by show _; unfold NBf; omega) dMd_counts_13 (by decide) (fun c_7 => ?_) (fun c_7 => ?_)
    ·
      refine lv_iconst (v := iZ 0) hx hb dMd_counts_20 (by decide) ?_
      exact cq_zret hx hb hr hlocks hAe hQ (bo_narr (by omega) (by omega)) 0 ⟨rfl, (by (try dsimp only) <;> (first | exact Or.inl ⟨rfl, by omega, by assumption⟩ | exact Or.inr ⟨rfl, by assumption⟩ | exact Or.inr ⟨rfl, fun q => by have := hzero z hz0.1 hz0.2 (by omega); omega⟩))⟩ (hP.sub [1, 0, 2, 3] rfl) (hD.sub [1, 0, 2, 3] (by decide) rfl) hS (by decide) (by decide) dMd_counts_21
    ·
      refine lv_iconst (v := iZ 1) hx hb dMd_counts_16 (by decide) ?_
      refine lv_goto (tgt := 21) hx hb dMd_counts_17 (by decide) ?_
      exact cq_zret hx hb hr hlocks hAe hQ (bo_narr (by omega) (by omega)) 1 ⟨rfl, (by (try dsimp only) <;> (first | exact Or.inl ⟨rfl, by omega, by assumption⟩ | exact Or.inr ⟨rfl, by assumption⟩ | exact Or.inr ⟨rfl, fun q => by have := hzero z hz0.1 hz0.2 (by omega); omega⟩))⟩ (hP.sub [1, 0, 2, 3] rfl) (hD.sub [1, 0, 2, 3] (by decide) rfl) hS (by decide) (by decide) dMd_counts_21
set_option maxHeartbeats 4000000 in
set_option maxRecDepth 100000 in
theorem m_sumOf (l : Launch) (D : va_G) (cI cJ cZ : ClassId) (t_a t_sizes_a t_costs_a t_gone_a t_drawn_a t_drawnCounts_a t_owners_a t_years_a t_missing_a t_grams_a t_planned_a t_againBag_a t_againKind_a t_againGrams_a t_trial_a : Nat) (sz : Nat) (t_seed : Int) (t_strata : Int) (t_bags : Int) (t_hasPlan : Int) (t_again : Int) (t_over : Int) (t_under : Int) (t_owners_f : Int → Int) (t_missing_f : Int → Int) (t_grams_f : Int → Int) (z : Int) (kind : Int) (h_z1 : -2147483648 ≤ z) (h_z2 : z < 2147483648) (h_kind1 : -2147483648 ≤ kind) (h_kind2 : kind < 2147483648) (hb1 : 0 ≤ t_bags) (hb2 : t_bags ≤ 12) (hho : ∀ j, 0 ≤ t_owners_f j ∧ t_owners_f j ≤ 3) (hlo : ∀ j, 0 ≤ t_missing_f j ∧ t_missing_f j ≤ 1) (hgr : ∀ j, 0 ≤ t_grams_f j ∧ t_grams_f j ≤ 10000) (hk : 0 ≤ kind ∧ kind < 3) : cq_l l yMd_sumOf wsMd_sumOf ({ frames := 0, cells := 0, slots := 0, locals := 0 }) D clAll [(cI, .int), (cJ, .long), (cZ, .boolean)] nwAll [.ref t_a, .int (iZ z), .int (iZ kind)] [(t_a, .inr (9, [.long (lZ t_seed), .int (iZ t_strata), .ref t_sizes_a, .ref t_costs_a, .ref t_gone_a, .ref t_drawn_a, .ref t_drawnCounts_a, .int (iZ t_bags), .ref t_owners_a, .ref t_years_a, .ref t_missing_a, .ref t_grams_a, .int (iZ t_hasPlan), .ref t_planned_a, .int (iZ t_again), .ref t_againBag_a, .ref t_againKind_a, .ref t_againGrams_a, .long (lZ t_over), .long (lZ t_under), .ref t_trial_a])), (t_owners_a, .inl (cI, 12, .inl (aI t_owners_f))), (t_missing_a, .inl (cZ, 12, .inl (aI t_missing_f))), (t_grams_a, .inl (cJ, 36, .inr (.inl (aL t_grams_f))))] sz (S := Int) (fun (r : Int64) (u : Int) => r = lZ u ∧ (u = SMf t_owners_f t_missing_f t_grams_f kind t_bags z)) (fun (u : Int) => [(t_a, .inr (9, [.long (lZ t_seed), .int (iZ t_strata), .ref t_sizes_a, .ref t_costs_a, .ref t_gone_a, .ref t_drawn_a, .ref t_drawnCounts_a, .int (iZ t_bags), .ref t_owners_a, .ref t_years_a, .ref t_missing_a, .ref t_grams_a, .int (iZ t_hasPlan), .ref t_planned_a, .int (iZ t_again), .ref t_againBag_a, .ref t_againKind_a, .ref t_againGrams_a, .long (lZ t_over), .long (lZ t_under), .ref t_trial_a])), (t_owners_a, .inl (cI, 12, .inl (aI t_owners_f))), (t_missing_a, .inl (cZ, 12, .inl (aI t_missing_f))), (t_grams_a, .inl (cJ, 36, .inr (.inl (aL t_grams_f))))]) 0 0 := by
  refine cq_enter (cc := cMd_sumOf) (maxL := 6) (ret := some .long) (by decide) rfl (Nat.le_of_ble_eq_true rfl) ?_
  intro p e s m below meth c A args Q H hAe hQ hsz hAt hA hP hK hD hS ls hl
  obtain ⟨hx, hb, hr, hml, hown, hts, hlocks, hin⟩ := hAt
  have hown : s.vm.findClass RMd = some m.cls := hown
  have hl : lv_has ls 6 [(0, .ref t_a), (1, .int (iZ z)), (2, .int (iZ kind))] := hl
  refine lv_lconst (v := lZ 0) hx hb dMd_sumOf_0 (by decide) ?_
  refine lv_lstore_n (lv' := [(3, .long (lZ 0)), (0, .ref t_a), (1, .int (iZ z)), (2, .int (iZ kind))]) hx hb dMd_sumOf_1 rfl hl (by decide) rfl (fun ls hl => ?_)
  refine lv_iconst (v := iZ 0) hx hb dMd_sumOf_2 (by decide) ?_
  refine lv_istore (lv' := [(5, .int (iZ 0)), (3, .long (lZ 0)), (0, .ref t_a), (1, .int (iZ z)), (2, .int (iZ kind))]) hx hb dMd_sumOf_3 hl (by decide) rfl (fun ls hl => ?_)
  have loop_1 : ∀ (n_3 : Nat) (su : Int) (i : Int), (0 ≤ i) → (i ≤ t_bags) → (su = sZ (gm_ t_owners_f t_missing_f t_grams_f kind z) i) → (t_bags - i < (n_3 : Int)) → ∀ (H : Heap) (locs : List Loc), va_P D clAll [(t_a, .inr (9, [.long (lZ t_seed), .int (iZ t_strata), .ref t_sizes_a, .ref t_costs_a, .ref t_gone_a, .ref t_drawn_a, .ref t_drawnCounts_a, .int (iZ t_bags), .ref t_owners_a, .ref t_years_a, .ref t_missing_a, .ref t_grams_a, .int (iZ t_hasPlan), .ref t_planned_a, .int (iZ t_again), .ref t_againBag_a, .ref t_againKind_a, .ref t_againGrams_a, .long (lZ t_over), .long (lZ t_under), .ref t_trial_a])), (t_owners_a, .inl (cI, 12, .inl (aI t_owners_f))), (t_missing_a, .inl (cZ, 12, .inl (aI t_missing_f))), (t_grams_a, .inl (cJ, 36, .inr (.inl (aL t_grams_f))))] H → va_D A [(t_a, .inr (9, [.long (lZ t_seed), .int (iZ t_strata), .ref t_sizes_a, .ref t_costs_a, .ref t_gone_a, .ref t_drawn_a, .ref t_drawnCounts_a, .int (iZ t_bags), .ref t_owners_a, .ref t_years_a, .ref t_missing_a, .ref t_grams_a, .int (iZ t_hasPlan), .ref t_planned_a, .int (iZ t_again), .ref t_againBag_a, .ref t_againKind_a, .ref t_againGrams_a, .long (lZ t_over), .long (lZ t_under), .ref t_trial_a])), (t_owners_a, .inl (cI, 12, .inl (aI t_owners_f))), (t_missing_a, .inl (cZ, 12, .inl (aI t_missing_f))), (t_grams_a, .inl (cJ, 36, .inr (.inl (aL t_grams_f))))] → va_S A s.heap H locs → ∀ ls : Array Slot, lv_has ls 6 [(0, .ref t_a), (1, .int (iZ z)), (2, .int (iZ kind)), (3, .long (lZ su)), (5, .int (iZ i))] → W p l e { frames := 0, cells := 0, slots := 0, locals := 0 } s m args below meth c H locs 0 0 Q (F0 m 5 ls []) := by
    intro n_3
    induction n_3 with
    | zero => intro su i hi hi2 hsu hm_4; exact absurd hm_4 (by omega)
    | succ n_3 ih_2 =>
      intro su i hi hi2 hsu hm_4 H locs hP hD hS ls hl
      refine lv_iload hx hb dMd_sumOf_5 (lv_at hl 4 rfl) ?_
      refine lv_aload_n hx hb dMd_sumOf_7 rfl (lv_at hl 0 rfl) ?_
      refine va_get (D := D) (ci := 9) (v := .int (iZ t_bags)) (C := RMd) (T := TMd) (N := 21) hx hb hts layMd hown hK.1 hP 0 rfl rfl 7 (by decide) (hts _ (hm g441)) (fun _ h9 => h9) rfl dMd_sumOf_8 ?_
      refine z_icmp_ge (tgt := 59) hx hb (by omega) (by omega) (by omega) (by omega) dMd_sumOf_11 (by decide) (fun c_5 => ?_) (fun c_5 => ?_)
      ·
        refine lv_lload_n hx hb dMd_sumOf_59 rfl (lv_at hl 3 rfl) ?_
        exact cq_lret hx hb hr hlocks hAe hQ su ⟨rfl, (by (try dsimp only) <;> (exact sz_end hsu (by omega)))⟩ (hP.sub [0, 1, 2, 3] rfl) (hD.sub [0, 1, 2, 3] (by decide) rfl) hS (by decide) (by decide) dMd_sumOf_60
      ·
        refine lv_lload_n hx hb dMd_sumOf_14 rfl (lv_at hl 3 rfl) ?_
        refine lv_aload_n hx hb dMd_sumOf_15 rfl (lv_at hl 0 rfl) ?_
        refine va_get (D := D) (ci := 9) (v := .ref t_owners_a) (C := RMd) (T := TMd) (N := 21) hx hb hts layMd hown hK.1 hP 0 rfl rfl 8 (by decide) (hts _ (hm g442)) (fun _ h9 => h9) rfl dMd_sumOf_16 ?_
        refine lv_iload hx hb dMd_sumOf_19 (lv_at hl 4 rfl) ?_
        refine z_iald hx hb hK hP 1 0 rfl rfl (by omega) (by omega) (by decide) dMd_sumOf_21 ?_
        have f_6 := hho i
        refine lv_iload_n hx hb dMd_sumOf_22 rfl (lv_at hl 1 rfl) ?_
        refine z_icmp_ne (tgt := 50) hx hb (by omega) (by omega) (by omega) (by omega) dMd_sumOf_23 (by decide) (fun c_7 => ?_) (fun c_7 => ?_)
        ·
          refine lv_lconst (v := lZ 0) hx hb dMd_sumOf_50 (by decide) ?_
          refine z_ladd hx hb dMd_sumOf_51 ?_
          refine lv_lstore_n (lv' := [(3, .long (lZ (su + 0))), (0, .ref t_a), (1, .int (iZ z)), (2, .int (iZ kind)), (5, .int (iZ i))]) hx hb dMd_sumOf_52 rfl hl (by decide) rfl (fun ls hl => ?_)
          refine lv_iinc (v := iZ (i + 1)) (lv' := [(5, .int (iZ (i + 1))), (3, .long (lZ (su + 0))), (0, .ref t_a), (1, .int (iZ z)), (2, .int (iZ kind))]) hx hb dMd_sumOf_53 hl (k := 4) rfl (iZ_add i 1) (by decide) rfl (fun ls hl => ?_)
          refine lv_goto (tgt := 5) hx hb dMd_sumOf_56 (by decide) ?_
          exact ih_2  (su + 0) (i + 1) (by omega) (by omega) (by first | exact gm_1 hsu hi (by assumption) (by assumption) | (rw [Int.add_zero]; exact gm_0 hsu hi (by first | exact Or.inl (by assumption) | exact Or.inr (by assumption)))) (by omega) _ _ (hP.sub [0, 1, 2, 3] rfl) (hD.sub [0, 1, 2, 3] (by decide) rfl) hS ls (lv_sub hl [2, 3, 4, 1, 0] rfl)
        ·
          refine lv_aload_n hx hb dMd_sumOf_26 rfl (lv_at hl 0 rfl) ?_
          refine va_get (D := D) (ci := 9) (v := .ref t_missing_a) (C := RMd) (T := TMd) (N := 21) hx hb hts layMd hown hK.1 hP 0 rfl rfl 10 (by decide) (hts _ (hm g444)) (fun _ h9 => h9) rfl dMd_sumOf_27 ?_
          refine lv_iload hx hb dMd_sumOf_30 (lv_at hl 4 rfl) ?_
          refine z_zald hx hb hK hP 2 2 rfl rfl (by omega) (by omega) (by decide) dMd_sumOf_32 ?_
          have f_8 := hlo i
          refine z_if_ne (tgt := 50) hx hb (by omega) (by omega) dMd_sumOf_33 (by decide) (fun c_9 => ?_) (fun c_9 => ?_)
          ·
            refine lv_lconst (v := lZ 0) hx hb dMd_sumOf_50 (by decide) ?_
            refine z_ladd hx hb dMd_sumOf_51 ?_
            refine lv_lstore_n (lv' := [(3, .long (lZ (su + 0))), (0, .ref t_a), (1, .int (iZ z)), (2, .int (iZ kind)), (5, .int (iZ i))]) hx hb dMd_sumOf_52 rfl hl (by decide) rfl (fun ls hl => ?_)
            refine lv_iinc (v := iZ (i + 1)) (lv' := [(5, .int (iZ (i + 1))), (3, .long (lZ (su + 0))), (0, .ref t_a), (1, .int (iZ z)), (2, .int (iZ kind))]) hx hb dMd_sumOf_53 hl (k := 4) rfl (iZ_add i 1) (by decide) rfl (fun ls hl => ?_)
            refine lv_goto (tgt := 5) hx hb dMd_sumOf_56 (by decide) ?_
            exact ih_2  (su + 0) (i + 1) (by omega) (by omega) (by first | exact gm_1 hsu hi (by assumption) (by assumption) | (rw [Int.add_zero]; exact gm_0 hsu hi (by first | exact Or.inl (by assumption) | exact Or.inr (by assumption)))) (by omega) _ _ (hP.sub [0, 1, 2, 3] rfl) (hD.sub [0, 1, 2, 3] (by decide) rfl) hS ls (lv_sub hl [2, 3, 4, 1, 0] rfl)
          ·
            refine lv_aload_n hx hb dMd_sumOf_36 rfl (lv_at hl 0 rfl) ?_
            refine va_get (D := D) (ci := 9) (v := .ref t_grams_a) (C := RMd) (T := TMd) (N := 21) hx hb hts layMd hown hK.1 hP 0 rfl rfl 11 (by decide) (hts _ (hm g445)) (fun _ h9 => h9) rfl dMd_sumOf_37 ?_
            refine lv_iconst (v := iZ 3) hx hb dMd_sumOf_40 (by decide) ?_
            refine lv_iload hx hb dMd_sumOf_41 (lv_at hl 4 rfl) ?_
            refine z_imul hx hb dMd_sumOf_43 ?_
            refine cq_ti (congrArg iZ (Int.mul_comm _ _)) ?_
            refine lv_iload_n hx hb dMd_sumOf_44 rfl (lv_at hl 2 rfl) ?_
            refine z_iadd hx hb dMd_sumOf_45 ?_
            refine z_lald hx hb hK hP 3 1 rfl rfl (by omega) (by omega) (by decide) dMd_sumOf_46 ?_
            have f_10 := hgr ((i * 3) + kind)
            refine lv_goto (tgt := 51) hx hb dMd_sumOf_47 (by decide) ?_
            refine z_ladd hx hb dMd_sumOf_51 ?_
            refine lv_lstore_n (lv' := [(3, .long (lZ (su + (t_grams_f ((i * 3) + kind))))), (0, .ref t_a), (1, .int (iZ z)), (2, .int (iZ kind)), (5, .int (iZ i))]) hx hb dMd_sumOf_52 rfl hl (by decide) rfl (fun ls hl => ?_)
            refine lv_iinc (v := iZ (i + 1)) (lv' := [(5, .int (iZ (i + 1))), (3, .long (lZ (su + (t_grams_f ((i * 3) + kind))))), (0, .ref t_a), (1, .int (iZ z)), (2, .int (iZ kind))]) hx hb dMd_sumOf_53 hl (k := 4) rfl (iZ_add i 1) (by decide) rfl (fun ls hl => ?_)
            refine lv_goto (tgt := 5) hx hb dMd_sumOf_56 (by decide) ?_
            exact ih_2  (su + (t_grams_f ((i * 3) + kind))) (i + 1) (by omega) (by omega) (by first | exact gm_1 hsu hi (by assumption) (by assumption) | (rw [Int.add_zero]; exact gm_0 hsu hi (by first | exact Or.inl (by assumption) | exact Or.inr (by assumption)))) (by omega) _ _ (hP.sub [0, 1, 2, 3] rfl) (hD.sub [0, 1, 2, 3] (by decide) rfl) hS ls (lv_sub hl [2, 3, 4, 1, 0] rfl)
  exact loop_1 ((t_bags - 0 : Int).toNat + 1) 0 0 (by omega) (by omega) (by rfl) (by omega) _ _ (hP.sub [0, 1, 2, 3] rfl) (hD.sub [0, 1, 2, 3] (by decide) rfl) hS ls (lv_sub hl [2, 3, 4, 1, 0] rfl)
set_option maxHeartbeats 4000000 in
set_option maxRecDepth 100000 in
theorem m_squaresOf (l : Launch) (D : va_G) (cI cJ cZ : ClassId) (t_a t_sizes_a t_costs_a t_gone_a t_drawn_a t_drawnCounts_a t_owners_a t_years_a t_missing_a t_grams_a t_planned_a t_againBag_a t_againKind_a t_againGrams_a t_trial_a : Nat) (sz : Nat) (t_seed : Int) (t_strata : Int) (t_bags : Int) (t_hasPlan : Int) (t_again : Int) (t_over : Int) (t_under : Int) (t_owners_f : Int → Int) (t_missing_f : Int → Int) (t_grams_f : Int → Int) (z : Int) (kind : Int) (h_z1 : -2147483648 ≤ z) (h_z2 : z < 2147483648) (h_kind1 : -2147483648 ≤ kind) (h_kind2 : kind < 2147483648) (hb1 : 0 ≤ t_bags) (hb2 : t_bags ≤ 12) (hho : ∀ j, 0 ≤ t_owners_f j ∧ t_owners_f j ≤ 3) (hlo : ∀ j, 0 ≤ t_missing_f j ∧ t_missing_f j ≤ 1) (hgr : ∀ j, 0 ≤ t_grams_f j ∧ t_grams_f j ≤ 10000) (hk : 0 ≤ kind ∧ kind < 3) : cq_l l yMd_squaresOf wsMd_squaresOf ({ frames := 0, cells := 0, slots := 0, locals := 0 }) D clAll [(cI, .int), (cJ, .long), (cZ, .boolean)] nwAll [.ref t_a, .int (iZ z), .int (iZ kind)] [(t_a, .inr (9, [.long (lZ t_seed), .int (iZ t_strata), .ref t_sizes_a, .ref t_costs_a, .ref t_gone_a, .ref t_drawn_a, .ref t_drawnCounts_a, .int (iZ t_bags), .ref t_owners_a, .ref t_years_a, .ref t_missing_a, .ref t_grams_a, .int (iZ t_hasPlan), .ref t_planned_a, .int (iZ t_again), .ref t_againBag_a, .ref t_againKind_a, .ref t_againGrams_a, .long (lZ t_over), .long (lZ t_under), .ref t_trial_a])), (t_owners_a, .inl (cI, 12, .inl (aI t_owners_f))), (t_missing_a, .inl (cZ, 12, .inl (aI t_missing_f))), (t_grams_a, .inl (cJ, 36, .inr (.inl (aL t_grams_f))))] sz (S := Int) (fun (r : Int64) (u : Int) => r = lZ u ∧ (u = SQf t_owners_f t_missing_f t_grams_f kind t_bags z)) (fun (u : Int) => [(t_a, .inr (9, [.long (lZ t_seed), .int (iZ t_strata), .ref t_sizes_a, .ref t_costs_a, .ref t_gone_a, .ref t_drawn_a, .ref t_drawnCounts_a, .int (iZ t_bags), .ref t_owners_a, .ref t_years_a, .ref t_missing_a, .ref t_grams_a, .int (iZ t_hasPlan), .ref t_planned_a, .int (iZ t_again), .ref t_againBag_a, .ref t_againKind_a, .ref t_againGrams_a, .long (lZ t_over), .long (lZ t_under), .ref t_trial_a])), (t_owners_a, .inl (cI, 12, .inl (aI t_owners_f))), (t_missing_a, .inl (cZ, 12, .inl (aI t_missing_f))), (t_grams_a, .inl (cJ, 36, .inr (.inl (aL t_grams_f))))]) 0 0 := by
  refine cq_enter (cc := cMd_squaresOf) (maxL := 8) (ret := some .long) (by decide) rfl (Nat.le_of_ble_eq_true rfl) ?_
  intro p e s m below meth c A args Q H hAe hQ hsz hAt hA hP hK hD hS ls hl
  obtain ⟨hx, hb, hr, hml, hown, hts, hlocks, hin⟩ := hAt
  have hown : s.vm.findClass RMd = some m.cls := hown
  have hl : lv_has ls 8 [(0, .ref t_a), (1, .int (iZ z)), (2, .int (iZ kind))] := hl
  refine lv_lconst (v := lZ 0) hx hb dMd_squaresOf_0 (by decide) ?_
  refine lv_lstore_n (lv' := [(3, .long (lZ 0)), (0, .ref t_a), (1, .int (iZ z)), (2, .int (iZ kind))]) hx hb dMd_squaresOf_1 rfl hl (by decide) rfl (fun ls hl => ?_)
  refine lv_iconst (v := iZ 0) hx hb dMd_squaresOf_2 (by decide) ?_
  refine lv_istore (lv' := [(5, .int (iZ 0)), (3, .long (lZ 0)), (0, .ref t_a), (1, .int (iZ z)), (2, .int (iZ kind))]) hx hb dMd_squaresOf_3 hl (by decide) rfl (fun ls hl => ?_)
  have loop_1 : ∀ (n_3 : Nat) (su : Int) (i : Int), (0 ≤ i) → (i ≤ t_bags) → (su = sZ (gq t_owners_f t_missing_f t_grams_f kind z) i) → (t_bags - i < (n_3 : Int)) → ∀ (H : Heap) (locs : List Loc), va_P D clAll [(t_a, .inr (9, [.long (lZ t_seed), .int (iZ t_strata), .ref t_sizes_a, .ref t_costs_a, .ref t_gone_a, .ref t_drawn_a, .ref t_drawnCounts_a, .int (iZ t_bags), .ref t_owners_a, .ref t_years_a, .ref t_missing_a, .ref t_grams_a, .int (iZ t_hasPlan), .ref t_planned_a, .int (iZ t_again), .ref t_againBag_a, .ref t_againKind_a, .ref t_againGrams_a, .long (lZ t_over), .long (lZ t_under), .ref t_trial_a])), (t_owners_a, .inl (cI, 12, .inl (aI t_owners_f))), (t_missing_a, .inl (cZ, 12, .inl (aI t_missing_f))), (t_grams_a, .inl (cJ, 36, .inr (.inl (aL t_grams_f))))] H → va_D A [(t_a, .inr (9, [.long (lZ t_seed), .int (iZ t_strata), .ref t_sizes_a, .ref t_costs_a, .ref t_gone_a, .ref t_drawn_a, .ref t_drawnCounts_a, .int (iZ t_bags), .ref t_owners_a, .ref t_years_a, .ref t_missing_a, .ref t_grams_a, .int (iZ t_hasPlan), .ref t_planned_a, .int (iZ t_again), .ref t_againBag_a, .ref t_againKind_a, .ref t_againGrams_a, .long (lZ t_over), .long (lZ t_under), .ref t_trial_a])), (t_owners_a, .inl (cI, 12, .inl (aI t_owners_f))), (t_missing_a, .inl (cZ, 12, .inl (aI t_missing_f))), (t_grams_a, .inl (cJ, 36, .inr (.inl (aL t_grams_f))))] → va_S A s.heap H locs → ∀ ls : Array Slot, lv_has ls 8 [(0, .ref t_a), (1, .int (iZ z)), (2, .int (iZ kind)), (3, .long (lZ su)), (5, .int (iZ i))] → W p l e { frames := 0, cells := 0, slots := 0, locals := 0 } s m args below meth c H locs 0 0 Q (F0 m 5 ls []) := by
    intro n_3
    induction n_3 with
    | zero => intro su i hi hi2 hsu hm_4; exact absurd hm_4 (by omega)
    | succ n_3 ih_2 =>
      intro su i hi hi2 hsu hm_4 H locs hP hD hS ls hl
      refine lv_iload hx hb dMd_squaresOf_5 (lv_at hl 4 rfl) ?_
      refine lv_aload_n hx hb dMd_squaresOf_7 rfl (lv_at hl 0 rfl) ?_
      refine va_get (D := D) (ci := 9) (v := .int (iZ t_bags)) (C := RMd) (T := TMd) (N := 21) hx hb hts layMd hown hK.1 hP 0 rfl rfl 7 (by decide) (hts _ (hm g441)) (fun _ h9 => h9) rfl dMd_squaresOf_8 ?_
      refine z_icmp_ge (tgt := 66) hx hb (by omega) (by omega) (by omega) (by omega) dMd_squaresOf_11 (by decide) (fun c_5 => ?_) (fun c_5 => ?_)
      ·
        refine lv_lload_n hx hb dMd_squaresOf_66 rfl (lv_at hl 3 rfl) ?_
        exact cq_lret hx hb hr hlocks hAe hQ su ⟨rfl, (by (try dsimp only) <;> (exact sz_end hsu (by omega)))⟩ (hP.sub [0, 1, 2, 3] rfl) (hD.sub [0, 1, 2, 3] (by decide) rfl) hS (by decide) (by decide) dMd_squaresOf_67
      ·
        refine lv_aload_n hx hb dMd_squaresOf_14 rfl (lv_at hl 0 rfl) ?_
        refine va_get (D := D) (ci := 9) (v := .ref t_grams_a) (C := RMd) (T := TMd) (N := 21) hx hb hts layMd hown hK.1 hP 0 rfl rfl 11 (by decide) (hts _ (hm g445)) (fun _ h9 => h9) rfl dMd_squaresOf_15 ?_
        refine lv_iconst (v := iZ 3) hx hb dMd_squaresOf_18 (by decide) ?_
        refine lv_iload hx hb dMd_squaresOf_19 (lv_at hl 4 rfl) ?_
        refine z_imul hx hb dMd_squaresOf_21 ?_
        refine cq_ti (congrArg iZ (Int.mul_comm _ _)) ?_
        refine lv_iload_n hx hb dMd_squaresOf_22 rfl (lv_at hl 2 rfl) ?_
        refine z_iadd hx hb dMd_squaresOf_23 ?_
        refine z_lald hx hb hK hP 3 1 rfl rfl (by omega) (by omega) (by decide) dMd_squaresOf_24 ?_
        have f_6 := hgr ((i * 3) + kind)
        refine lv_lstore (lv' := [(6, .long (lZ (t_grams_f ((i * 3) + kind)))), (0, .ref t_a), (1, .int (iZ z)), (2, .int (iZ kind)), (3, .long (lZ su)), (5, .int (iZ i))]) hx hb dMd_squaresOf_25 hl (by decide) rfl (fun ls hl => ?_)
        refine lv_lload_n hx hb dMd_squaresOf_27 rfl (lv_at hl 4 rfl) ?_
        refine lv_aload_n hx hb dMd_squaresOf_28 rfl (lv_at hl 1 rfl) ?_
        refine va_get (D := D) (ci := 9) (v := .ref t_owners_a) (C := RMd) (T := TMd) (N := 21) hx hb hts layMd hown hK.1 hP 0 rfl rfl 8 (by decide) (hts _ (hm g442)) (fun _ h9 => h9) rfl dMd_squaresOf_29 ?_
        refine lv_iload hx hb dMd_squaresOf_32 (lv_at hl 5 rfl) ?_
        refine z_iald hx hb hK hP 1 0 rfl rfl (by omega) (by omega) (by decide) dMd_squaresOf_34 ?_
        have f_7 := hho i
        refine lv_iload_n hx hb dMd_squaresOf_35 rfl (lv_at hl 2 rfl) ?_
        refine z_icmp_ne (tgt := 57) hx hb (by omega) (by omega) (by omega) (by omega) dMd_squaresOf_36 (by decide) (fun c_8 => ?_) (fun c_8 => ?_)
        ·
          refine lv_lconst (v := lZ 0) hx hb dMd_squaresOf_57 (by decide) ?_
          refine z_ladd hx hb dMd_squaresOf_58 ?_
          refine lv_lstore_n (lv' := [(3, .long (lZ (su + 0))), (6, .long (lZ (t_grams_f ((i * 3) + kind)))), (0, .ref t_a), (1, .int (iZ z)), (2, .int (iZ kind)), (5, .int (iZ i))]) hx hb dMd_squaresOf_59 rfl hl (by decide) rfl (fun ls hl => ?_)
          refine lv_iinc (v := iZ (i + 1)) (lv' := [(5, .int (iZ (i + 1))), (3, .long (lZ (su + 0))), (6, .long (lZ (t_grams_f ((i * 3) + kind)))), (0, .ref t_a), (1, .int (iZ z)), (2, .int (iZ kind))]) hx hb dMd_squaresOf_60 hl (k := 5) rfl (iZ_add i 1) (by decide) rfl (fun ls hl => ?_)
          refine lv_goto (tgt := 5) hx hb dMd_squaresOf_63 (by decide) ?_
          exact ih_2  (su + 0) (i + 1) (by omega) (by omega) (by first | exact gq_1 hsu hi (by assumption) (by assumption) | (rw [Int.add_zero]; exact gq_0 hsu hi (by first | exact Or.inl (by assumption) | exact Or.inr (by assumption)))) (by omega) _ _ (hP.sub [0, 1, 2, 3] rfl) (hD.sub [0, 1, 2, 3] (by decide) rfl) hS ls (lv_sub hl [3, 4, 5, 1, 0] rfl)
        ·
          refine lv_aload_n hx hb dMd_squaresOf_39 rfl (lv_at hl 1 rfl) ?_
          refine va_get (D := D) (ci := 9) (v := .ref t_missing_a) (C := RMd) (T := TMd) (N := 21) hx hb hts layMd hown hK.1 hP 0 rfl rfl 10 (by decide) (hts _ (hm g444)) (fun _ h9 => h9) rfl dMd_squaresOf_40 ?_
          refine lv_iload hx hb dMd_squaresOf_43 (lv_at hl 5 rfl) ?_
          refine z_zald hx hb hK hP 2 2 rfl rfl (by omega) (by omega) (by decide) dMd_squaresOf_45 ?_
          have f_9 := hlo i
          refine z_if_ne (tgt := 57) hx hb (by omega) (by omega) dMd_squaresOf_46 (by decide) (fun c_10 => ?_) (fun c_10 => ?_)
          ·
            refine lv_lconst (v := lZ 0) hx hb dMd_squaresOf_57 (by decide) ?_
            refine z_ladd hx hb dMd_squaresOf_58 ?_
            refine lv_lstore_n (lv' := [(3, .long (lZ (su + 0))), (6, .long (lZ (t_grams_f ((i * 3) + kind)))), (0, .ref t_a), (1, .int (iZ z)), (2, .int (iZ kind)), (5, .int (iZ i))]) hx hb dMd_squaresOf_59 rfl hl (by decide) rfl (fun ls hl => ?_)
            refine lv_iinc (v := iZ (i + 1)) (lv' := [(5, .int (iZ (i + 1))), (3, .long (lZ (su + 0))), (6, .long (lZ (t_grams_f ((i * 3) + kind)))), (0, .ref t_a), (1, .int (iZ z)), (2, .int (iZ kind))]) hx hb dMd_squaresOf_60 hl (k := 5) rfl (iZ_add i 1) (by decide) rfl (fun ls hl => ?_)
            refine lv_goto (tgt := 5) hx hb dMd_squaresOf_63 (by decide) ?_
            exact ih_2  (su + 0) (i + 1) (by omega) (by omega) (by first | exact gq_1 hsu hi (by assumption) (by assumption) | (rw [Int.add_zero]; exact gq_0 hsu hi (by first | exact Or.inl (by assumption) | exact Or.inr (by assumption)))) (by omega) _ _ (hP.sub [0, 1, 2, 3] rfl) (hD.sub [0, 1, 2, 3] (by decide) rfl) hS ls (lv_sub hl [3, 4, 5, 1, 0] rfl)
          ·
            refine lv_lload hx hb dMd_squaresOf_49 (lv_at hl 0 rfl) ?_
            refine lv_lload hx hb dMd_squaresOf_51 (lv_at hl 0 rfl) ?_
            refine z_lmul hx hb dMd_squaresOf_53 ?_
            refine lv_goto (tgt := 58) hx hb dMd_squaresOf_54 (by decide) ?_
            refine z_ladd hx hb dMd_squaresOf_58 ?_
            refine lv_lstore_n (lv' := [(3, .long (lZ (su + ((t_grams_f ((i * 3) + kind)) * (t_grams_f ((i * 3) + kind)))))), (6, .long (lZ (t_grams_f ((i * 3) + kind)))), (0, .ref t_a), (1, .int (iZ z)), (2, .int (iZ kind)), (5, .int (iZ i))]) hx hb dMd_squaresOf_59 rfl hl (by decide) rfl (fun ls hl => ?_)
            refine lv_iinc (v := iZ (i + 1)) (lv' := [(5, .int (iZ (i + 1))), (3, .long (lZ (su + ((t_grams_f ((i * 3) + kind)) * (t_grams_f ((i * 3) + kind)))))), (6, .long (lZ (t_grams_f ((i * 3) + kind)))), (0, .ref t_a), (1, .int (iZ z)), (2, .int (iZ kind))]) hx hb dMd_squaresOf_60 hl (k := 5) rfl (iZ_add i 1) (by decide) rfl (fun ls hl => ?_)
            refine lv_goto (tgt := 5) hx hb dMd_squaresOf_63 (by decide) ?_
            exact ih_2  (su + ((t_grams_f ((i * 3) + kind)) * (t_grams_f ((i * 3) + kind)))) (i + 1) (by omega) (by omega) (by first | exact gq_1 hsu hi (by assumption) (by assumption) | (rw [Int.add_zero]; exact gq_0 hsu hi (by first | exact Or.inl (by assumption) | exact Or.inr (by assumption)))) (by omega) _ _ (hP.sub [0, 1, 2, 3] rfl) (hD.sub [0, 1, 2, 3] (by decide) rfl) hS ls (lv_sub hl [3, 4, 5, 1, 0] rfl)
  exact loop_1 ((t_bags - 0 : Int).toNat + 1) 0 0 (by omega) (by omega) (by rfl) (by omega) _ _ (hP.sub [0, 1, 2, 3] rfl) (hD.sub [0, 1, 2, 3] (by decide) rfl) hS ls (lv_sub hl [2, 3, 4, 1, 0] rfl)
set_option maxHeartbeats 4000000 in
set_option maxRecDepth 100000 in
theorem m_counting (l : Launch) (D : va_G) (cI cJ cZ : ClassId) (t_a t_sizes_a t_costs_a t_gone_a t_drawn_a t_drawnCounts_a t_owners_a t_years_a t_missing_a t_grams_a t_planned_a t_againBag_a t_againKind_a t_againGrams_a t_trial_a : Nat) (sz : Nat) (t_seed : Int) (t_strata : Int) (t_bags : Int) (t_hasPlan : Int) (t_again : Int) (t_over : Int) (t_under : Int) (t_gone_f : Int → Int) (t_owners_f : Int → Int) (t_missing_f : Int → Int) (hn1 : 0 ≤ t_strata) (hn2 : t_strata ≤ 4) (hb1 : 0 ≤ t_bags) (hb2 : t_bags ≤ 12) (hgo : ∀ j, 0 ≤ t_gone_f j ∧ t_gone_f j ≤ 1) (hho : ∀ j, 0 ≤ t_owners_f j ∧ t_owners_f j ≤ 3) (hlo : ∀ j, 0 ≤ t_missing_f j ∧ t_missing_f j ≤ 1) (hzero : ∀ j, 0 ≤ j → j < 4 → (t_strata ≤ j ∨ ¬ t_gone_f j = 0) → NBf t_owners_f t_missing_f t_bags j = 0) : cq_i l yMd_counting wsMd_counting ({ frames := 2, cells := 0, slots := 0, locals := 44 }) D clAll [(cI, .int), (cJ, .long), (cZ, .boolean)] nwAll [.ref t_a] [(t_a, .inr (9, [.long (lZ t_seed), .int (iZ t_strata), .ref t_sizes_a, .ref t_costs_a, .ref t_gone_a, .ref t_drawn_a, .ref t_drawnCounts_a, .int (iZ t_bags), .ref t_owners_a, .ref t_years_a, .ref t_missing_a, .ref t_grams_a, .int (iZ t_hasPlan), .ref t_planned_a, .int (iZ t_again), .ref t_againBag_a, .ref t_againKind_a, .ref t_againGrams_a, .long (lZ t_over), .long (lZ t_under), .ref t_trial_a])), (t_gone_a, .inl (cZ, 4, .inl (aI t_gone_f))), (t_owners_a, .inl (cI, 12, .inl (aI t_owners_f))), (t_missing_a, .inl (cZ, 12, .inl (aI t_missing_f)))] sz (S := Int) (fun (r : Int32) (u : Int) => r = iZ u ∧ (u = CNv t_owners_f t_missing_f t_bags)) (fun (u : Int) => [(t_a, .inr (9, [.long (lZ t_seed), .int (iZ t_strata), .ref t_sizes_a, .ref t_costs_a, .ref t_gone_a, .ref t_drawn_a, .ref t_drawnCounts_a, .int (iZ t_bags), .ref t_owners_a, .ref t_years_a, .ref t_missing_a, .ref t_grams_a, .int (iZ t_hasPlan), .ref t_planned_a, .int (iZ t_again), .ref t_againBag_a, .ref t_againKind_a, .ref t_againGrams_a, .long (lZ t_over), .long (lZ t_under), .ref t_trial_a])), (t_gone_a, .inl (cZ, 4, .inl (aI t_gone_f))), (t_owners_a, .inl (cI, 12, .inl (aI t_owners_f))), (t_missing_a, .inl (cZ, 12, .inl (aI t_missing_f)))]) 0 0 := by
  refine cq_enter (cc := cMd_counting) (maxL := 3) (ret := some .int) (by decide) rfl (Nat.le_of_ble_eq_true rfl) ?_
  intro p e s m below meth c A args Q H hAe hQ hsz hAt hA hP hK hD hS ls hl
  obtain ⟨hx, hb, hr, hml, hown, hts, hlocks, hin⟩ := hAt
  have hown : s.vm.findClass RMd = some m.cls := hown
  have hl : lv_has ls 3 [(0, .ref t_a)] := hl
  refine lv_iconst (v := iZ 0) hx hb dMd_counting_0 (by decide) ?_
  refine lv_istore_n (lv' := [(1, .int (iZ 0)), (0, .ref t_a)]) hx hb dMd_counting_1 rfl hl (by decide) rfl (fun ls hl => ?_)
  refine lv_iconst (v := iZ 0) hx hb dMd_counting_2 (by decide) ?_
  refine lv_istore_n (lv' := [(2, .int (iZ 0)), (1, .int (iZ 0)), (0, .ref t_a)]) hx hb dMd_counting_3 rfl hl (by decide) rfl (fun ls hl => ?_)
  have loop_1 : ∀ (n_3 : Nat) (cn : Int) (i : Int), (0 ≤ i) → (i ≤ t_strata) → (cn = sZ (gc t_owners_f t_missing_f t_bags) i) → (t_strata - i < (n_3 : Int)) → ∀ (H : Heap) (locs : List Loc), va_P D clAll [(t_a, .inr (9, [.long (lZ t_seed), .int (iZ t_strata), .ref t_sizes_a, .ref t_costs_a, .ref t_gone_a, .ref t_drawn_a, .ref t_drawnCounts_a, .int (iZ t_bags), .ref t_owners_a, .ref t_years_a, .ref t_missing_a, .ref t_grams_a, .int (iZ t_hasPlan), .ref t_planned_a, .int (iZ t_again), .ref t_againBag_a, .ref t_againKind_a, .ref t_againGrams_a, .long (lZ t_over), .long (lZ t_under), .ref t_trial_a])), (t_gone_a, .inl (cZ, 4, .inl (aI t_gone_f))), (t_owners_a, .inl (cI, 12, .inl (aI t_owners_f))), (t_missing_a, .inl (cZ, 12, .inl (aI t_missing_f)))] H → va_D A [(t_a, .inr (9, [.long (lZ t_seed), .int (iZ t_strata), .ref t_sizes_a, .ref t_costs_a, .ref t_gone_a, .ref t_drawn_a, .ref t_drawnCounts_a, .int (iZ t_bags), .ref t_owners_a, .ref t_years_a, .ref t_missing_a, .ref t_grams_a, .int (iZ t_hasPlan), .ref t_planned_a, .int (iZ t_again), .ref t_againBag_a, .ref t_againKind_a, .ref t_againGrams_a, .long (lZ t_over), .long (lZ t_under), .ref t_trial_a])), (t_gone_a, .inl (cZ, 4, .inl (aI t_gone_f))), (t_owners_a, .inl (cI, 12, .inl (aI t_owners_f))), (t_missing_a, .inl (cZ, 12, .inl (aI t_missing_f)))] → va_S A s.heap H locs → ∀ ls : Array Slot, lv_has ls 3 [(0, .ref t_a), (1, .int (iZ cn)), (2, .int (iZ i))] → W p l e { frames := 2, cells := 0, slots := 0, locals := 44 } s m args below meth c H locs 0 0 Q (F0 m 4 ls []) := by
    intro n_3
    induction n_3 with
    | zero => intro cn i hi hi2 hcn hm_4; exact absurd hm_4 (by omega)
    | succ n_3 ih_2 =>
      intro cn i hi hi2 hcn hm_4 H locs hP hD hS ls hl
      refine lv_iload_n hx hb dMd_counting_4 rfl (lv_at hl 2 rfl) ?_
      refine lv_aload_n hx hb dMd_counting_5 rfl (lv_at hl 0 rfl) ?_
      refine va_get (D := D) (ci := 9) (v := .int (iZ t_strata)) (C := RMd) (T := TMd) (N := 21) hx hb hts layMd hown hK.1 hP 0 rfl rfl 1 (by decide) (hts _ (hm g435)) (fun _ h9 => h9) rfl dMd_counting_6 ?_
      refine z_icmp_ge (tgt := 34) hx hb (by omega) (by omega) (by omega) (by omega) dMd_counting_9 (by decide) (fun c_5 => ?_) (fun c_5 => ?_)
      ·
        refine lv_iload_n hx hb dMd_counting_34 rfl (lv_at hl 1 rfl) ?_
        exact cq_iret hx hb hr hlocks hAe hQ cn ⟨rfl, (by (try dsimp only) <;> (exact (sz_end hcn (by omega)).trans (gc_ext hn1 hn2 hzero)))⟩ (hP.sub [0, 1, 2, 3] rfl) (hD.sub [0, 1, 2, 3] (by decide) rfl) hS (by decide) (by decide) dMd_counting_35
      ·
        refine lv_iload_n hx hb dMd_counting_12 rfl (lv_at hl 1 rfl) ?_
        refine lv_aload_n hx hb dMd_counting_13 rfl (lv_at hl 0 rfl) ?_
        refine lv_iload_n hx hb dMd_counting_14 rfl (lv_at hl 2 rfl) ?_
        refine cq_calli (wr := []) (va_runV (C := RMd) (As := [.int (iZ i)]) (rest := [.int (iZ cn)]) ⟨hx, hb, hml, hown, hts⟩ (m_counts l D cI cJ cZ t_a t_sizes_a t_costs_a t_gone_a t_drawn_a t_drawnCounts_a t_owners_a t_years_a t_missing_a t_grams_a t_planned_a t_againBag_a t_againKind_a t_againGrams_a t_trial_a H.size t_seed t_strata t_bags t_hasPlan t_again t_over t_under t_gone_f t_owners_f t_missing_f i (by omega) (by omega) (by first | assumption | omega) (by first | assumption | omega) (by first | assumption | omega) (by first | assumption | omega) (by first | assumption | omega) (by first | assumption | omega) (by first | assumption | omega) (by first | assumption | omega) (by first | assumption | omega)) ⟨(callB_of 1 hts (gAll cmMd_counts) rfl rfl rfl (hts _ (hm g67)) (hts _ (hm g529)) (by decide +kernel) ⟨Nat.le_of_ble_eq_true rfl, Nat.le_of_ble_eq_true rfl⟩), (hts _ (hm g530)), (hts _ (hm g43))⟩ (cq_preV (va_recv hK.1 hP (ci := 9) (q0 := 0) rfl rfl) (cq_preS hK hP hD [0, 1, 2, 3] (by decide) rfl)) rfl rfl hl.1 rfl (lv_room (Nat.le_of_ble_eq_true rfl)) dMd_counting_15 ⟨by decide, by decide⟩) hP hD hS hA [0, 1, 2, 3] [] rfl rfl (by decide) (by decide) (fun r u H locs hw_6 hP hD hS => ?_)
        obtain ⟨o_7, rfl⟩ : ∃ z, z = u := ⟨_, rfl⟩
        try dsimp only at hw_6
        obtain ⟨rfl, pc0⟩ := hw_6
        have hP : va_P D clAll [(t_a, .inr (9, [.long (lZ t_seed), .int (iZ t_strata), .ref t_sizes_a, .ref t_costs_a, .ref t_gone_a, .ref t_drawn_a, .ref t_drawnCounts_a, .int (iZ t_bags), .ref t_owners_a, .ref t_years_a, .ref t_missing_a, .ref t_grams_a, .int (iZ t_hasPlan), .ref t_planned_a, .int (iZ t_again), .ref t_againBag_a, .ref t_againKind_a, .ref t_againGrams_a, .long (lZ t_over), .long (lZ t_under), .ref t_trial_a])), (t_gone_a, .inl (cZ, 4, .inl (aI t_gone_f))), (t_owners_a, .inl (cI, 12, .inl (aI t_owners_f))), (t_missing_a, .inl (cZ, 12, .inl (aI t_missing_f)))] H := hP
        have hD : va_D A [(t_a, .inr (9, [.long (lZ t_seed), .int (iZ t_strata), .ref t_sizes_a, .ref t_costs_a, .ref t_gone_a, .ref t_drawn_a, .ref t_drawnCounts_a, .int (iZ t_bags), .ref t_owners_a, .ref t_years_a, .ref t_missing_a, .ref t_grams_a, .int (iZ t_hasPlan), .ref t_planned_a, .int (iZ t_again), .ref t_againBag_a, .ref t_againKind_a, .ref t_againGrams_a, .long (lZ t_over), .long (lZ t_under), .ref t_trial_a])), (t_gone_a, .inl (cZ, 4, .inl (aI t_gone_f))), (t_owners_a, .inl (cI, 12, .inl (aI t_owners_f))), (t_missing_a, .inl (cZ, 12, .inl (aI t_missing_f)))] := hD
        refine z_if_eq (tgt := 25) hx hb (by omega) (by omega) dMd_counting_18 (by decide) (fun c_8 => ?_) (fun c_8 => ?_)
        ·
          refine lv_iconst (v := iZ 0) hx hb dMd_counting_25 (by decide) ?_
          refine z_iadd hx hb dMd_counting_26 ?_
          refine lv_istore_n (lv' := [(1, .int (iZ (cn + 0))), (0, .ref t_a), (2, .int (iZ i))]) hx hb dMd_counting_27 rfl hl (by decide) rfl (fun ls hl => ?_)
          refine lv_iinc (v := iZ (i + 1)) (lv' := [(2, .int (iZ (i + 1))), (1, .int (iZ (cn + 0))), (0, .ref t_a)]) hx hb dMd_counting_28 hl (k := 2) rfl (iZ_add i 1) (by decide) rfl (fun ls hl => ?_)
          refine lv_goto (tgt := 4) hx hb dMd_counting_31 (by decide) ?_
          exact ih_2  (cn + 0) (i + 1) (by omega) (by omega) (by first | exact gc_1 hcn hi (ct_y pc0 (by assumption)) | (rw [Int.add_zero]; exact gc_0 hcn hi (ct_n pc0 (by assumption)))) (by omega) _ _ (hP.sub [0, 1, 2, 3] rfl) (hD.sub [0, 1, 2, 3] (by decide) rfl) hS ls (lv_sub hl [2, 1, 0] rfl)
        ·
          refine lv_iconst (v := iZ 1) hx hb dMd_counting_21 (by decide) ?_
          refine lv_goto (tgt := 26) hx hb dMd_counting_22 (by decide) ?_
          refine z_iadd hx hb dMd_counting_26 ?_
          refine lv_istore_n (lv' := [(1, .int (iZ (cn + 1))), (0, .ref t_a), (2, .int (iZ i))]) hx hb dMd_counting_27 rfl hl (by decide) rfl (fun ls hl => ?_)
          refine lv_iinc (v := iZ (i + 1)) (lv' := [(2, .int (iZ (i + 1))), (1, .int (iZ (cn + 1))), (0, .ref t_a)]) hx hb dMd_counting_28 hl (k := 2) rfl (iZ_add i 1) (by decide) rfl (fun ls hl => ?_)
          refine lv_goto (tgt := 4) hx hb dMd_counting_31 (by decide) ?_
          exact ih_2  (cn + 1) (i + 1) (by omega) (by omega) (by first | exact gc_1 hcn hi (ct_y pc0 (by assumption)) | (rw [Int.add_zero]; exact gc_0 hcn hi (ct_n pc0 (by assumption)))) (by omega) _ _ (hP.sub [0, 1, 2, 3] rfl) (hD.sub [0, 1, 2, 3] (by decide) rfl) hS ls (lv_sub hl [2, 1, 0] rfl)
  exact loop_1 ((t_strata - 0 : Int).toNat + 1) 0 0 (by omega) (by omega) (by rfl) (by omega) _ _ (hP.sub [0, 1, 2, 3] rfl) (hD.sub [0, 1, 2, 3] (by decide) rfl) hS ls (lv_sub hl [2, 1, 0] rfl)
set_option maxHeartbeats 4000000 in
set_option maxRecDepth 100000 in
theorem m_allSizes (l : Launch) (D : va_G) (cI cJ cZ : ClassId) (t_a t_sizes_a t_costs_a t_gone_a t_drawn_a t_drawnCounts_a t_owners_a t_years_a t_missing_a t_grams_a t_planned_a t_againBag_a t_againKind_a t_againGrams_a t_trial_a : Nat) (sz : Nat) (t_seed : Int) (t_strata : Int) (t_bags : Int) (t_hasPlan : Int) (t_again : Int) (t_over : Int) (t_under : Int) (t_gone_f : Int → Int) (t_owners_f : Int → Int) (t_missing_f : Int → Int) (t_sizes_f : Int → Int) (hn1 : 0 ≤ t_strata) (hn2 : t_strata ≤ 4) (hb1 : 0 ≤ t_bags) (hb2 : t_bags ≤ 12) (hgo : ∀ j, 0 ≤ t_gone_f j ∧ t_gone_f j ≤ 1) (hho : ∀ j, 0 ≤ t_owners_f j ∧ t_owners_f j ≤ 3) (hlo : ∀ j, 0 ≤ t_missing_f j ∧ t_missing_f j ≤ 1) (hzero : ∀ j, 0 ≤ j → j < 4 → (t_strata ≤ j ∨ ¬ t_gone_f j = 0) → NBf t_owners_f t_missing_f t_bags j = 0) (hss : ∀ j, 0 ≤ t_sizes_f j ∧ t_sizes_f j ≤ 100) : cq_l l yMd_allSizes wsMd_allSizes ({ frames := 2, cells := 0, slots := 0, locals := 44 }) D clAll [(cI, .int), (cJ, .long), (cZ, .boolean)] nwAll [.ref t_a] [(t_a, .inr (9, [.long (lZ t_seed), .int (iZ t_strata), .ref t_sizes_a, .ref t_costs_a, .ref t_gone_a, .ref t_drawn_a, .ref t_drawnCounts_a, .int (iZ t_bags), .ref t_owners_a, .ref t_years_a, .ref t_missing_a, .ref t_grams_a, .int (iZ t_hasPlan), .ref t_planned_a, .int (iZ t_again), .ref t_againBag_a, .ref t_againKind_a, .ref t_againGrams_a, .long (lZ t_over), .long (lZ t_under), .ref t_trial_a])), (t_gone_a, .inl (cZ, 4, .inl (aI t_gone_f))), (t_owners_a, .inl (cI, 12, .inl (aI t_owners_f))), (t_missing_a, .inl (cZ, 12, .inl (aI t_missing_f))), (t_sizes_a, .inl (cI, 4, .inl (aI t_sizes_f)))] sz (S := Int) (fun (r : Int64) (u : Int) => r = lZ u ∧ (u = TTv t_owners_f t_missing_f t_sizes_f t_bags)) (fun (u : Int) => [(t_a, .inr (9, [.long (lZ t_seed), .int (iZ t_strata), .ref t_sizes_a, .ref t_costs_a, .ref t_gone_a, .ref t_drawn_a, .ref t_drawnCounts_a, .int (iZ t_bags), .ref t_owners_a, .ref t_years_a, .ref t_missing_a, .ref t_grams_a, .int (iZ t_hasPlan), .ref t_planned_a, .int (iZ t_again), .ref t_againBag_a, .ref t_againKind_a, .ref t_againGrams_a, .long (lZ t_over), .long (lZ t_under), .ref t_trial_a])), (t_gone_a, .inl (cZ, 4, .inl (aI t_gone_f))), (t_owners_a, .inl (cI, 12, .inl (aI t_owners_f))), (t_missing_a, .inl (cZ, 12, .inl (aI t_missing_f))), (t_sizes_a, .inl (cI, 4, .inl (aI t_sizes_f)))]) 0 0 := by
  refine cq_enter (cc := cMd_allSizes) (maxL := 4) (ret := some .long) (by decide) rfl (Nat.le_of_ble_eq_true rfl) ?_
  intro p e s m below meth c A args Q H hAe hQ hsz hAt hA hP hK hD hS ls hl
  obtain ⟨hx, hb, hr, hml, hown, hts, hlocks, hin⟩ := hAt
  have hown : s.vm.findClass RMd = some m.cls := hown
  have hl : lv_has ls 4 [(0, .ref t_a)] := hl
  refine lv_lconst (v := lZ 0) hx hb dMd_allSizes_0 (by decide) ?_
  refine lv_lstore_n (lv' := [(1, .long (lZ 0)), (0, .ref t_a)]) hx hb dMd_allSizes_1 rfl hl (by decide) rfl (fun ls hl => ?_)
  refine lv_iconst (v := iZ 0) hx hb dMd_allSizes_2 (by decide) ?_
  refine lv_istore_n (lv' := [(3, .int (iZ 0)), (1, .long (lZ 0)), (0, .ref t_a)]) hx hb dMd_allSizes_3 rfl hl (by decide) rfl (fun ls hl => ?_)
  have loop_1 : ∀ (n_3 : Nat) (to : Int) (i : Int), (0 ≤ i) → (i ≤ t_strata) → (to = sZ (gt t_owners_f t_missing_f t_bags t_sizes_f) i) → (t_strata - i < (n_3 : Int)) → ∀ (H : Heap) (locs : List Loc), va_P D clAll [(t_a, .inr (9, [.long (lZ t_seed), .int (iZ t_strata), .ref t_sizes_a, .ref t_costs_a, .ref t_gone_a, .ref t_drawn_a, .ref t_drawnCounts_a, .int (iZ t_bags), .ref t_owners_a, .ref t_years_a, .ref t_missing_a, .ref t_grams_a, .int (iZ t_hasPlan), .ref t_planned_a, .int (iZ t_again), .ref t_againBag_a, .ref t_againKind_a, .ref t_againGrams_a, .long (lZ t_over), .long (lZ t_under), .ref t_trial_a])), (t_gone_a, .inl (cZ, 4, .inl (aI t_gone_f))), (t_owners_a, .inl (cI, 12, .inl (aI t_owners_f))), (t_missing_a, .inl (cZ, 12, .inl (aI t_missing_f))), (t_sizes_a, .inl (cI, 4, .inl (aI t_sizes_f)))] H → va_D A [(t_a, .inr (9, [.long (lZ t_seed), .int (iZ t_strata), .ref t_sizes_a, .ref t_costs_a, .ref t_gone_a, .ref t_drawn_a, .ref t_drawnCounts_a, .int (iZ t_bags), .ref t_owners_a, .ref t_years_a, .ref t_missing_a, .ref t_grams_a, .int (iZ t_hasPlan), .ref t_planned_a, .int (iZ t_again), .ref t_againBag_a, .ref t_againKind_a, .ref t_againGrams_a, .long (lZ t_over), .long (lZ t_under), .ref t_trial_a])), (t_gone_a, .inl (cZ, 4, .inl (aI t_gone_f))), (t_owners_a, .inl (cI, 12, .inl (aI t_owners_f))), (t_missing_a, .inl (cZ, 12, .inl (aI t_missing_f))), (t_sizes_a, .inl (cI, 4, .inl (aI t_sizes_f)))] → va_S A s.heap H locs → ∀ ls : Array Slot, lv_has ls 4 [(0, .ref t_a), (1, .long (lZ to)), (3, .int (iZ i))] → W p l e { frames := 2, cells := 0, slots := 0, locals := 44 } s m args below meth c H locs 0 0 Q (F0 m 4 ls []) := by
    intro n_3
    induction n_3 with
    | zero => intro to i hi hi2 hto hm_4; exact absurd hm_4 (by omega)
    | succ n_3 ih_2 =>
      intro to i hi hi2 hto hm_4 H locs hP hD hS ls hl
      refine lv_iload_n hx hb dMd_allSizes_4 rfl (lv_at hl 2 rfl) ?_
      refine lv_aload_n hx hb dMd_allSizes_5 rfl (lv_at hl 0 rfl) ?_
      refine va_get (D := D) (ci := 9) (v := .int (iZ t_strata)) (C := RMd) (T := TMd) (N := 21) hx hb hts layMd hown hK.1 hP 0 rfl rfl 1 (by decide) (hts _ (hm g435)) (fun _ h9 => h9) rfl dMd_allSizes_6 ?_
      refine z_icmp_ge (tgt := 40) hx hb (by omega) (by omega) (by omega) (by omega) dMd_allSizes_9 (by decide) (fun c_5 => ?_) (fun c_5 => ?_)
      ·
        refine lv_lload_n hx hb dMd_allSizes_40 rfl (lv_at hl 1 rfl) ?_
        exact cq_lret hx hb hr hlocks hAe hQ to ⟨rfl, (by (try dsimp only) <;> (exact (sz_end hto (by omega)).trans (gt_ext hn1 hn2 hzero)))⟩ (hP.sub [0, 1, 2, 3, 4] rfl) (hD.sub [0, 1, 2, 3, 4] (by decide) rfl) hS (by decide) (by decide) dMd_allSizes_41
      ·
        refine lv_lload_n hx hb dMd_allSizes_12 rfl (lv_at hl 1 rfl) ?_
        refine lv_aload_n hx hb dMd_allSizes_13 rfl (lv_at hl 0 rfl) ?_
        refine lv_iload_n hx hb dMd_allSizes_14 rfl (lv_at hl 2 rfl) ?_
        refine cq_calli (wr := [(t_sizes_a, .inl (cI, 4, .inl (aI t_sizes_f)))]) (va_runV (C := RMd) (As := [.int (iZ i)]) (rest := [.long (lZ to)]) ⟨hx, hb, hml, hown, hts⟩ (m_counts l D cI cJ cZ t_a t_sizes_a t_costs_a t_gone_a t_drawn_a t_drawnCounts_a t_owners_a t_years_a t_missing_a t_grams_a t_planned_a t_againBag_a t_againKind_a t_againGrams_a t_trial_a H.size t_seed t_strata t_bags t_hasPlan t_again t_over t_under t_gone_f t_owners_f t_missing_f i (by omega) (by omega) (by first | assumption | omega) (by first | assumption | omega) (by first | assumption | omega) (by first | assumption | omega) (by first | assumption | omega) (by first | assumption | omega) (by first | assumption | omega) (by first | assumption | omega) (by first | assumption | omega)) ⟨(callB_of 1 hts (gAll cmMd_counts) rfl rfl rfl (hts _ (hm g67)) (hts _ (hm g529)) (by decide +kernel) ⟨Nat.le_of_ble_eq_true rfl, Nat.le_of_ble_eq_true rfl⟩), (hts _ (hm g530)), (hts _ (hm g43))⟩ (cq_preV (va_recv hK.1 hP (ci := 9) (q0 := 0) rfl rfl) (cq_preS hK hP hD [0, 1, 2, 3] (by decide) rfl)) rfl rfl hl.1 rfl (lv_room (Nat.le_of_ble_eq_true rfl)) dMd_allSizes_15 ⟨by decide, by decide⟩) hP hD hS hA [0, 1, 2, 3] [4] rfl rfl (by decide) (by decide) (fun r u H locs hw_6 hP hD hS => ?_)
        obtain ⟨o_7, rfl⟩ : ∃ z, z = u := ⟨_, rfl⟩
        try dsimp only at hw_6
        obtain ⟨rfl, pc0⟩ := hw_6
        have hP : va_P D clAll [(t_sizes_a, .inl (cI, 4, .inl (aI t_sizes_f))), (t_a, .inr (9, [.long (lZ t_seed), .int (iZ t_strata), .ref t_sizes_a, .ref t_costs_a, .ref t_gone_a, .ref t_drawn_a, .ref t_drawnCounts_a, .int (iZ t_bags), .ref t_owners_a, .ref t_years_a, .ref t_missing_a, .ref t_grams_a, .int (iZ t_hasPlan), .ref t_planned_a, .int (iZ t_again), .ref t_againBag_a, .ref t_againKind_a, .ref t_againGrams_a, .long (lZ t_over), .long (lZ t_under), .ref t_trial_a])), (t_gone_a, .inl (cZ, 4, .inl (aI t_gone_f))), (t_owners_a, .inl (cI, 12, .inl (aI t_owners_f))), (t_missing_a, .inl (cZ, 12, .inl (aI t_missing_f)))] H := hP
        have hD : va_D A [(t_sizes_a, .inl (cI, 4, .inl (aI t_sizes_f))), (t_a, .inr (9, [.long (lZ t_seed), .int (iZ t_strata), .ref t_sizes_a, .ref t_costs_a, .ref t_gone_a, .ref t_drawn_a, .ref t_drawnCounts_a, .int (iZ t_bags), .ref t_owners_a, .ref t_years_a, .ref t_missing_a, .ref t_grams_a, .int (iZ t_hasPlan), .ref t_planned_a, .int (iZ t_again), .ref t_againBag_a, .ref t_againKind_a, .ref t_againGrams_a, .long (lZ t_over), .long (lZ t_under), .ref t_trial_a])), (t_gone_a, .inl (cZ, 4, .inl (aI t_gone_f))), (t_owners_a, .inl (cI, 12, .inl (aI t_owners_f))), (t_missing_a, .inl (cZ, 12, .inl (aI t_missing_f)))] := hD
        refine z_if_eq (tgt := 31) hx hb (by omega) (by omega) dMd_allSizes_18 (by decide) (fun c_8 => ?_) (fun c_8 => ?_)
        ·
          refine lv_lconst (v := lZ 0) hx hb dMd_allSizes_31 (by decide) ?_
          refine z_ladd hx hb dMd_allSizes_32 ?_
          refine lv_lstore_n (lv' := [(1, .long (lZ (to + 0))), (0, .ref t_a), (3, .int (iZ i))]) hx hb dMd_allSizes_33 rfl hl (by decide) rfl (fun ls hl => ?_)
          refine lv_iinc (v := iZ (i + 1)) (lv' := [(3, .int (iZ (i + 1))), (1, .long (lZ (to + 0))), (0, .ref t_a)]) hx hb dMd_allSizes_34 hl (k := 2) rfl (iZ_add i 1) (by decide) rfl (fun ls hl => ?_)
          refine lv_goto (tgt := 4) hx hb dMd_allSizes_37 (by decide) ?_
          exact ih_2  (to + 0) (i + 1) (by omega) (by omega) (by first | exact gt_1 hto hi (ct_y pc0 (by assumption)) | (rw [Int.add_zero]; exact gt_0 hto hi (ct_n pc0 (by assumption)))) (by omega) _ _ (hP.sub [1, 2, 3, 4, 0] rfl) (hD.sub [1, 2, 3, 4, 0] (by decide) rfl) hS ls (lv_sub hl [2, 1, 0] rfl)
        ·
          refine lv_aload_n hx hb dMd_allSizes_21 rfl (lv_at hl 0 rfl) ?_
          refine va_get (D := D) (ci := 9) (v := .ref t_sizes_a) (C := RMd) (T := TMd) (N := 21) hx hb hts layMd hown hK.1 hP 1 rfl rfl 2 (by decide) (hts _ (hm g436)) (fun _ h9 => h9) rfl dMd_allSizes_22 ?_
          refine lv_iload_n hx hb dMd_allSizes_25 rfl (lv_at hl 2 rfl) ?_
          refine z_iald hx hb hK hP 0 0 rfl rfl (by omega) (by omega) (by decide) dMd_allSizes_26 ?_
          have f_9 := hss i
          refine z_i2l hx hb (by omega) (by omega) dMd_allSizes_27 ?_
          refine lv_goto (tgt := 32) hx hb dMd_allSizes_28 (by decide) ?_
          refine z_ladd hx hb dMd_allSizes_32 ?_
          refine lv_lstore_n (lv' := [(1, .long (lZ (to + (t_sizes_f i)))), (0, .ref t_a), (3, .int (iZ i))]) hx hb dMd_allSizes_33 rfl hl (by decide) rfl (fun ls hl => ?_)
          refine lv_iinc (v := iZ (i + 1)) (lv' := [(3, .int (iZ (i + 1))), (1, .long (lZ (to + (t_sizes_f i)))), (0, .ref t_a)]) hx hb dMd_allSizes_34 hl (k := 2) rfl (iZ_add i 1) (by decide) rfl (fun ls hl => ?_)
          refine lv_goto (tgt := 4) hx hb dMd_allSizes_37 (by decide) ?_
          exact ih_2  (to + (t_sizes_f i)) (i + 1) (by omega) (by omega) (by first | exact gt_1 hto hi (ct_y pc0 (by assumption)) | (rw [Int.add_zero]; exact gt_0 hto hi (ct_n pc0 (by assumption)))) (by omega) _ _ (hP.sub [1, 2, 3, 4, 0] rfl) (hD.sub [1, 2, 3, 4, 0] (by decide) rfl) hS ls (lv_sub hl [2, 1, 0] rfl)
  exact loop_1 ((t_strata - 0 : Int).toNat + 1) 0 0 (by omega) (by omega) (by rfl) (by omega) _ _ (hP.sub [0, 1, 2, 3, 4] rfl) (hD.sub [0, 1, 2, 3, 4] (by decide) rfl) hS ls (lv_sub hl [2, 1, 0] rfl)
set_option maxHeartbeats 4000000 in
set_option maxRecDepth 100000 in
theorem m_common (l : Launch) (D : va_G) (cI cJ cZ : ClassId) (sz : Nat) (ka : Int) (kb : Int) (h_ka1 : -9223372036854775808 ≤ ka) (h_ka2 : ka < 9223372036854775808) (h_kb1 : -9223372036854775808 ≤ kb) (h_kb2 : kb < 9223372036854775808) (ha : 0 ≤ ka) (hb0 : 0 ≤ kb) : cq_l l yMd_common wsMd_common ({ frames := 0, cells := 0, slots := 0, locals := 0 }) D clAll [(cI, .int), (cJ, .long), (cZ, .boolean)] nwAll [.long (lZ ka), .long (lZ kb)] [] sz (S := Int) (fun (r : Int64) (u : Int) => r = lZ u ∧ (u = (Int.gcd ka kb : Int))) (fun (u : Int) => []) 0 0 := by
  refine cq_enter (cc := cMd_common) (maxL := 10) (ret := some .long) (by decide) rfl (Nat.le_of_ble_eq_true rfl) ?_
  intro p e s m below meth c A args Q H hAe hQ hsz hAt hA hP hK hD hS ls hl
  obtain ⟨hx, hb, hr, hml, hown, hts, hlocks, hin⟩ := hAt
  have hown : s.vm.findClass RMd = some m.cls := hown
  have hl : lv_has ls 10 [(0, .long (lZ ka)), (2, .long (lZ kb))] := hl
  refine lv_lload_n hx hb dMd_common_0 rfl (lv_at hl 0 rfl) ?_
  refine lv_lstore (lv' := [(4, .long (lZ ka)), (0, .long (lZ ka)), (2, .long (lZ kb))]) hx hb dMd_common_1 hl (by decide) rfl (fun ls hl => ?_)
  refine lv_lload_n hx hb dMd_common_3 rfl (lv_at hl 2 rfl) ?_
  refine lv_lstore (lv' := [(6, .long (lZ kb)), (4, .long (lZ ka)), (0, .long (lZ ka)), (2, .long (lZ kb))]) hx hb dMd_common_4 hl (by decide) rfl (fun ls hl => ?_)
  have loop_1 : ∀ (n_3 : Nat) (x : Int) (y : Int), (0 ≤ x) → (x < 9223372036854775808) → (0 ≤ y) → (y < 9223372036854775808) → (Int.gcd x y = Int.gcd ka kb) → (x < (n_3 : Int)) → ∀ (H : Heap) (locs : List Loc), va_P D clAll [] H → va_D A [] → va_S A s.heap H locs → ∀ ls : Array Slot, lv_has ls 10 [(4, .long (lZ x)), (6, .long (lZ y))] → W p l e { frames := 0, cells := 0, slots := 0, locals := 0 } s m args below meth c H locs 0 0 Q (F0 m 6 ls []) := by
    intro n_3
    induction n_3 with
    | zero => intro x y hx0 hx2 hy0 hy2 hG hm_4; exact absurd hm_4 (by omega)
    | succ n_3 ih_2 =>
      intro x y hx0 hx2 hy0 hy2 hG hm_4 H locs hP hD hS ls hl
      refine lv_lload hx hb dMd_common_6 (lv_at hl 0 rfl) ?_
      refine lv_lconst (v := lZ 0) hx hb dMd_common_8 (by decide) ?_
      refine z_lcmp_eq (tgt := 31) hx hb (by omega) (by omega) (by omega) (by omega) dMd_common_9 dMd_common_10 (by decide) (fun c_5 => ?_) (fun c_5 => ?_)
      ·
        refine lv_lload hx hb dMd_common_31 (lv_at hl 1 rfl) ?_
        exact cq_lret hx hb hr hlocks hAe hQ y ⟨rfl, (by (try dsimp only) <;> (exact gs_end2 hy0 hG (by assumption)))⟩ (hP.sub [] rfl) (hD.sub [] (by decide) rfl) hS (by decide) (by decide) dMd_common_33
      ·
        refine lv_lload hx hb dMd_common_13 (lv_at hl 1 rfl) ?_
        refine lv_lload hx hb dMd_common_15 (lv_at hl 0 rfl) ?_
        refine z_lrem hx hb (by omega) (by omega) (by omega) (by omega) dMd_common_17 ?_
        refine lv_lstore (lv' := [(8, .long (lZ (y % x))), (4, .long (lZ x)), (6, .long (lZ y))]) hx hb dMd_common_18 hl (by decide) rfl (fun ls hl => ?_)
        refine lv_lload hx hb dMd_common_20 (lv_at hl 1 rfl) ?_
        refine lv_lstore (lv' := [(6, .long (lZ x)), (8, .long (lZ (y % x))), (4, .long (lZ x))]) hx hb dMd_common_22 hl (by decide) rfl (fun ls hl => ?_)
        refine lv_lload hx hb dMd_common_24 (lv_at hl 1 rfl) ?_
        refine lv_lstore (lv' := [(4, .long (lZ (y % x))), (6, .long (lZ x)), (8, .long (lZ (y % x)))]) hx hb dMd_common_26 hl (by decide) rfl (fun ls hl => ?_)
        refine lv_goto (tgt := 6) hx hb dMd_common_28 (by decide) ?_
        exact ih_2  (y % x) x (by exact Int.emod_nonneg _ (by assumption)) (by exact gs_lt hx0 hx2 (by assumption)) (by omega) (by omega) (by exact (gc_step2 x y).trans hG) (by first | omega | exact gs_m hx0 (by assumption) (by assumption)) _ _ (hP.sub [] rfl) (hD.sub [] (by decide) rfl) hS ls (lv_sub hl [0, 1] rfl)
  exact loop_1 ((ka : Int).toNat + 1) ka kb (by omega) (by omega) (by omega) (by omega) (by rfl) (by first | omega | exact gs_m hx0 (by assumption) (by assumption)) _ _ (hP.sub [] rfl) (hD.sub [] (by decide) rfl) hS ls (lv_sub hl [1, 0] rfl)
set_option maxHeartbeats 4000000 in
set_option maxRecDepth 100000 in
theorem m_multiple (l : Launch) (D : va_G) (cI cJ cZ : ClassId) (sz : Nat) (ka : Int) (kb : Int) (h_ka1 : -9223372036854775808 ≤ ka) (h_ka2 : ka < 9223372036854775808) (h_kb1 : -9223372036854775808 ≤ kb) (h_kb2 : kb < 9223372036854775808) (ha : 1 ≤ ka) (hb0 : 1 ≤ kb) : cq_l l yMd_multiple wsMd_multiple ({ frames := 1, cells := 0, slots := 0, locals := 29 }) D clAll [(cI, .int), (cJ, .long), (cZ, .boolean)] nwAll [.long (lZ ka), .long (lZ kb)] [] sz (S := Int) (fun (r : Int64) (u : Int) => r = lZ u ∧ (u = lc ka kb)) (fun (u : Int) => []) 0 0 := by
  refine cq_enter (cc := cMd_multiple) (maxL := 4) (ret := some .long) (by decide) rfl (Nat.le_of_ble_eq_true rfl) ?_
  intro p e s m below meth c A args Q H hAe hQ hsz hAt hA hP hK hD hS ls hl
  obtain ⟨hx, hb, hr, hml, hown, hts, hlocks, hin⟩ := hAt
  have hown : s.vm.findClass RMd = some m.cls := hown
  have hl : lv_has ls 4 [(0, .long (lZ ka)), (2, .long (lZ kb))] := hl
  refine lv_lload_n hx hb dMd_multiple_0 rfl (lv_at hl 0 rfl) ?_
  refine lv_lload_n hx hb dMd_multiple_1 rfl (lv_at hl 0 rfl) ?_
  refine lv_lload_n hx hb dMd_multiple_2 rfl (lv_at hl 1 rfl) ?_
  refine cq_calll (wr := []) (va_runS (As := [.long (lZ ka), .long (lZ kb)]) (rest := [.long (lZ ka)]) ⟨hx, hb, hml, hown, hts⟩ (m_common l D cI cJ cZ H.size ka kb (by omega) (by omega) (by omega) (by omega) (by first | assumption | omega) (by first | assumption | omega)) ⟨(callB_of 2 hts (gAll cmMd_common) rfl rfl rfl (hts _ (hm g67)) (hts _ (hm g544)) (by decide +kernel) ⟨Nat.le_of_ble_eq_true rfl, Nat.le_of_ble_eq_true rfl⟩), (hts _ (hm g545))⟩ (cq_preS hK hP hD [] (by decide) rfl) rfl rfl hl.1 rfl (lv_room (Nat.le_of_ble_eq_true rfl)) dMd_multiple_3 ⟨by decide, by decide⟩) hP hD hS hA [] [] rfl rfl (by decide) (by decide) (fun r u H locs hw_1 hP hD hS => ?_)
  obtain ⟨o_2, rfl⟩ : ∃ z, z = u := ⟨_, rfl⟩
  try dsimp only at hw_1
  obtain ⟨rfl, rfl⟩ := hw_1
  have hP : va_P D clAll [] H := hP
  have hD : va_D A [] := hD
  have hgp := gc_bd (b := kb) ha
  refine z_ldiv hx hb (by omega) (by omega) (by omega) (by omega) dMd_multiple_6 ?_
  refine lv_lload_n hx hb dMd_multiple_7 rfl (lv_at hl 1 rfl) ?_
  refine z_lmul hx hb dMd_multiple_8 ?_
  exact cq_lret hx hb hr hlocks hAe hQ ((ka / (Int.gcd ka kb : Int)) * kb) ⟨rfl, (by (try dsimp only) <;> (rfl))⟩ (hP.sub [] rfl) (hD.sub [] (by decide) rfl) hS (by decide) (by decide) dMd_multiple_9
set_option maxHeartbeats 4000000 in
set_option maxRecDepth 100000 in
theorem m_part (l : Launch) (D : va_G) (cI cJ cZ : ClassId) (t_a t_sizes_a t_costs_a t_gone_a t_drawn_a t_drawnCounts_a t_owners_a t_years_a t_missing_a t_grams_a t_planned_a t_againBag_a t_againKind_a t_againGrams_a t_trial_a : Nat) (sz : Nat) (t_seed : Int) (t_strata : Int) (t_bags : Int) (t_hasPlan : Int) (t_again : Int) (t_over : Int) (t_under : Int) (kp : Int) (h_kp1 : -2147483648 ≤ kp) (h_kp2 : kp < 2147483648) (ho1 : 0 ≤ t_over) (ho2 : t_over < 9223372036854775808) (hu1 : 1 ≤ t_under) (hu2 : t_under < 9223372036854775808) : cq_l l yMd_part wsMd_part ({ frames := 1, cells := 0, slots := 0, locals := 29 }) D clAll [(cI, .int), (cJ, .long), (cZ, .boolean)] nwAll [.ref t_a, .int (iZ kp)] [(t_a, .inr (9, [.long (lZ t_seed), .int (iZ t_strata), .ref t_sizes_a, .ref t_costs_a, .ref t_gone_a, .ref t_drawn_a, .ref t_drawnCounts_a, .int (iZ t_bags), .ref t_owners_a, .ref t_years_a, .ref t_missing_a, .ref t_grams_a, .int (iZ t_hasPlan), .ref t_planned_a, .int (iZ t_again), .ref t_againBag_a, .ref t_againKind_a, .ref t_againGrams_a, .long (lZ t_over), .long (lZ t_under), .ref t_trial_a]))] sz (S := Int) (fun (r : Int64) (u : Int) => r = lZ u ∧ (u = telv t_over t_under kp)) (fun (u : Int) => [(t_a, .inr (9, [.long (lZ t_seed), .int (iZ t_strata), .ref t_sizes_a, .ref t_costs_a, .ref t_gone_a, .ref t_drawn_a, .ref t_drawnCounts_a, .int (iZ t_bags), .ref t_owners_a, .ref t_years_a, .ref t_missing_a, .ref t_grams_a, .int (iZ t_hasPlan), .ref t_planned_a, .int (iZ t_again), .ref t_againBag_a, .ref t_againKind_a, .ref t_againGrams_a, .long (lZ t_over), .long (lZ t_under), .ref t_trial_a]))]) 0 0 := by
  refine cq_enter (cc := cMd_part) (maxL := 4) (ret := some .long) (by decide) rfl (Nat.le_of_ble_eq_true rfl) ?_
  intro p e s m below meth c A args Q H hAe hQ hsz hAt hA hP hK hD hS ls hl
  obtain ⟨hx, hb, hr, hml, hown, hts, hlocks, hin⟩ := hAt
  have hown : s.vm.findClass RMd = some m.cls := hown
  have hl : lv_has ls 4 [(0, .ref t_a), (1, .int (iZ kp))] := hl
  refine lv_aload_n hx hb dMd_part_0 rfl (lv_at hl 0 rfl) ?_
  refine va_get (D := D) (ci := 9) (v := .long (lZ t_over)) (C := RMd) (T := TMd) (N := 21) hx hb hts layMd hown hK.1 hP 0 rfl rfl 18 (by decide) (hts _ (hm g452)) (fun _ h9 => h9) rfl dMd_part_1 ?_
  refine lv_aload_n hx hb dMd_part_4 rfl (lv_at hl 0 rfl) ?_
  refine va_get (D := D) (ci := 9) (v := .long (lZ t_under)) (C := RMd) (T := TMd) (N := 21) hx hb hts layMd hown hK.1 hP 0 rfl rfl 19 (by decide) (hts _ (hm g453)) (fun _ h9 => h9) rfl dMd_part_5 ?_
  refine cq_calll (wr := [(t_a, .inr (9, [.long (lZ t_seed), .int (iZ t_strata), .ref t_sizes_a, .ref t_costs_a, .ref t_gone_a, .ref t_drawn_a, .ref t_drawnCounts_a, .int (iZ t_bags), .ref t_owners_a, .ref t_years_a, .ref t_missing_a, .ref t_grams_a, .int (iZ t_hasPlan), .ref t_planned_a, .int (iZ t_again), .ref t_againBag_a, .ref t_againKind_a, .ref t_againGrams_a, .long (lZ t_over), .long (lZ t_under), .ref t_trial_a]))]) (va_runS (As := [.long (lZ t_over), .long (lZ t_under)]) (rest := []) ⟨hx, hb, hml, hown, hts⟩ (m_common l D cI cJ cZ H.size t_over t_under (by omega) (by omega) (by omega) (by omega) (by first | assumption | omega) (by first | assumption | omega)) ⟨(callB_of 2 hts (gAll cmMd_common) rfl rfl rfl (hts _ (hm g67)) (hts _ (hm g544)) (by decide +kernel) ⟨Nat.le_of_ble_eq_true rfl, Nat.le_of_ble_eq_true rfl⟩), (hts _ (hm g545))⟩ (cq_preS hK hP hD [] (by decide) rfl) rfl rfl hl.1 rfl (lv_room (Nat.le_of_ble_eq_true rfl)) dMd_part_8 ⟨by decide, by decide⟩) hP hD hS hA [] [0] rfl rfl (by decide) (by decide) (fun r u H locs hw_1 hP hD hS => ?_)
  obtain ⟨o_2, rfl⟩ : ∃ z, z = u := ⟨_, rfl⟩
  try dsimp only at hw_1
  obtain ⟨rfl, rfl⟩ := hw_1
  have hP : va_P D clAll [(t_a, .inr (9, [.long (lZ t_seed), .int (iZ t_strata), .ref t_sizes_a, .ref t_costs_a, .ref t_gone_a, .ref t_drawn_a, .ref t_drawnCounts_a, .int (iZ t_bags), .ref t_owners_a, .ref t_years_a, .ref t_missing_a, .ref t_grams_a, .int (iZ t_hasPlan), .ref t_planned_a, .int (iZ t_again), .ref t_againBag_a, .ref t_againKind_a, .ref t_againGrams_a, .long (lZ t_over), .long (lZ t_under), .ref t_trial_a]))] H := hP
  have hD : va_D A [(t_a, .inr (9, [.long (lZ t_seed), .int (iZ t_strata), .ref t_sizes_a, .ref t_costs_a, .ref t_gone_a, .ref t_drawn_a, .ref t_drawnCounts_a, .int (iZ t_bags), .ref t_owners_a, .ref t_years_a, .ref t_missing_a, .ref t_grams_a, .int (iZ t_hasPlan), .ref t_planned_a, .int (iZ t_again), .ref t_againBag_a, .ref t_againKind_a, .ref t_againGrams_a, .long (lZ t_over), .long (lZ t_under), .ref t_trial_a]))] := hD
  have hgp := gc_bd2 (a := t_over) hu1
  refine lv_lstore_n (lv' := [(2, .long (lZ (Int.gcd t_over t_under : Int))), (0, .ref t_a), (1, .int (iZ kp))]) hx hb dMd_part_11 rfl hl (by decide) rfl (fun ls hl => ?_)
  refine lv_iload_n hx hb dMd_part_12 rfl (lv_at hl 2 rfl) ?_
  refine z_if_ne (tgt := 25) hx hb (by omega) (by omega) dMd_part_13 (by decide) (fun c_3 => ?_) (fun c_3 => ?_)
  ·
    refine lv_aload_n hx hb dMd_part_25 rfl (lv_at hl 1 rfl) ?_
    refine va_get (D := D) (ci := 9) (v := .long (lZ t_under)) (C := RMd) (T := TMd) (N := 21) hx hb hts layMd hown hK.1 hP 0 rfl rfl 19 (by decide) (hts _ (hm g453)) (fun _ h9 => h9) rfl dMd_part_26 ?_
    refine lv_lload_n hx hb dMd_part_29 rfl (lv_at hl 0 rfl) ?_
    refine z_ldiv hx hb (by omega) (by omega) (by omega) (by omega) dMd_part_30 ?_
    exact cq_lret hx hb hr hlocks hAe hQ (t_under / (Int.gcd t_over t_under : Int)) ⟨rfl, (by (try dsimp only) <;> (first | exact te_0 (by assumption) | exact te_1 (by assumption)))⟩ (hP.sub [0] rfl) (hD.sub [0] (by decide) rfl) hS (by decide) (by decide) dMd_part_31
  ·
    refine lv_aload_n hx hb dMd_part_16 rfl (lv_at hl 1 rfl) ?_
    refine va_get (D := D) (ci := 9) (v := .long (lZ t_over)) (C := RMd) (T := TMd) (N := 21) hx hb hts layMd hown hK.1 hP 0 rfl rfl 18 (by decide) (hts _ (hm g452)) (fun _ h9 => h9) rfl dMd_part_17 ?_
    refine lv_lload_n hx hb dMd_part_20 rfl (lv_at hl 0 rfl) ?_
    refine z_ldiv hx hb (by omega) (by omega) (by omega) (by omega) dMd_part_21 ?_
    refine lv_goto (tgt := 31) hx hb dMd_part_22 (by decide) ?_
    exact cq_lret hx hb hr hlocks hAe hQ (t_over / (Int.gcd t_over t_under : Int)) ⟨rfl, (by (try dsimp only) <;> (first | exact te_0 (by assumption) | exact te_1 (by assumption)))⟩ (hP.sub [0] rfl) (hD.sub [0] (by decide) rfl) hS (by decide) (by decide) dMd_part_31
