set_option maxHeartbeats 4000000 in
set_option maxRecDepth 100000 in
theorem k_Terms_init (l : Launch) (D : va_G) (cI cJ cZ : ClassId) (t_a : Nat) (sz : Nat) : cq_v l yTm_init wsTm_init ({ frames := 1, cells := 2, slots := 8, locals := 12 }) D clAll [(cI, .int), (cJ, .long), (cZ, .boolean)] nwAll [.ref t_a] [(t_a, .inr (7, [.null, .null]))] sz (S := Nat × Nat) (fun (u : Nat × Nat) => True) (fun (u : Nat × Nat) => [(t_a, .inr (7, [.ref u.1, .ref u.2])), (u.1, .inl (cJ, 4, .inr (.inl (aL (fun _ => 0))))), (u.2, .inl (cJ, 4, .inr (.inl (aL (fun _ => 0)))))]) 2 8 := by
  refine cq_enter (cc := cTm_init) (maxL := 1) (ret := none) (by decide) rfl (Nat.le_of_ble_eq_true rfl) ?_
  intro p e s m below meth c A args Q H hAe hQ hsz hAt hA hP hK hD hS ls hl
  obtain ⟨hx, hb, hr, hml, hown, hts, hlocks, hin⟩ := hAt
  have hown : s.vm.findClass RTm = some m.cls := hown
  have hl : lv_has ls 1 [(0, .ref t_a)] := hl
  have hin : meth.name = "<init>" := hin
  refine lv_aload_n hx hb dTm_init_0 rfl (lv_at hl 0 rfl) ?_
  refine W.objInit hx hb hown (hts _ (hm g144)) (hts _ (hm g78)) (hts _ (hm g79)) rfl (by rw [hml]; exact hl.1) rfl dTm_init_1 (Nat.le_of_ble_eq_true rfl) (Nat.le_of_ble_eq_true rfl) ?_
  refine W.eq (g2 := F0 m 4 ls []) rfl ?_
  refine lv_aload_n hx hb dTm_init_4 rfl (lv_at hl 0 rfl) ?_
  refine lv_iconst (v := iZ 4) hx hb dTm_init_5 (by decide) ?_
  refine cq_newa (atype := .long) (a0 := (4, .inr (.inl (aL (fun _ => 0))))) hx hb (hts _ (hm g94)) rfl hK hP hD hS hA 1 rfl (fun cA => by rw [← aL_0]; rfl) (by decide) (by decide) (by decide) (Nat.le_of_ble_eq_true rfl) (Nat.le_of_ble_eq_true rfl) dTm_init_6 (fun q_1 H hP hD hS => ?_)
  have hP : va_P D clAll [(t_a, .inr (7, [.null, .null])), (q_1, .inl (cJ, 4, .inr (.inl (aL (fun _ => 0)))))] H := hP
  have hD : va_D A [(t_a, .inr (7, [.null, .null])), (q_1, .inl (cJ, 4, .inr (.inl (aL (fun _ => 0)))))] := hD
  refine W.widen (k := 1) (n := 4) (by decide) (by decide) ?_
  refine va_putF (D := D) (ci := 7) (v := .ref q_1) (ty := .array .long) (C := RTm) (T := TTm) (N := 2) hx hb hts layTm tyTm tyTm_ok nmTm hown hK.1 hP hD hS 0 rfl rfl 0 (by decide) (hts _ (hm g145)) (fun _ h9 => h9) rfl hin rfl (by decide +kernel) rfl rfl (Nat.le_of_ble_eq_true rfl) dTm_init_8 (fun H locs hP hD hS => ?_)
  have hP : va_P D clAll [(t_a, .inr (7, [.ref q_1, .null])), (q_1, .inl (cJ, 4, .inr (.inl (aL (fun _ => 0)))))] H := hP
  have hD : va_D A [(t_a, .inr (7, [.ref q_1, .null])), (q_1, .inl (cJ, 4, .inr (.inl (aL (fun _ => 0)))))] := hD
  refine lv_aload_n hx hb dTm_init_11 rfl (lv_at hl 0 rfl) ?_
  refine lv_iconst (v := iZ 4) hx hb dTm_init_12 (by decide) ?_
  refine cq_newa (atype := .long) (a0 := (4, .inr (.inl (aL (fun _ => 0))))) hx hb (hts _ (hm g94)) rfl hK hP hD hS hA 1 rfl (fun cA => by rw [← aL_0]; rfl) (by decide) (by decide) (by decide) (Nat.le_of_ble_eq_true rfl) (Nat.le_of_ble_eq_true rfl) dTm_init_13 (fun q_2 H hP hD hS => ?_)
  have hP : va_P D clAll [(t_a, .inr (7, [.ref q_1, .null])), (q_1, .inl (cJ, 4, .inr (.inl (aL (fun _ => 0))))), (q_2, .inl (cJ, 4, .inr (.inl (aL (fun _ => 0)))))] H := hP
  have hD : va_D A [(t_a, .inr (7, [.ref q_1, .null])), (q_1, .inl (cJ, 4, .inr (.inl (aL (fun _ => 0))))), (q_2, .inl (cJ, 4, .inr (.inl (aL (fun _ => 0)))))] := hD
  refine W.widen (k := 2) (n := 8) (by decide) (by decide) ?_
  refine va_putF (D := D) (ci := 7) (v := .ref q_2) (ty := .array .long) (C := RTm) (T := TTm) (N := 2) hx hb hts layTm tyTm tyTm_ok nmTm hown hK.1 hP hD hS 0 rfl rfl 1 (by decide) (hts _ (hm g146)) (fun _ h9 => h9) rfl hin rfl (by decide +kernel) rfl rfl (Nat.le_of_ble_eq_true rfl) dTm_init_15 (fun H locs hP hD hS => ?_)
  have hP : va_P D clAll [(t_a, .inr (7, [.ref q_1, .ref q_2])), (q_1, .inl (cJ, 4, .inr (.inl (aL (fun _ => 0))))), (q_2, .inl (cJ, 4, .inr (.inl (aL (fun _ => 0)))))] H := hP
  have hD : va_D A [(t_a, .inr (7, [.ref q_1, .ref q_2])), (q_1, .inl (cJ, 4, .inr (.inl (aL (fun _ => 0))))), (q_2, .inl (cJ, 4, .inr (.inl (aL (fun _ => 0)))))] := hD
  exact cq_vret hx hb hr hlocks hAe hQ (q_1, q_2) trivial (hP.sub [0, 1, 2] rfl) (hD.sub [0, 1, 2] (by decide) rfl) hS (by decide) (by decide) dTm_init_18
set_option maxHeartbeats 4000000 in
set_option maxRecDepth 100000 in
theorem k_Strata_init (l : Launch) (D : va_G) (cI cJ cZ : ClassId) (t_a : Nat) (sz : Nat) : cq_v l ySt_init wsSt_init ({ frames := 1, cells := 3, slots := 12, locals := 12 }) D clAll [(cI, .int), (cJ, .long), (cZ, .boolean)] nwAll [.ref t_a] [(t_a, .inr (6, [.null, .null, .null, .int (iZ 0)]))] sz (S := Nat × Nat × Nat) (fun (u : Nat × Nat × Nat) => True) (fun (u : Nat × Nat × Nat) => [(t_a, .inr (6, [.ref u.1, .ref u.2.1, .ref u.2.2, .int (iZ 0)])), (u.1, .inl (cI, 4, .inl (aI (fun _ => 0)))), (u.2.1, .inl (cJ, 4, .inr (.inl (aL (fun _ => 0))))), (u.2.2, .inl (cZ, 4, .inl (aI (fun _ => 0))))]) 3 12 := by
  refine cq_enter (cc := cSt_init) (maxL := 1) (ret := none) (by decide) rfl (Nat.le_of_ble_eq_true rfl) ?_
  intro p e s m below meth c A args Q H hAe hQ hsz hAt hA hP hK hD hS ls hl
  obtain ⟨hx, hb, hr, hml, hown, hts, hlocks, hin⟩ := hAt
  have hown : s.vm.findClass RSt = some m.cls := hown
  have hl : lv_has ls 1 [(0, .ref t_a)] := hl
  have hin : meth.name = "<init>" := hin
  refine lv_aload_n hx hb dSt_init_0 rfl (lv_at hl 0 rfl) ?_
  refine W.objInit hx hb hown (hts _ (hm g84)) (hts _ (hm g78)) (hts _ (hm g79)) rfl (by rw [hml]; exact hl.1) rfl dSt_init_1 (Nat.le_of_ble_eq_true rfl) (Nat.le_of_ble_eq_true rfl) ?_
  refine W.eq (g2 := F0 m 4 ls []) rfl ?_
  refine lv_aload_n hx hb dSt_init_4 rfl (lv_at hl 0 rfl) ?_
  refine lv_iconst (v := iZ 4) hx hb dSt_init_5 (by decide) ?_
  refine cq_newa (atype := .int) (a0 := (4, .inl (aI (fun _ => 0)))) hx hb (hts _ (hm g93)) rfl hK hP hD hS hA 0 rfl (fun cA => by rw [← aI_0]; rfl) (by decide) (by decide) (by decide) (Nat.le_of_ble_eq_true rfl) (Nat.le_of_ble_eq_true rfl) dSt_init_6 (fun q_1 H hP hD hS => ?_)
  have hP : va_P D clAll [(t_a, .inr (6, [.null, .null, .null, .int (iZ 0)])), (q_1, .inl (cI, 4, .inl (aI (fun _ => 0))))] H := hP
  have hD : va_D A [(t_a, .inr (6, [.null, .null, .null, .int (iZ 0)])), (q_1, .inl (cI, 4, .inl (aI (fun _ => 0))))] := hD
  refine W.widen (k := 1) (n := 4) (by decide) (by decide) ?_
  refine va_putF (D := D) (ci := 6) (v := .ref q_1) (ty := .array .int) (C := RSt) (T := TSt) (N := 4) hx hb hts laySt tySt tySt_ok nmSt hown hK.1 hP hD hS 0 rfl rfl 0 (by decide) (hts _ (hm g85)) (fun _ h9 => h9) rfl hin rfl (by decide +kernel) rfl rfl (Nat.le_of_ble_eq_true rfl) dSt_init_8 (fun H locs hP hD hS => ?_)
  have hP : va_P D clAll [(t_a, .inr (6, [.ref q_1, .null, .null, .int (iZ 0)])), (q_1, .inl (cI, 4, .inl (aI (fun _ => 0))))] H := hP
  have hD : va_D A [(t_a, .inr (6, [.ref q_1, .null, .null, .int (iZ 0)])), (q_1, .inl (cI, 4, .inl (aI (fun _ => 0))))] := hD
  refine lv_aload_n hx hb dSt_init_11 rfl (lv_at hl 0 rfl) ?_
  refine lv_iconst (v := iZ 4) hx hb dSt_init_12 (by decide) ?_
  refine cq_newa (atype := .long) (a0 := (4, .inr (.inl (aL (fun _ => 0))))) hx hb (hts _ (hm g94)) rfl hK hP hD hS hA 1 rfl (fun cA => by rw [← aL_0]; rfl) (by decide) (by decide) (by decide) (Nat.le_of_ble_eq_true rfl) (Nat.le_of_ble_eq_true rfl) dSt_init_13 (fun q_2 H hP hD hS => ?_)
  have hP : va_P D clAll [(t_a, .inr (6, [.ref q_1, .null, .null, .int (iZ 0)])), (q_1, .inl (cI, 4, .inl (aI (fun _ => 0)))), (q_2, .inl (cJ, 4, .inr (.inl (aL (fun _ => 0)))))] H := hP
  have hD : va_D A [(t_a, .inr (6, [.ref q_1, .null, .null, .int (iZ 0)])), (q_1, .inl (cI, 4, .inl (aI (fun _ => 0)))), (q_2, .inl (cJ, 4, .inr (.inl (aL (fun _ => 0)))))] := hD
  refine W.widen (k := 2) (n := 8) (by decide) (by decide) ?_
  refine va_putF (D := D) (ci := 6) (v := .ref q_2) (ty := .array .long) (C := RSt) (T := TSt) (N := 4) hx hb hts laySt tySt tySt_ok nmSt hown hK.1 hP hD hS 0 rfl rfl 1 (by decide) (hts _ (hm g86)) (fun _ h9 => h9) rfl hin rfl (by decide +kernel) rfl rfl (Nat.le_of_ble_eq_true rfl) dSt_init_15 (fun H locs hP hD hS => ?_)
  have hP : va_P D clAll [(t_a, .inr (6, [.ref q_1, .ref q_2, .null, .int (iZ 0)])), (q_1, .inl (cI, 4, .inl (aI (fun _ => 0)))), (q_2, .inl (cJ, 4, .inr (.inl (aL (fun _ => 0)))))] H := hP
  have hD : va_D A [(t_a, .inr (6, [.ref q_1, .ref q_2, .null, .int (iZ 0)])), (q_1, .inl (cI, 4, .inl (aI (fun _ => 0)))), (q_2, .inl (cJ, 4, .inr (.inl (aL (fun _ => 0)))))] := hD
  refine lv_aload_n hx hb dSt_init_18 rfl (lv_at hl 0 rfl) ?_
  refine lv_iconst (v := iZ 4) hx hb dSt_init_19 (by decide) ?_
  refine cq_newa (atype := .boolean) (a0 := (4, .inl (aI (fun _ => 0)))) hx hb (hts _ (hm g95)) rfl hK hP hD hS hA 2 rfl (fun cA => by rw [← aI_0]; rfl) (by decide) (by decide) (by decide) (Nat.le_of_ble_eq_true rfl) (Nat.le_of_ble_eq_true rfl) dSt_init_20 (fun q_3 H hP hD hS => ?_)
  have hP : va_P D clAll [(t_a, .inr (6, [.ref q_1, .ref q_2, .null, .int (iZ 0)])), (q_1, .inl (cI, 4, .inl (aI (fun _ => 0)))), (q_2, .inl (cJ, 4, .inr (.inl (aL (fun _ => 0))))), (q_3, .inl (cZ, 4, .inl (aI (fun _ => 0))))] H := hP
  have hD : va_D A [(t_a, .inr (6, [.ref q_1, .ref q_2, .null, .int (iZ 0)])), (q_1, .inl (cI, 4, .inl (aI (fun _ => 0)))), (q_2, .inl (cJ, 4, .inr (.inl (aL (fun _ => 0))))), (q_3, .inl (cZ, 4, .inl (aI (fun _ => 0))))] := hD
  refine W.widen (k := 3) (n := 12) (by decide) (by decide) ?_
  refine va_putF (D := D) (ci := 6) (v := .ref q_3) (ty := .array .boolean) (C := RSt) (T := TSt) (N := 4) hx hb hts laySt tySt tySt_ok nmSt hown hK.1 hP hD hS 0 rfl rfl 2 (by decide) (hts _ (hm g87)) (fun _ h9 => h9) rfl hin rfl (by decide +kernel) rfl rfl (Nat.le_of_ble_eq_true rfl) dSt_init_22 (fun H locs hP hD hS => ?_)
  have hP : va_P D clAll [(t_a, .inr (6, [.ref q_1, .ref q_2, .ref q_3, .int (iZ 0)])), (q_1, .inl (cI, 4, .inl (aI (fun _ => 0)))), (q_2, .inl (cJ, 4, .inr (.inl (aL (fun _ => 0))))), (q_3, .inl (cZ, 4, .inl (aI (fun _ => 0))))] H := hP
  have hD : va_D A [(t_a, .inr (6, [.ref q_1, .ref q_2, .ref q_3, .int (iZ 0)])), (q_1, .inl (cI, 4, .inl (aI (fun _ => 0)))), (q_2, .inl (cJ, 4, .inr (.inl (aL (fun _ => 0))))), (q_3, .inl (cZ, 4, .inl (aI (fun _ => 0))))] := hD
  exact cq_vret hx hb hr hlocks hAe hQ (q_1, q_2, q_3) trivial (hP.sub [0, 1, 2, 3] rfl) (hD.sub [0, 1, 2, 3] (by decide) rfl) hS (by decide) (by decide) dSt_init_25
set_option maxHeartbeats 4000000 in
set_option maxRecDepth 100000 in
theorem k_Bags_init (l : Launch) (D : va_G) (cI cJ cZ : ClassId) (t_a : Nat) (sz : Nat) : cq_v l yBg_init wsBg_init ({ frames := 1, cells := 4, slots := 72, locals := 12 }) D clAll [(cI, .int), (cJ, .long), (cZ, .boolean)] nwAll [.ref t_a] [(t_a, .inr (0, [.null, .null, .null, .null, .int (iZ 0)]))] sz (S := Nat × Nat × Nat × Nat) (fun (u : Nat × Nat × Nat × Nat) => True) (fun (u : Nat × Nat × Nat × Nat) => [(t_a, .inr (0, [.ref u.1, .ref u.2.1, .ref u.2.2.1, .ref u.2.2.2, .int (iZ 0)])), (u.1, .inl (cI, 12, .inl (aI (fun _ => 0)))), (u.2.1, .inl (cI, 12, .inl (aI (fun _ => 0)))), (u.2.2.1, .inl (cZ, 12, .inl (aI (fun _ => 0)))), (u.2.2.2, .inl (cJ, 36, .inr (.inl (aL (fun _ => 0)))))]) 4 72 := by
  refine cq_enter (cc := cBg_init) (maxL := 1) (ret := none) (by decide) rfl (Nat.le_of_ble_eq_true rfl) ?_
  intro p e s m below meth c A args Q H hAe hQ hsz hAt hA hP hK hD hS ls hl
  obtain ⟨hx, hb, hr, hml, hown, hts, hlocks, hin⟩ := hAt
  have hown : s.vm.findClass RBg = some m.cls := hown
  have hl : lv_has ls 1 [(0, .ref t_a)] := hl
  have hin : meth.name = "<init>" := hin
  refine lv_aload_n hx hb dBg_init_0 rfl (lv_at hl 0 rfl) ?_
  refine W.objInit hx hb hown (hts _ (hm g100)) (hts _ (hm g78)) (hts _ (hm g79)) rfl (by rw [hml]; exact hl.1) rfl dBg_init_1 (Nat.le_of_ble_eq_true rfl) (Nat.le_of_ble_eq_true rfl) ?_
  refine W.eq (g2 := F0 m 4 ls []) rfl ?_
  refine lv_aload_n hx hb dBg_init_4 rfl (lv_at hl 0 rfl) ?_
  refine lv_bipush (v := iZ (12)) hx hb dBg_init_5 (by decide) ?_
  refine cq_newa (atype := .int) (a0 := (12, .inl (aI (fun _ => 0)))) hx hb (hts _ (hm g93)) rfl hK hP hD hS hA 0 rfl (fun cA => by rw [← aI_0]; rfl) (by decide) (by decide) (by decide) (Nat.le_of_ble_eq_true rfl) (Nat.le_of_ble_eq_true rfl) dBg_init_7 (fun q_1 H hP hD hS => ?_)
  have hP : va_P D clAll [(t_a, .inr (0, [.null, .null, .null, .null, .int (iZ 0)])), (q_1, .inl (cI, 12, .inl (aI (fun _ => 0))))] H := hP
  have hD : va_D A [(t_a, .inr (0, [.null, .null, .null, .null, .int (iZ 0)])), (q_1, .inl (cI, 12, .inl (aI (fun _ => 0))))] := hD
  refine W.widen (k := 1) (n := 12) (by decide) (by decide) ?_
  refine va_putF (D := D) (ci := 0) (v := .ref q_1) (ty := .array .int) (C := RBg) (T := TBg) (N := 5) hx hb hts layBg tyBg tyBg_ok nmBg hown hK.1 hP hD hS 0 rfl rfl 0 (by decide) (hts _ (hm g101)) (fun _ h9 => h9) rfl hin rfl (by decide +kernel) rfl rfl (Nat.le_of_ble_eq_true rfl) dBg_init_9 (fun H locs hP hD hS => ?_)
  have hP : va_P D clAll [(t_a, .inr (0, [.ref q_1, .null, .null, .null, .int (iZ 0)])), (q_1, .inl (cI, 12, .inl (aI (fun _ => 0))))] H := hP
  have hD : va_D A [(t_a, .inr (0, [.ref q_1, .null, .null, .null, .int (iZ 0)])), (q_1, .inl (cI, 12, .inl (aI (fun _ => 0))))] := hD
  refine lv_aload_n hx hb dBg_init_12 rfl (lv_at hl 0 rfl) ?_
  refine lv_bipush (v := iZ (12)) hx hb dBg_init_13 (by decide) ?_
  refine cq_newa (atype := .int) (a0 := (12, .inl (aI (fun _ => 0)))) hx hb (hts _ (hm g93)) rfl hK hP hD hS hA 0 rfl (fun cA => by rw [← aI_0]; rfl) (by decide) (by decide) (by decide) (Nat.le_of_ble_eq_true rfl) (Nat.le_of_ble_eq_true rfl) dBg_init_15 (fun q_2 H hP hD hS => ?_)
  have hP : va_P D clAll [(t_a, .inr (0, [.ref q_1, .null, .null, .null, .int (iZ 0)])), (q_1, .inl (cI, 12, .inl (aI (fun _ => 0)))), (q_2, .inl (cI, 12, .inl (aI (fun _ => 0))))] H := hP
  have hD : va_D A [(t_a, .inr (0, [.ref q_1, .null, .null, .null, .int (iZ 0)])), (q_1, .inl (cI, 12, .inl (aI (fun _ => 0)))), (q_2, .inl (cI, 12, .inl (aI (fun _ => 0))))] := hD
  refine W.widen (k := 2) (n := 24) (by decide) (by decide) ?_
  refine va_putF (D := D) (ci := 0) (v := .ref q_2) (ty := .array .int) (C := RBg) (T := TBg) (N := 5) hx hb hts layBg tyBg tyBg_ok nmBg hown hK.1 hP hD hS 0 rfl rfl 1 (by decide) (hts _ (hm g102)) (fun _ h9 => h9) rfl hin rfl (by decide +kernel) rfl rfl (Nat.le_of_ble_eq_true rfl) dBg_init_17 (fun H locs hP hD hS => ?_)
  have hP : va_P D clAll [(t_a, .inr (0, [.ref q_1, .ref q_2, .null, .null, .int (iZ 0)])), (q_1, .inl (cI, 12, .inl (aI (fun _ => 0)))), (q_2, .inl (cI, 12, .inl (aI (fun _ => 0))))] H := hP
  have hD : va_D A [(t_a, .inr (0, [.ref q_1, .ref q_2, .null, .null, .int (iZ 0)])), (q_1, .inl (cI, 12, .inl (aI (fun _ => 0)))), (q_2, .inl (cI, 12, .inl (aI (fun _ => 0))))] := hD
  refine lv_aload_n hx hb dBg_init_20 rfl (lv_at hl 0 rfl) ?_
  refine lv_bipush (v := iZ (12)) hx hb dBg_init_21 (by decide) ?_
  refine cq_newa (atype := .boolean) (a0 := (12, .inl (aI (fun _ => 0)))) hx hb (hts _ (hm g95)) rfl hK hP hD hS hA 2 rfl (fun cA => by rw [← aI_0]; rfl) (by decide) (by decide) (by decide) (Nat.le_of_ble_eq_true rfl) (Nat.le_of_ble_eq_true rfl) dBg_init_23 (fun q_3 H hP hD hS => ?_)
  have hP : va_P D clAll [(t_a, .inr (0, [.ref q_1, .ref q_2, .null, .null, .int (iZ 0)])), (q_1, .inl (cI, 12, .inl (aI (fun _ => 0)))), (q_2, .inl (cI, 12, .inl (aI (fun _ => 0)))), (q_3, .inl (cZ, 12, .inl (aI (fun _ => 0))))] H := hP
  have hD : va_D A [(t_a, .inr (0, [.ref q_1, .ref q_2, .null, .null, .int (iZ 0)])), (q_1, .inl (cI, 12, .inl (aI (fun _ => 0)))), (q_2, .inl (cI, 12, .inl (aI (fun _ => 0)))), (q_3, .inl (cZ, 12, .inl (aI (fun _ => 0))))] := hD
  refine W.widen (k := 3) (n := 36) (by decide) (by decide) ?_
  refine va_putF (D := D) (ci := 0) (v := .ref q_3) (ty := .array .boolean) (C := RBg) (T := TBg) (N := 5) hx hb hts layBg tyBg tyBg_ok nmBg hown hK.1 hP hD hS 0 rfl rfl 2 (by decide) (hts _ (hm g103)) (fun _ h9 => h9) rfl hin rfl (by decide +kernel) rfl rfl (Nat.le_of_ble_eq_true rfl) dBg_init_25 (fun H locs hP hD hS => ?_)
  have hP : va_P D clAll [(t_a, .inr (0, [.ref q_1, .ref q_2, .ref q_3, .null, .int (iZ 0)])), (q_1, .inl (cI, 12, .inl (aI (fun _ => 0)))), (q_2, .inl (cI, 12, .inl (aI (fun _ => 0)))), (q_3, .inl (cZ, 12, .inl (aI (fun _ => 0))))] H := hP
  have hD : va_D A [(t_a, .inr (0, [.ref q_1, .ref q_2, .ref q_3, .null, .int (iZ 0)])), (q_1, .inl (cI, 12, .inl (aI (fun _ => 0)))), (q_2, .inl (cI, 12, .inl (aI (fun _ => 0)))), (q_3, .inl (cZ, 12, .inl (aI (fun _ => 0))))] := hD
  refine lv_aload_n hx hb dBg_init_28 rfl (lv_at hl 0 rfl) ?_
  refine lv_bipush (v := iZ (36)) hx hb dBg_init_29 (by decide) ?_
  refine cq_newa (atype := .long) (a0 := (36, .inr (.inl (aL (fun _ => 0))))) hx hb (hts _ (hm g94)) rfl hK hP hD hS hA 1 rfl (fun cA => by rw [← aL_0]; rfl) (by decide) (by decide) (by decide) (Nat.le_of_ble_eq_true rfl) (Nat.le_of_ble_eq_true rfl) dBg_init_31 (fun q_4 H hP hD hS => ?_)
  have hP : va_P D clAll [(t_a, .inr (0, [.ref q_1, .ref q_2, .ref q_3, .null, .int (iZ 0)])), (q_1, .inl (cI, 12, .inl (aI (fun _ => 0)))), (q_2, .inl (cI, 12, .inl (aI (fun _ => 0)))), (q_3, .inl (cZ, 12, .inl (aI (fun _ => 0)))), (q_4, .inl (cJ, 36, .inr (.inl (aL (fun _ => 0)))))] H := hP
  have hD : va_D A [(t_a, .inr (0, [.ref q_1, .ref q_2, .ref q_3, .null, .int (iZ 0)])), (q_1, .inl (cI, 12, .inl (aI (fun _ => 0)))), (q_2, .inl (cI, 12, .inl (aI (fun _ => 0)))), (q_3, .inl (cZ, 12, .inl (aI (fun _ => 0)))), (q_4, .inl (cJ, 36, .inr (.inl (aL (fun _ => 0)))))] := hD
  refine W.widen (k := 4) (n := 72) (by decide) (by decide) ?_
  refine va_putF (D := D) (ci := 0) (v := .ref q_4) (ty := .array .long) (C := RBg) (T := TBg) (N := 5) hx hb hts layBg tyBg tyBg_ok nmBg hown hK.1 hP hD hS 0 rfl rfl 3 (by decide) (hts _ (hm g104)) (fun _ h9 => h9) rfl hin rfl (by decide +kernel) rfl rfl (Nat.le_of_ble_eq_true rfl) dBg_init_33 (fun H locs hP hD hS => ?_)
  have hP : va_P D clAll [(t_a, .inr (0, [.ref q_1, .ref q_2, .ref q_3, .ref q_4, .int (iZ 0)])), (q_1, .inl (cI, 12, .inl (aI (fun _ => 0)))), (q_2, .inl (cI, 12, .inl (aI (fun _ => 0)))), (q_3, .inl (cZ, 12, .inl (aI (fun _ => 0)))), (q_4, .inl (cJ, 36, .inr (.inl (aL (fun _ => 0)))))] H := hP
  have hD : va_D A [(t_a, .inr (0, [.ref q_1, .ref q_2, .ref q_3, .ref q_4, .int (iZ 0)])), (q_1, .inl (cI, 12, .inl (aI (fun _ => 0)))), (q_2, .inl (cI, 12, .inl (aI (fun _ => 0)))), (q_3, .inl (cZ, 12, .inl (aI (fun _ => 0)))), (q_4, .inl (cJ, 36, .inr (.inl (aL (fun _ => 0)))))] := hD
  exact cq_vret hx hb hr hlocks hAe hQ (q_1, q_2, q_3, q_4) trivial (hP.sub [0, 1, 2, 3, 4] rfl) (hD.sub [0, 1, 2, 3, 4] (by decide) rfl) hS (by decide) (by decide) dBg_init_36
set_option maxHeartbeats 4000000 in
set_option maxRecDepth 100000 in
theorem k_Draws_init (l : Launch) (D : va_G) (cI cJ cZ : ClassId) (t_a : Nat) (sz : Nat) (seed : Int) (h_seed1 : -9223372036854775808 ≤ seed) (h_seed2 : seed < 9223372036854775808) : cq_v l yDr_init wsDr_init ({ frames := 1, cells := 2, slots := 404, locals := 12 }) D clAll [(cI, .int), (cJ, .long), (cZ, .boolean)] nwAll [.ref t_a, .long (lZ seed)] [(t_a, .inr (2, [.null, .null, .long (lZ 0)]))] sz (S := Nat × Nat) (fun (u : Nat × Nat) => True) (fun (u : Nat × Nat) => [(t_a, .inr (2, [.ref u.1, .ref u.2, .long (lZ seed)])), (u.1, .inl (cI, 400, .inl (aI (fun _ => 0)))), (u.2, .inl (cI, 4, .inl (aI (fun _ => 0))))]) 2 404 := by
  refine cq_enter (cc := cDr_init) (maxL := 3) (ret := none) (by decide) rfl (Nat.le_of_ble_eq_true rfl) ?_
  intro p e s m below meth c A args Q H hAe hQ hsz hAt hA hP hK hD hS ls hl
  obtain ⟨hx, hb, hr, hml, hown, hts, hlocks, hin⟩ := hAt
  have hown : s.vm.findClass RDr = some m.cls := hown
  have hl : lv_has ls 3 [(0, .ref t_a), (1, .long (lZ seed))] := hl
  have hin : meth.name = "<init>" := hin
  refine lv_aload_n hx hb dDr_init_0 rfl (lv_at hl 0 rfl) ?_
  refine W.objInit hx hb hown (hts _ (hm g115)) (hts _ (hm g78)) (hts _ (hm g79)) rfl (by rw [hml]; exact hl.1) rfl dDr_init_1 (Nat.le_of_ble_eq_true rfl) (Nat.le_of_ble_eq_true rfl) ?_
  refine W.eq (g2 := F0 m 4 ls []) rfl ?_
  refine lv_aload_n hx hb dDr_init_4 rfl (lv_at hl 0 rfl) ?_
  refine lv_sipush (v := iZ (400)) hx hb dDr_init_5 (by decide) ?_
  refine cq_newa (atype := .int) (a0 := (400, .inl (aI (fun _ => 0)))) hx hb (hts _ (hm g93)) rfl hK hP hD hS hA 0 rfl (fun cA => by rw [← aI_0]; rfl) (by decide) (by decide) (by decide) (Nat.le_of_ble_eq_true rfl) (Nat.le_of_ble_eq_true rfl) dDr_init_8 (fun q_1 H hP hD hS => ?_)
  have hP : va_P D clAll [(t_a, .inr (2, [.null, .null, .long (lZ 0)])), (q_1, .inl (cI, 400, .inl (aI (fun _ => 0))))] H := hP
  have hD : va_D A [(t_a, .inr (2, [.null, .null, .long (lZ 0)])), (q_1, .inl (cI, 400, .inl (aI (fun _ => 0))))] := hD
  refine W.widen (k := 1) (n := 400) (by decide) (by decide) ?_
  refine va_putF (D := D) (ci := 2) (v := .ref q_1) (ty := .array .int) (C := RDr) (T := TDr) (N := 3) hx hb hts layDr tyDr tyDr_ok nmDr hown hK.1 hP hD hS 0 rfl rfl 0 (by decide) (hts _ (hm g116)) (fun _ h9 => h9) rfl hin rfl (by decide +kernel) rfl rfl (Nat.le_of_ble_eq_true rfl) dDr_init_10 (fun H locs hP hD hS => ?_)
  have hP : va_P D clAll [(t_a, .inr (2, [.ref q_1, .null, .long (lZ 0)])), (q_1, .inl (cI, 400, .inl (aI (fun _ => 0))))] H := hP
  have hD : va_D A [(t_a, .inr (2, [.ref q_1, .null, .long (lZ 0)])), (q_1, .inl (cI, 400, .inl (aI (fun _ => 0))))] := hD
  refine lv_aload_n hx hb dDr_init_13 rfl (lv_at hl 0 rfl) ?_
  refine lv_iconst (v := iZ 4) hx hb dDr_init_14 (by decide) ?_
  refine cq_newa (atype := .int) (a0 := (4, .inl (aI (fun _ => 0)))) hx hb (hts _ (hm g93)) rfl hK hP hD hS hA 0 rfl (fun cA => by rw [← aI_0]; rfl) (by decide) (by decide) (by decide) (Nat.le_of_ble_eq_true rfl) (Nat.le_of_ble_eq_true rfl) dDr_init_15 (fun q_2 H hP hD hS => ?_)
  have hP : va_P D clAll [(t_a, .inr (2, [.ref q_1, .null, .long (lZ 0)])), (q_1, .inl (cI, 400, .inl (aI (fun _ => 0)))), (q_2, .inl (cI, 4, .inl (aI (fun _ => 0))))] H := hP
  have hD : va_D A [(t_a, .inr (2, [.ref q_1, .null, .long (lZ 0)])), (q_1, .inl (cI, 400, .inl (aI (fun _ => 0)))), (q_2, .inl (cI, 4, .inl (aI (fun _ => 0))))] := hD
  refine W.widen (k := 2) (n := 404) (by decide) (by decide) ?_
  refine va_putF (D := D) (ci := 2) (v := .ref q_2) (ty := .array .int) (C := RDr) (T := TDr) (N := 3) hx hb hts layDr tyDr tyDr_ok nmDr hown hK.1 hP hD hS 0 rfl rfl 1 (by decide) (hts _ (hm g117)) (fun _ h9 => h9) rfl hin rfl (by decide +kernel) rfl rfl (Nat.le_of_ble_eq_true rfl) dDr_init_17 (fun H locs hP hD hS => ?_)
  have hP : va_P D clAll [(t_a, .inr (2, [.ref q_1, .ref q_2, .long (lZ 0)])), (q_1, .inl (cI, 400, .inl (aI (fun _ => 0)))), (q_2, .inl (cI, 4, .inl (aI (fun _ => 0))))] H := hP
  have hD : va_D A [(t_a, .inr (2, [.ref q_1, .ref q_2, .long (lZ 0)])), (q_1, .inl (cI, 400, .inl (aI (fun _ => 0)))), (q_2, .inl (cI, 4, .inl (aI (fun _ => 0))))] := hD
  refine lv_aload_n hx hb dDr_init_20 rfl (lv_at hl 0 rfl) ?_
  refine lv_lload_n hx hb dDr_init_21 rfl (lv_at hl 1 rfl) ?_
  refine va_put (D := D) (ci := 2) (v := .long (lZ seed)) (ty := .long) (C := RDr) (T := TDr) (N := 3) hx hb hts layDr tyDr tyDr_ok nmDr hown hK.1 hP hD hS 0 rfl rfl 2 (by decide) (hts _ (hm g118)) (fun _ h9 => h9) rfl (by decide +kernel) rfl rfl (Nat.le_of_ble_eq_true rfl) dDr_init_22 (fun H locs hP hD hS => ?_)
  have hP : va_P D clAll [(t_a, .inr (2, [.ref q_1, .ref q_2, .long (lZ seed)])), (q_1, .inl (cI, 400, .inl (aI (fun _ => 0)))), (q_2, .inl (cI, 4, .inl (aI (fun _ => 0))))] H := hP
  have hD : va_D A [(t_a, .inr (2, [.ref q_1, .ref q_2, .long (lZ seed)])), (q_1, .inl (cI, 400, .inl (aI (fun _ => 0)))), (q_2, .inl (cI, 4, .inl (aI (fun _ => 0))))] := hD
  exact cq_vret hx hb hr hlocks hAe hQ (q_1, q_2) trivial (hP.sub [0, 1, 2] rfl) (hD.sub [0, 1, 2] (by decide) rfl) hS (by decide) (by decide) dDr_init_25
set_option maxHeartbeats 4000000 in
set_option maxRecDepth 100000 in
theorem k_Repeats_init (l : Launch) (D : va_G) (cI cJ cZ : ClassId) (t_a : Nat) (sz : Nat) : cq_v l yRp_init wsRp_init ({ frames := 1, cells := 3, slots := 120, locals := 12 }) D clAll [(cI, .int), (cJ, .long), (cZ, .boolean)] nwAll [.ref t_a] [(t_a, .inr (5, [.null, .null, .null, .int (iZ 0)]))] sz (S := Nat × Nat × Nat) (fun (u : Nat × Nat × Nat) => True) (fun (u : Nat × Nat × Nat) => [(t_a, .inr (5, [.ref u.1, .ref u.2.1, .ref u.2.2, .int (iZ 0)])), (u.1, .inl (cI, 40, .inl (aI (fun _ => 0)))), (u.2.1, .inl (cI, 40, .inl (aI (fun _ => 0)))), (u.2.2, .inl (cJ, 40, .inr (.inl (aL (fun _ => 0)))))]) 3 120 := by
  refine cq_enter (cc := cRp_init) (maxL := 1) (ret := none) (by decide) rfl (Nat.le_of_ble_eq_true rfl) ?_
  intro p e s m below meth c A args Q H hAe hQ hsz hAt hA hP hK hD hS ls hl
  obtain ⟨hx, hb, hr, hml, hown, hts, hlocks, hin⟩ := hAt
  have hown : s.vm.findClass RRp = some m.cls := hown
  have hl : lv_has ls 1 [(0, .ref t_a)] := hl
  have hin : meth.name = "<init>" := hin
  refine lv_aload_n hx hb dRp_init_0 rfl (lv_at hl 0 rfl) ?_
  refine W.objInit hx hb hown (hts _ (hm g126)) (hts _ (hm g78)) (hts _ (hm g79)) rfl (by rw [hml]; exact hl.1) rfl dRp_init_1 (Nat.le_of_ble_eq_true rfl) (Nat.le_of_ble_eq_true rfl) ?_
  refine W.eq (g2 := F0 m 4 ls []) rfl ?_
  refine lv_aload_n hx hb dRp_init_4 rfl (lv_at hl 0 rfl) ?_
  refine lv_bipush (v := iZ (40)) hx hb dRp_init_5 (by decide) ?_
  refine cq_newa (atype := .int) (a0 := (40, .inl (aI (fun _ => 0)))) hx hb (hts _ (hm g93)) rfl hK hP hD hS hA 0 rfl (fun cA => by rw [← aI_0]; rfl) (by decide) (by decide) (by decide) (Nat.le_of_ble_eq_true rfl) (Nat.le_of_ble_eq_true rfl) dRp_init_7 (fun q_1 H hP hD hS => ?_)
  have hP : va_P D clAll [(t_a, .inr (5, [.null, .null, .null, .int (iZ 0)])), (q_1, .inl (cI, 40, .inl (aI (fun _ => 0))))] H := hP
  have hD : va_D A [(t_a, .inr (5, [.null, .null, .null, .int (iZ 0)])), (q_1, .inl (cI, 40, .inl (aI (fun _ => 0))))] := hD
  refine W.widen (k := 1) (n := 40) (by decide) (by decide) ?_
  refine va_putF (D := D) (ci := 5) (v := .ref q_1) (ty := .array .int) (C := RRp) (T := TRp) (N := 4) hx hb hts layRp tyRp tyRp_ok nmRp hown hK.1 hP hD hS 0 rfl rfl 0 (by decide) (hts _ (hm g127)) (fun _ h9 => h9) rfl hin rfl (by decide +kernel) rfl rfl (Nat.le_of_ble_eq_true rfl) dRp_init_9 (fun H locs hP hD hS => ?_)
  have hP : va_P D clAll [(t_a, .inr (5, [.ref q_1, .null, .null, .int (iZ 0)])), (q_1, .inl (cI, 40, .inl (aI (fun _ => 0))))] H := hP
  have hD : va_D A [(t_a, .inr (5, [.ref q_1, .null, .null, .int (iZ 0)])), (q_1, .inl (cI, 40, .inl (aI (fun _ => 0))))] := hD
  refine lv_aload_n hx hb dRp_init_12 rfl (lv_at hl 0 rfl) ?_
  refine lv_bipush (v := iZ (40)) hx hb dRp_init_13 (by decide) ?_
  refine cq_newa (atype := .int) (a0 := (40, .inl (aI (fun _ => 0)))) hx hb (hts _ (hm g93)) rfl hK hP hD hS hA 0 rfl (fun cA => by rw [← aI_0]; rfl) (by decide) (by decide) (by decide) (Nat.le_of_ble_eq_true rfl) (Nat.le_of_ble_eq_true rfl) dRp_init_15 (fun q_2 H hP hD hS => ?_)
  have hP : va_P D clAll [(t_a, .inr (5, [.ref q_1, .null, .null, .int (iZ 0)])), (q_1, .inl (cI, 40, .inl (aI (fun _ => 0)))), (q_2, .inl (cI, 40, .inl (aI (fun _ => 0))))] H := hP
  have hD : va_D A [(t_a, .inr (5, [.ref q_1, .null, .null, .int (iZ 0)])), (q_1, .inl (cI, 40, .inl (aI (fun _ => 0)))), (q_2, .inl (cI, 40, .inl (aI (fun _ => 0))))] := hD
  refine W.widen (k := 2) (n := 80) (by decide) (by decide) ?_
  refine va_putF (D := D) (ci := 5) (v := .ref q_2) (ty := .array .int) (C := RRp) (T := TRp) (N := 4) hx hb hts layRp tyRp tyRp_ok nmRp hown hK.1 hP hD hS 0 rfl rfl 1 (by decide) (hts _ (hm g128)) (fun _ h9 => h9) rfl hin rfl (by decide +kernel) rfl rfl (Nat.le_of_ble_eq_true rfl) dRp_init_17 (fun H locs hP hD hS => ?_)
  have hP : va_P D clAll [(t_a, .inr (5, [.ref q_1, .ref q_2, .null, .int (iZ 0)])), (q_1, .inl (cI, 40, .inl (aI (fun _ => 0)))), (q_2, .inl (cI, 40, .inl (aI (fun _ => 0))))] H := hP
  have hD : va_D A [(t_a, .inr (5, [.ref q_1, .ref q_2, .null, .int (iZ 0)])), (q_1, .inl (cI, 40, .inl (aI (fun _ => 0)))), (q_2, .inl (cI, 40, .inl (aI (fun _ => 0))))] := hD
  refine lv_aload_n hx hb dRp_init_20 rfl (lv_at hl 0 rfl) ?_
  refine lv_bipush (v := iZ (40)) hx hb dRp_init_21 (by decide) ?_
  refine cq_newa (atype := .long) (a0 := (40, .inr (.inl (aL (fun _ => 0))))) hx hb (hts _ (hm g94)) rfl hK hP hD hS hA 1 rfl (fun cA => by rw [← aL_0]; rfl) (by decide) (by decide) (by decide) (Nat.le_of_ble_eq_true rfl) (Nat.le_of_ble_eq_true rfl) dRp_init_23 (fun q_3 H hP hD hS => ?_)
  have hP : va_P D clAll [(t_a, .inr (5, [.ref q_1, .ref q_2, .null, .int (iZ 0)])), (q_1, .inl (cI, 40, .inl (aI (fun _ => 0)))), (q_2, .inl (cI, 40, .inl (aI (fun _ => 0)))), (q_3, .inl (cJ, 40, .inr (.inl (aL (fun _ => 0)))))] H := hP
  have hD : va_D A [(t_a, .inr (5, [.ref q_1, .ref q_2, .null, .int (iZ 0)])), (q_1, .inl (cI, 40, .inl (aI (fun _ => 0)))), (q_2, .inl (cI, 40, .inl (aI (fun _ => 0)))), (q_3, .inl (cJ, 40, .inr (.inl (aL (fun _ => 0)))))] := hD
  refine W.widen (k := 3) (n := 120) (by decide) (by decide) ?_
  refine va_putF (D := D) (ci := 5) (v := .ref q_3) (ty := .array .long) (C := RRp) (T := TRp) (N := 4) hx hb hts layRp tyRp tyRp_ok nmRp hown hK.1 hP hD hS 0 rfl rfl 2 (by decide) (hts _ (hm g129)) (fun _ h9 => h9) rfl hin rfl (by decide +kernel) rfl rfl (Nat.le_of_ble_eq_true rfl) dRp_init_25 (fun H locs hP hD hS => ?_)
  have hP : va_P D clAll [(t_a, .inr (5, [.ref q_1, .ref q_2, .ref q_3, .int (iZ 0)])), (q_1, .inl (cI, 40, .inl (aI (fun _ => 0)))), (q_2, .inl (cI, 40, .inl (aI (fun _ => 0)))), (q_3, .inl (cJ, 40, .inr (.inl (aL (fun _ => 0)))))] H := hP
  have hD : va_D A [(t_a, .inr (5, [.ref q_1, .ref q_2, .ref q_3, .int (iZ 0)])), (q_1, .inl (cI, 40, .inl (aI (fun _ => 0)))), (q_2, .inl (cI, 40, .inl (aI (fun _ => 0)))), (q_3, .inl (cJ, 40, .inr (.inl (aL (fun _ => 0)))))] := hD
  exact cq_vret hx hb hr hlocks hAe hQ (q_1, q_2, q_3) trivial (hP.sub [0, 1, 2, 3] rfl) (hD.sub [0, 1, 2, 3] (by decide) rfl) hS (by decide) (by decide) dRp_init_28
set_option maxHeartbeats 4000000 in
set_option maxRecDepth 100000 in
theorem k_Figures_init (l : Launch) (D : va_G) (cI cJ cZ : ClassId) (t_a : Nat) (sz : Nat) : cq_v l yFg_init wsFg_init ({ frames := 2, cells := 7, slots := 26, locals := 32 }) D clAll [(cI, .int), (cJ, .long), (cZ, .boolean)] nwAll [.ref t_a] [(t_a, .inr (3, [.null, .null, .null, .null, .null, .int (iZ 0), .long (lZ 0)]))] sz (S := Nat × Nat × Nat × Nat × Nat × Nat × Nat) (fun (u : Nat × Nat × Nat × Nat × Nat × Nat × Nat) => True) (fun (u : Nat × Nat × Nat × Nat × Nat × Nat × Nat) => [(t_a, .inr (3, [.ref u.1, .ref u.2.1, .ref u.2.2.1, .ref u.2.2.2.1, .ref u.2.2.2.2.1, .int (iZ 0), .long (lZ 0)])), (u.1, .inl (cJ, 4, .inr (.inl (aL (fun _ => 0))))), (u.2.1, .inl (cJ, 4, .inr (.inl (aL (fun _ => 0))))), (u.2.2.1, .inl (cJ, 4, .inr (.inl (aL (fun _ => 0))))), (u.2.2.2.1, .inl (cJ, 4, .inr (.inl (aL (fun _ => 0))))), (u.2.2.2.2.1, .inr (7, [.ref u.2.2.2.2.2.1, .ref u.2.2.2.2.2.2])), (u.2.2.2.2.2.1, .inl (cJ, 4, .inr (.inl (aL (fun _ => 0))))), (u.2.2.2.2.2.2, .inl (cJ, 4, .inr (.inl (aL (fun _ => 0)))))]) 7 26 := by
  refine cq_enter (cc := cFg_init) (maxL := 1) (ret := none) (by decide) rfl (Nat.le_of_ble_eq_true rfl) ?_
  intro p e s m below meth c A args Q H hAe hQ hsz hAt hA hP hK hD hS ls hl
  obtain ⟨hx, hb, hr, hml, hown, hts, hlocks, hin⟩ := hAt
  have hown : s.vm.findClass RFg = some m.cls := hown
  have hl : lv_has ls 1 [(0, .ref t_a)] := hl
  have hin : meth.name = "<init>" := hin
  refine lv_aload_n hx hb dFg_init_0 rfl (lv_at hl 0 rfl) ?_
  refine W.objInit hx hb hown (hts _ (hm g139)) (hts _ (hm g78)) (hts _ (hm g79)) rfl (by rw [hml]; exact hl.1) rfl dFg_init_1 (Nat.le_of_ble_eq_true rfl) (Nat.le_of_ble_eq_true rfl) ?_
  refine W.eq (g2 := F0 m 4 ls []) rfl ?_
  refine lv_aload_n hx hb dFg_init_4 rfl (lv_at hl 0 rfl) ?_
  refine lv_iconst (v := iZ 4) hx hb dFg_init_5 (by decide) ?_
  refine cq_newa (atype := .long) (a0 := (4, .inr (.inl (aL (fun _ => 0))))) hx hb (hts _ (hm g94)) rfl hK hP hD hS hA 1 rfl (fun cA => by rw [← aL_0]; rfl) (by decide) (by decide) (by decide) (Nat.le_of_ble_eq_true rfl) (Nat.le_of_ble_eq_true rfl) dFg_init_6 (fun q_1 H hP hD hS => ?_)
  have hP : va_P D clAll [(t_a, .inr (3, [.null, .null, .null, .null, .null, .int (iZ 0), .long (lZ 0)])), (q_1, .inl (cJ, 4, .inr (.inl (aL (fun _ => 0)))))] H := hP
  have hD : va_D A [(t_a, .inr (3, [.null, .null, .null, .null, .null, .int (iZ 0), .long (lZ 0)])), (q_1, .inl (cJ, 4, .inr (.inl (aL (fun _ => 0)))))] := hD
  refine W.widen (k := 1) (n := 4) (by decide) (by decide) ?_
  refine va_putF (D := D) (ci := 3) (v := .ref q_1) (ty := .array .long) (C := RFg) (T := TFg) (N := 7) hx hb hts layFg tyFg tyFg_ok nmFg hown hK.1 hP hD hS 0 rfl rfl 0 (by decide) (hts _ (hm g149)) (fun _ h9 => h9) rfl hin rfl (by decide +kernel) rfl rfl (Nat.le_of_ble_eq_true rfl) dFg_init_8 (fun H locs hP hD hS => ?_)
  have hP : va_P D clAll [(t_a, .inr (3, [.ref q_1, .null, .null, .null, .null, .int (iZ 0), .long (lZ 0)])), (q_1, .inl (cJ, 4, .inr (.inl (aL (fun _ => 0)))))] H := hP
  have hD : va_D A [(t_a, .inr (3, [.ref q_1, .null, .null, .null, .null, .int (iZ 0), .long (lZ 0)])), (q_1, .inl (cJ, 4, .inr (.inl (aL (fun _ => 0)))))] := hD
  refine lv_aload_n hx hb dFg_init_11 rfl (lv_at hl 0 rfl) ?_
  refine lv_iconst (v := iZ 4) hx hb dFg_init_12 (by decide) ?_
  refine cq_newa (atype := .long) (a0 := (4, .inr (.inl (aL (fun _ => 0))))) hx hb (hts _ (hm g94)) rfl hK hP hD hS hA 1 rfl (fun cA => by rw [← aL_0]; rfl) (by decide) (by decide) (by decide) (Nat.le_of_ble_eq_true rfl) (Nat.le_of_ble_eq_true rfl) dFg_init_13 (fun q_2 H hP hD hS => ?_)
  have hP : va_P D clAll [(t_a, .inr (3, [.ref q_1, .null, .null, .null, .null, .int (iZ 0), .long (lZ 0)])), (q_1, .inl (cJ, 4, .inr (.inl (aL (fun _ => 0))))), (q_2, .inl (cJ, 4, .inr (.inl (aL (fun _ => 0)))))] H := hP
  have hD : va_D A [(t_a, .inr (3, [.ref q_1, .null, .null, .null, .null, .int (iZ 0), .long (lZ 0)])), (q_1, .inl (cJ, 4, .inr (.inl (aL (fun _ => 0))))), (q_2, .inl (cJ, 4, .inr (.inl (aL (fun _ => 0)))))] := hD
  refine W.widen (k := 2) (n := 8) (by decide) (by decide) ?_
  refine va_putF (D := D) (ci := 3) (v := .ref q_2) (ty := .array .long) (C := RFg) (T := TFg) (N := 7) hx hb hts layFg tyFg tyFg_ok nmFg hown hK.1 hP hD hS 0 rfl rfl 1 (by decide) (hts _ (hm g150)) (fun _ h9 => h9) rfl hin rfl (by decide +kernel) rfl rfl (Nat.le_of_ble_eq_true rfl) dFg_init_15 (fun H locs hP hD hS => ?_)
  have hP : va_P D clAll [(t_a, .inr (3, [.ref q_1, .ref q_2, .null, .null, .null, .int (iZ 0), .long (lZ 0)])), (q_1, .inl (cJ, 4, .inr (.inl (aL (fun _ => 0))))), (q_2, .inl (cJ, 4, .inr (.inl (aL (fun _ => 0)))))] H := hP
  have hD : va_D A [(t_a, .inr (3, [.ref q_1, .ref q_2, .null, .null, .null, .int (iZ 0), .long (lZ 0)])), (q_1, .inl (cJ, 4, .inr (.inl (aL (fun _ => 0))))), (q_2, .inl (cJ, 4, .inr (.inl (aL (fun _ => 0)))))] := hD
  refine lv_aload_n hx hb dFg_init_18 rfl (lv_at hl 0 rfl) ?_
  refine lv_iconst (v := iZ 4) hx hb dFg_init_19 (by decide) ?_
  refine cq_newa (atype := .long) (a0 := (4, .inr (.inl (aL (fun _ => 0))))) hx hb (hts _ (hm g94)) rfl hK hP hD hS hA 1 rfl (fun cA => by rw [← aL_0]; rfl) (by decide) (by decide) (by decide) (Nat.le_of_ble_eq_true rfl) (Nat.le_of_ble_eq_true rfl) dFg_init_20 (fun q_3 H hP hD hS => ?_)
  have hP : va_P D clAll [(t_a, .inr (3, [.ref q_1, .ref q_2, .null, .null, .null, .int (iZ 0), .long (lZ 0)])), (q_1, .inl (cJ, 4, .inr (.inl (aL (fun _ => 0))))), (q_2, .inl (cJ, 4, .inr (.inl (aL (fun _ => 0))))), (q_3, .inl (cJ, 4, .inr (.inl (aL (fun _ => 0)))))] H := hP
  have hD : va_D A [(t_a, .inr (3, [.ref q_1, .ref q_2, .null, .null, .null, .int (iZ 0), .long (lZ 0)])), (q_1, .inl (cJ, 4, .inr (.inl (aL (fun _ => 0))))), (q_2, .inl (cJ, 4, .inr (.inl (aL (fun _ => 0))))), (q_3, .inl (cJ, 4, .inr (.inl (aL (fun _ => 0)))))] := hD
  refine W.widen (k := 3) (n := 12) (by decide) (by decide) ?_
  refine va_putF (D := D) (ci := 3) (v := .ref q_3) (ty := .array .long) (C := RFg) (T := TFg) (N := 7) hx hb hts layFg tyFg tyFg_ok nmFg hown hK.1 hP hD hS 0 rfl rfl 2 (by decide) (hts _ (hm g151)) (fun _ h9 => h9) rfl hin rfl (by decide +kernel) rfl rfl (Nat.le_of_ble_eq_true rfl) dFg_init_22 (fun H locs hP hD hS => ?_)
  have hP : va_P D clAll [(t_a, .inr (3, [.ref q_1, .ref q_2, .ref q_3, .null, .null, .int (iZ 0), .long (lZ 0)])), (q_1, .inl (cJ, 4, .inr (.inl (aL (fun _ => 0))))), (q_2, .inl (cJ, 4, .inr (.inl (aL (fun _ => 0))))), (q_3, .inl (cJ, 4, .inr (.inl (aL (fun _ => 0)))))] H := hP
  have hD : va_D A [(t_a, .inr (3, [.ref q_1, .ref q_2, .ref q_3, .null, .null, .int (iZ 0), .long (lZ 0)])), (q_1, .inl (cJ, 4, .inr (.inl (aL (fun _ => 0))))), (q_2, .inl (cJ, 4, .inr (.inl (aL (fun _ => 0))))), (q_3, .inl (cJ, 4, .inr (.inl (aL (fun _ => 0)))))] := hD
  refine lv_aload_n hx hb dFg_init_25 rfl (lv_at hl 0 rfl) ?_
  refine lv_iconst (v := iZ 4) hx hb dFg_init_26 (by decide) ?_
  refine cq_newa (atype := .long) (a0 := (4, .inr (.inl (aL (fun _ => 0))))) hx hb (hts _ (hm g94)) rfl hK hP hD hS hA 1 rfl (fun cA => by rw [← aL_0]; rfl) (by decide) (by decide) (by decide) (Nat.le_of_ble_eq_true rfl) (Nat.le_of_ble_eq_true rfl) dFg_init_27 (fun q_4 H hP hD hS => ?_)
  have hP : va_P D clAll [(t_a, .inr (3, [.ref q_1, .ref q_2, .ref q_3, .null, .null, .int (iZ 0), .long (lZ 0)])), (q_1, .inl (cJ, 4, .inr (.inl (aL (fun _ => 0))))), (q_2, .inl (cJ, 4, .inr (.inl (aL (fun _ => 0))))), (q_3, .inl (cJ, 4, .inr (.inl (aL (fun _ => 0))))), (q_4, .inl (cJ, 4, .inr (.inl (aL (fun _ => 0)))))] H := hP
  have hD : va_D A [(t_a, .inr (3, [.ref q_1, .ref q_2, .ref q_3, .null, .null, .int (iZ 0), .long (lZ 0)])), (q_1, .inl (cJ, 4, .inr (.inl (aL (fun _ => 0))))), (q_2, .inl (cJ, 4, .inr (.inl (aL (fun _ => 0))))), (q_3, .inl (cJ, 4, .inr (.inl (aL (fun _ => 0))))), (q_4, .inl (cJ, 4, .inr (.inl (aL (fun _ => 0)))))] := hD
  refine W.widen (k := 4) (n := 16) (by decide) (by decide) ?_
  refine va_putF (D := D) (ci := 3) (v := .ref q_4) (ty := .array .long) (C := RFg) (T := TFg) (N := 7) hx hb hts layFg tyFg tyFg_ok nmFg hown hK.1 hP hD hS 0 rfl rfl 3 (by decide) (hts _ (hm g152)) (fun _ h9 => h9) rfl hin rfl (by decide +kernel) rfl rfl (Nat.le_of_ble_eq_true rfl) dFg_init_29 (fun H locs hP hD hS => ?_)
  have hP : va_P D clAll [(t_a, .inr (3, [.ref q_1, .ref q_2, .ref q_3, .ref q_4, .null, .int (iZ 0), .long (lZ 0)])), (q_1, .inl (cJ, 4, .inr (.inl (aL (fun _ => 0))))), (q_2, .inl (cJ, 4, .inr (.inl (aL (fun _ => 0))))), (q_3, .inl (cJ, 4, .inr (.inl (aL (fun _ => 0))))), (q_4, .inl (cJ, 4, .inr (.inl (aL (fun _ => 0)))))] H := hP
  have hD : va_D A [(t_a, .inr (3, [.ref q_1, .ref q_2, .ref q_3, .ref q_4, .null, .int (iZ 0), .long (lZ 0)])), (q_1, .inl (cJ, 4, .inr (.inl (aL (fun _ => 0))))), (q_2, .inl (cJ, 4, .inr (.inl (aL (fun _ => 0))))), (q_3, .inl (cJ, 4, .inr (.inl (aL (fun _ => 0))))), (q_4, .inl (cJ, 4, .inr (.inl (aL (fun _ => 0)))))] := hD
  refine lv_aload_n hx hb dFg_init_32 rfl (lv_at hl 0 rfl) ?_
  refine va_new (ci := 7) (fs := [.null, .null]) (C := RTm) (T := TTm) (N := 2) hx hb hts layTm tyTm tyTm_ok hown (hts _ (hm g140)) (hts _ (hm g141)) (hts _ (hm g64)) hK.1 hP hD hS hA rfl (fun j hj => by rcases (show j = 0 ∨ j = 1 by omega) with rfl | rfl <;> first | rfl | decide) (Nat.le_of_ble_eq_true rfl) (Nat.le_of_ble_eq_true rfl) dFg_init_33 (fun q_5 H hP hD hS => ?_)
  have hP : va_P D clAll [(t_a, .inr (3, [.ref q_1, .ref q_2, .ref q_3, .ref q_4, .null, .int (iZ 0), .long (lZ 0)])), (q_1, .inl (cJ, 4, .inr (.inl (aL (fun _ => 0))))), (q_2, .inl (cJ, 4, .inr (.inl (aL (fun _ => 0))))), (q_3, .inl (cJ, 4, .inr (.inl (aL (fun _ => 0))))), (q_4, .inl (cJ, 4, .inr (.inl (aL (fun _ => 0))))), (q_5, .inr (7, [.null, .null]))] H := hP
  have hD : va_D A [(t_a, .inr (3, [.ref q_1, .ref q_2, .ref q_3, .ref q_4, .null, .int (iZ 0), .long (lZ 0)])), (q_1, .inl (cJ, 4, .inr (.inl (aL (fun _ => 0))))), (q_2, .inl (cJ, 4, .inr (.inl (aL (fun _ => 0))))), (q_3, .inl (cJ, 4, .inr (.inl (aL (fun _ => 0))))), (q_4, .inl (cJ, 4, .inr (.inl (aL (fun _ => 0))))), (q_5, .inr (7, [.null, .null]))] := hD
  refine W.widen (k := 5) (n := 18) (by decide) (by decide) ?_
  refine lv_dup hx hb dFg_init_36 rfl ?_
  refine cq_callv (wr := [(t_a, .inr (3, [.ref q_1, .ref q_2, .ref q_3, .ref q_4, .null, .int (iZ 0), .long (lZ 0)])), (q_1, .inl (cJ, 4, .inr (.inl (aL (fun _ => 0))))), (q_2, .inl (cJ, 4, .inr (.inl (aL (fun _ => 0))))), (q_3, .inl (cJ, 4, .inr (.inl (aL (fun _ => 0))))), (q_4, .inl (cJ, 4, .inr (.inl (aL (fun _ => 0)))))]) (va_runIN (As := []) (rest := [.ref q_5, .ref t_a]) ⟨hx, hb, hml, hown, hts⟩ (k_Terms_init l D cI cJ cZ q_5 H.size) ⟨(va_cnB 0 hts (gAll cmTm_init) rfl rfl rfl (hK.2.2 _ n14) (hts _ (hm g64)) (by decide +kernel) ⟨Nat.le_of_ble_eq_true rfl, Nat.le_of_ble_eq_true rfl⟩), rfl, (hts _ (hm g142))⟩ (cq_preS hK hP hD [5] (by decide) rfl) rfl rfl hl.1 rfl (lv_room (Nat.le_of_ble_eq_true rfl)) dFg_init_37 ⟨by decide, by decide⟩) hP hD hS hA [5] [0, 1, 2, 3, 4] rfl rfl (by decide) (by decide) (fun u H locs hw_6 hP hD hS => ?_)
  obtain ⟨o_7, o_8⟩ := u
  try dsimp only at hw_6
  have hP : va_P D clAll [(t_a, .inr (3, [.ref q_1, .ref q_2, .ref q_3, .ref q_4, .null, .int (iZ 0), .long (lZ 0)])), (q_1, .inl (cJ, 4, .inr (.inl (aL (fun _ => 0))))), (q_2, .inl (cJ, 4, .inr (.inl (aL (fun _ => 0))))), (q_3, .inl (cJ, 4, .inr (.inl (aL (fun _ => 0))))), (q_4, .inl (cJ, 4, .inr (.inl (aL (fun _ => 0))))), (q_5, .inr (7, [.ref o_7, .ref o_8])), (o_7, .inl (cJ, 4, .inr (.inl (aL (fun _ => 0))))), (o_8, .inl (cJ, 4, .inr (.inl (aL (fun _ => 0)))))] H := hP
  have hD : va_D A [(t_a, .inr (3, [.ref q_1, .ref q_2, .ref q_3, .ref q_4, .null, .int (iZ 0), .long (lZ 0)])), (q_1, .inl (cJ, 4, .inr (.inl (aL (fun _ => 0))))), (q_2, .inl (cJ, 4, .inr (.inl (aL (fun _ => 0))))), (q_3, .inl (cJ, 4, .inr (.inl (aL (fun _ => 0))))), (q_4, .inl (cJ, 4, .inr (.inl (aL (fun _ => 0))))), (q_5, .inr (7, [.ref o_7, .ref o_8])), (o_7, .inl (cJ, 4, .inr (.inl (aL (fun _ => 0))))), (o_8, .inl (cJ, 4, .inr (.inl (aL (fun _ => 0)))))] := hD
  refine W.widen (k := 7) (n := 26) (by decide) (by decide) ?_
  refine va_putF (D := D) (ci := 3) (v := .ref q_5) (ty := .object "StratumCounts$Terms") (C := RFg) (T := TFg) (N := 7) hx hb hts layFg tyFg tyFg_ok nmFg hown hK.1 hP hD hS 0 rfl rfl 4 (by decide) (hts _ (hm g153)) (fun _ h9 => h9) rfl hin rfl (by decide +kernel) rfl rfl (Nat.le_of_ble_eq_true rfl) dFg_init_40 (fun H locs hP hD hS => ?_)
  have hP : va_P D clAll [(t_a, .inr (3, [.ref q_1, .ref q_2, .ref q_3, .ref q_4, .ref q_5, .int (iZ 0), .long (lZ 0)])), (q_1, .inl (cJ, 4, .inr (.inl (aL (fun _ => 0))))), (q_2, .inl (cJ, 4, .inr (.inl (aL (fun _ => 0))))), (q_3, .inl (cJ, 4, .inr (.inl (aL (fun _ => 0))))), (q_4, .inl (cJ, 4, .inr (.inl (aL (fun _ => 0))))), (q_5, .inr (7, [.ref o_7, .ref o_8])), (o_7, .inl (cJ, 4, .inr (.inl (aL (fun _ => 0))))), (o_8, .inl (cJ, 4, .inr (.inl (aL (fun _ => 0)))))] H := hP
  have hD : va_D A [(t_a, .inr (3, [.ref q_1, .ref q_2, .ref q_3, .ref q_4, .ref q_5, .int (iZ 0), .long (lZ 0)])), (q_1, .inl (cJ, 4, .inr (.inl (aL (fun _ => 0))))), (q_2, .inl (cJ, 4, .inr (.inl (aL (fun _ => 0))))), (q_3, .inl (cJ, 4, .inr (.inl (aL (fun _ => 0))))), (q_4, .inl (cJ, 4, .inr (.inl (aL (fun _ => 0))))), (q_5, .inr (7, [.ref o_7, .ref o_8])), (o_7, .inl (cJ, 4, .inr (.inl (aL (fun _ => 0))))), (o_8, .inl (cJ, 4, .inr (.inl (aL (fun _ => 0)))))] := hD
  exact cq_vret hx hb hr hlocks hAe hQ (q_1, q_2, q_3, q_4, q_5, o_7, o_8) trivial (hP.sub [0, 1, 2, 3, 4, 5, 6, 7] rfl) (hD.sub [0, 1, 2, 3, 4, 5, 6, 7] (by decide) rfl) hS (by decide) (by decide) dFg_init_43
set_option maxHeartbeats 4000000 in
set_option maxRecDepth 100000 in
theorem k_Planner_init (l : Launch) (D : va_G) (cI cJ cZ : ClassId) (t_a : Nat) (sz : Nat) : cq_v l yPl_init wsPl_init ({ frames := 2, cells := 9, slots := 34, locals := 32 }) D clAll [(cI, .int), (cJ, .long), (cZ, .boolean)] nwAll [.ref t_a] [(t_a, .inr (4, [.null, .null, .null, .null, .null, .null, .null, .int (iZ 0), .long (lZ 0), .long (lZ 0)]))] sz (S := Nat × Nat × Nat × Nat × Nat × Nat × Nat × Nat × Nat) (fun (u : Nat × Nat × Nat × Nat × Nat × Nat × Nat × Nat × Nat) => True) (fun (u : Nat × Nat × Nat × Nat × Nat × Nat × Nat × Nat × Nat) => [(t_a, .inr (4, [.ref u.1, .ref u.2.1, .ref u.2.2.1, .ref u.2.2.2.1, .ref u.2.2.2.2.1, .ref u.2.2.2.2.2.1, .ref u.2.2.2.2.2.2.1, .int (iZ 0), .long (lZ 0), .long (lZ 0)])), (u.1, .inl (cI, 4, .inl (aI (fun _ => 0)))), (u.2.1, .inl (cI, 4, .inl (aI (fun _ => 0)))), (u.2.2.1, .inl (cI, 4, .inl (aI (fun _ => 0)))), (u.2.2.2.1, .inl (cI, 4, .inl (aI (fun _ => 0)))), (u.2.2.2.2.1, .inl (cJ, 4, .inr (.inl (aL (fun _ => 0))))), (u.2.2.2.2.2.1, .inl (cJ, 4, .inr (.inl (aL (fun _ => 0))))), (u.2.2.2.2.2.2.1, .inr (7, [.ref u.2.2.2.2.2.2.2.1, .ref u.2.2.2.2.2.2.2.2])), (u.2.2.2.2.2.2.2.1, .inl (cJ, 4, .inr (.inl (aL (fun _ => 0))))), (u.2.2.2.2.2.2.2.2, .inl (cJ, 4, .inr (.inl (aL (fun _ => 0)))))]) 9 34 := by
  refine cq_enter (cc := cPl_init) (maxL := 1) (ret := none) (by decide) rfl (Nat.le_of_ble_eq_true rfl) ?_
  intro p e s m below meth c A args Q H hAe hQ hsz hAt hA hP hK hD hS ls hl
  obtain ⟨hx, hb, hr, hml, hown, hts, hlocks, hin⟩ := hAt
  have hown : s.vm.findClass RPl = some m.cls := hown
  have hl : lv_has ls 1 [(0, .ref t_a)] := hl
  have hin : meth.name = "<init>" := hin
  refine lv_aload_n hx hb dPl_init_0 rfl (lv_at hl 0 rfl) ?_
  refine W.objInit hx hb hown (hts _ (hm g167)) (hts _ (hm g78)) (hts _ (hm g79)) rfl (by rw [hml]; exact hl.1) rfl dPl_init_1 (Nat.le_of_ble_eq_true rfl) (Nat.le_of_ble_eq_true rfl) ?_
  refine W.eq (g2 := F0 m 4 ls []) rfl ?_
  refine lv_aload_n hx hb dPl_init_4 rfl (lv_at hl 0 rfl) ?_
  refine lv_iconst (v := iZ 4) hx hb dPl_init_5 (by decide) ?_
  refine cq_newa (atype := .int) (a0 := (4, .inl (aI (fun _ => 0)))) hx hb (hts _ (hm g93)) rfl hK hP hD hS hA 0 rfl (fun cA => by rw [← aI_0]; rfl) (by decide) (by decide) (by decide) (Nat.le_of_ble_eq_true rfl) (Nat.le_of_ble_eq_true rfl) dPl_init_6 (fun q_1 H hP hD hS => ?_)
  have hP : va_P D clAll [(t_a, .inr (4, [.null, .null, .null, .null, .null, .null, .null, .int (iZ 0), .long (lZ 0), .long (lZ 0)])), (q_1, .inl (cI, 4, .inl (aI (fun _ => 0))))] H := hP
  have hD : va_D A [(t_a, .inr (4, [.null, .null, .null, .null, .null, .null, .null, .int (iZ 0), .long (lZ 0), .long (lZ 0)])), (q_1, .inl (cI, 4, .inl (aI (fun _ => 0))))] := hD
  refine W.widen (k := 1) (n := 4) (by decide) (by decide) ?_
  refine va_putF (D := D) (ci := 4) (v := .ref q_1) (ty := .array .int) (C := RPl) (T := TPl) (N := 10) hx hb hts layPl tyPl tyPl_ok nmPl hown hK.1 hP hD hS 0 rfl rfl 0 (by decide) (hts _ (hm g169)) (fun _ h9 => h9) rfl hin rfl (by decide +kernel) rfl rfl (Nat.le_of_ble_eq_true rfl) dPl_init_8 (fun H locs hP hD hS => ?_)
  have hP : va_P D clAll [(t_a, .inr (4, [.ref q_1, .null, .null, .null, .null, .null, .null, .int (iZ 0), .long (lZ 0), .long (lZ 0)])), (q_1, .inl (cI, 4, .inl (aI (fun _ => 0))))] H := hP
  have hD : va_D A [(t_a, .inr (4, [.ref q_1, .null, .null, .null, .null, .null, .null, .int (iZ 0), .long (lZ 0), .long (lZ 0)])), (q_1, .inl (cI, 4, .inl (aI (fun _ => 0))))] := hD
  refine lv_aload_n hx hb dPl_init_11 rfl (lv_at hl 0 rfl) ?_
  refine lv_iconst (v := iZ 4) hx hb dPl_init_12 (by decide) ?_
  refine cq_newa (atype := .int) (a0 := (4, .inl (aI (fun _ => 0)))) hx hb (hts _ (hm g93)) rfl hK hP hD hS hA 0 rfl (fun cA => by rw [← aI_0]; rfl) (by decide) (by decide) (by decide) (Nat.le_of_ble_eq_true rfl) (Nat.le_of_ble_eq_true rfl) dPl_init_13 (fun q_2 H hP hD hS => ?_)
  have hP : va_P D clAll [(t_a, .inr (4, [.ref q_1, .null, .null, .null, .null, .null, .null, .int (iZ 0), .long (lZ 0), .long (lZ 0)])), (q_1, .inl (cI, 4, .inl (aI (fun _ => 0)))), (q_2, .inl (cI, 4, .inl (aI (fun _ => 0))))] H := hP
  have hD : va_D A [(t_a, .inr (4, [.ref q_1, .null, .null, .null, .null, .null, .null, .int (iZ 0), .long (lZ 0), .long (lZ 0)])), (q_1, .inl (cI, 4, .inl (aI (fun _ => 0)))), (q_2, .inl (cI, 4, .inl (aI (fun _ => 0))))] := hD
  refine W.widen (k := 2) (n := 8) (by decide) (by decide) ?_
  refine va_putF (D := D) (ci := 4) (v := .ref q_2) (ty := .array .int) (C := RPl) (T := TPl) (N := 10) hx hb hts layPl tyPl tyPl_ok nmPl hown hK.1 hP hD hS 0 rfl rfl 1 (by decide) (hts _ (hm g170)) (fun _ h9 => h9) rfl hin rfl (by decide +kernel) rfl rfl (Nat.le_of_ble_eq_true rfl) dPl_init_15 (fun H locs hP hD hS => ?_)
  have hP : va_P D clAll [(t_a, .inr (4, [.ref q_1, .ref q_2, .null, .null, .null, .null, .null, .int (iZ 0), .long (lZ 0), .long (lZ 0)])), (q_1, .inl (cI, 4, .inl (aI (fun _ => 0)))), (q_2, .inl (cI, 4, .inl (aI (fun _ => 0))))] H := hP
  have hD : va_D A [(t_a, .inr (4, [.ref q_1, .ref q_2, .null, .null, .null, .null, .null, .int (iZ 0), .long (lZ 0), .long (lZ 0)])), (q_1, .inl (cI, 4, .inl (aI (fun _ => 0)))), (q_2, .inl (cI, 4, .inl (aI (fun _ => 0))))] := hD
  refine lv_aload_n hx hb dPl_init_18 rfl (lv_at hl 0 rfl) ?_
  refine lv_iconst (v := iZ 4) hx hb dPl_init_19 (by decide) ?_
  refine cq_newa (atype := .int) (a0 := (4, .inl (aI (fun _ => 0)))) hx hb (hts _ (hm g93)) rfl hK hP hD hS hA 0 rfl (fun cA => by rw [← aI_0]; rfl) (by decide) (by decide) (by decide) (Nat.le_of_ble_eq_true rfl) (Nat.le_of_ble_eq_true rfl) dPl_init_20 (fun q_3 H hP hD hS => ?_)
  have hP : va_P D clAll [(t_a, .inr (4, [.ref q_1, .ref q_2, .null, .null, .null, .null, .null, .int (iZ 0), .long (lZ 0), .long (lZ 0)])), (q_1, .inl (cI, 4, .inl (aI (fun _ => 0)))), (q_2, .inl (cI, 4, .inl (aI (fun _ => 0)))), (q_3, .inl (cI, 4, .inl (aI (fun _ => 0))))] H := hP
  have hD : va_D A [(t_a, .inr (4, [.ref q_1, .ref q_2, .null, .null, .null, .null, .null, .int (iZ 0), .long (lZ 0), .long (lZ 0)])), (q_1, .inl (cI, 4, .inl (aI (fun _ => 0)))), (q_2, .inl (cI, 4, .inl (aI (fun _ => 0)))), (q_3, .inl (cI, 4, .inl (aI (fun _ => 0))))] := hD
  refine W.widen (k := 3) (n := 12) (by decide) (by decide) ?_
  refine va_putF (D := D) (ci := 4) (v := .ref q_3) (ty := .array .int) (C := RPl) (T := TPl) (N := 10) hx hb hts layPl tyPl tyPl_ok nmPl hown hK.1 hP hD hS 0 rfl rfl 2 (by decide) (hts _ (hm g171)) (fun _ h9 => h9) rfl hin rfl (by decide +kernel) rfl rfl (Nat.le_of_ble_eq_true rfl) dPl_init_22 (fun H locs hP hD hS => ?_)
  have hP : va_P D clAll [(t_a, .inr (4, [.ref q_1, .ref q_2, .ref q_3, .null, .null, .null, .null, .int (iZ 0), .long (lZ 0), .long (lZ 0)])), (q_1, .inl (cI, 4, .inl (aI (fun _ => 0)))), (q_2, .inl (cI, 4, .inl (aI (fun _ => 0)))), (q_3, .inl (cI, 4, .inl (aI (fun _ => 0))))] H := hP
  have hD : va_D A [(t_a, .inr (4, [.ref q_1, .ref q_2, .ref q_3, .null, .null, .null, .null, .int (iZ 0), .long (lZ 0), .long (lZ 0)])), (q_1, .inl (cI, 4, .inl (aI (fun _ => 0)))), (q_2, .inl (cI, 4, .inl (aI (fun _ => 0)))), (q_3, .inl (cI, 4, .inl (aI (fun _ => 0))))] := hD
  refine lv_aload_n hx hb dPl_init_25 rfl (lv_at hl 0 rfl) ?_
  refine lv_iconst (v := iZ 4) hx hb dPl_init_26 (by decide) ?_
  refine cq_newa (atype := .int) (a0 := (4, .inl (aI (fun _ => 0)))) hx hb (hts _ (hm g93)) rfl hK hP hD hS hA 0 rfl (fun cA => by rw [← aI_0]; rfl) (by decide) (by decide) (by decide) (Nat.le_of_ble_eq_true rfl) (Nat.le_of_ble_eq_true rfl) dPl_init_27 (fun q_4 H hP hD hS => ?_)
  have hP : va_P D clAll [(t_a, .inr (4, [.ref q_1, .ref q_2, .ref q_3, .null, .null, .null, .null, .int (iZ 0), .long (lZ 0), .long (lZ 0)])), (q_1, .inl (cI, 4, .inl (aI (fun _ => 0)))), (q_2, .inl (cI, 4, .inl (aI (fun _ => 0)))), (q_3, .inl (cI, 4, .inl (aI (fun _ => 0)))), (q_4, .inl (cI, 4, .inl (aI (fun _ => 0))))] H := hP
  have hD : va_D A [(t_a, .inr (4, [.ref q_1, .ref q_2, .ref q_3, .null, .null, .null, .null, .int (iZ 0), .long (lZ 0), .long (lZ 0)])), (q_1, .inl (cI, 4, .inl (aI (fun _ => 0)))), (q_2, .inl (cI, 4, .inl (aI (fun _ => 0)))), (q_3, .inl (cI, 4, .inl (aI (fun _ => 0)))), (q_4, .inl (cI, 4, .inl (aI (fun _ => 0))))] := hD
  refine W.widen (k := 4) (n := 16) (by decide) (by decide) ?_
  refine va_putF (D := D) (ci := 4) (v := .ref q_4) (ty := .array .int) (C := RPl) (T := TPl) (N := 10) hx hb hts layPl tyPl tyPl_ok nmPl hown hK.1 hP hD hS 0 rfl rfl 3 (by decide) (hts _ (hm g172)) (fun _ h9 => h9) rfl hin rfl (by decide +kernel) rfl rfl (Nat.le_of_ble_eq_true rfl) dPl_init_29 (fun H locs hP hD hS => ?_)
  have hP : va_P D clAll [(t_a, .inr (4, [.ref q_1, .ref q_2, .ref q_3, .ref q_4, .null, .null, .null, .int (iZ 0), .long (lZ 0), .long (lZ 0)])), (q_1, .inl (cI, 4, .inl (aI (fun _ => 0)))), (q_2, .inl (cI, 4, .inl (aI (fun _ => 0)))), (q_3, .inl (cI, 4, .inl (aI (fun _ => 0)))), (q_4, .inl (cI, 4, .inl (aI (fun _ => 0))))] H := hP
  have hD : va_D A [(t_a, .inr (4, [.ref q_1, .ref q_2, .ref q_3, .ref q_4, .null, .null, .null, .int (iZ 0), .long (lZ 0), .long (lZ 0)])), (q_1, .inl (cI, 4, .inl (aI (fun _ => 0)))), (q_2, .inl (cI, 4, .inl (aI (fun _ => 0)))), (q_3, .inl (cI, 4, .inl (aI (fun _ => 0)))), (q_4, .inl (cI, 4, .inl (aI (fun _ => 0))))] := hD
  refine lv_aload_n hx hb dPl_init_32 rfl (lv_at hl 0 rfl) ?_
  refine lv_iconst (v := iZ 4) hx hb dPl_init_33 (by decide) ?_
  refine cq_newa (atype := .long) (a0 := (4, .inr (.inl (aL (fun _ => 0))))) hx hb (hts _ (hm g94)) rfl hK hP hD hS hA 1 rfl (fun cA => by rw [← aL_0]; rfl) (by decide) (by decide) (by decide) (Nat.le_of_ble_eq_true rfl) (Nat.le_of_ble_eq_true rfl) dPl_init_34 (fun q_5 H hP hD hS => ?_)
  have hP : va_P D clAll [(t_a, .inr (4, [.ref q_1, .ref q_2, .ref q_3, .ref q_4, .null, .null, .null, .int (iZ 0), .long (lZ 0), .long (lZ 0)])), (q_1, .inl (cI, 4, .inl (aI (fun _ => 0)))), (q_2, .inl (cI, 4, .inl (aI (fun _ => 0)))), (q_3, .inl (cI, 4, .inl (aI (fun _ => 0)))), (q_4, .inl (cI, 4, .inl (aI (fun _ => 0)))), (q_5, .inl (cJ, 4, .inr (.inl (aL (fun _ => 0)))))] H := hP
  have hD : va_D A [(t_a, .inr (4, [.ref q_1, .ref q_2, .ref q_3, .ref q_4, .null, .null, .null, .int (iZ 0), .long (lZ 0), .long (lZ 0)])), (q_1, .inl (cI, 4, .inl (aI (fun _ => 0)))), (q_2, .inl (cI, 4, .inl (aI (fun _ => 0)))), (q_3, .inl (cI, 4, .inl (aI (fun _ => 0)))), (q_4, .inl (cI, 4, .inl (aI (fun _ => 0)))), (q_5, .inl (cJ, 4, .inr (.inl (aL (fun _ => 0)))))] := hD
  refine W.widen (k := 5) (n := 20) (by decide) (by decide) ?_
  refine va_putF (D := D) (ci := 4) (v := .ref q_5) (ty := .array .long) (C := RPl) (T := TPl) (N := 10) hx hb hts layPl tyPl tyPl_ok nmPl hown hK.1 hP hD hS 0 rfl rfl 4 (by decide) (hts _ (hm g173)) (fun _ h9 => h9) rfl hin rfl (by decide +kernel) rfl rfl (Nat.le_of_ble_eq_true rfl) dPl_init_36 (fun H locs hP hD hS => ?_)
  have hP : va_P D clAll [(t_a, .inr (4, [.ref q_1, .ref q_2, .ref q_3, .ref q_4, .ref q_5, .null, .null, .int (iZ 0), .long (lZ 0), .long (lZ 0)])), (q_1, .inl (cI, 4, .inl (aI (fun _ => 0)))), (q_2, .inl (cI, 4, .inl (aI (fun _ => 0)))), (q_3, .inl (cI, 4, .inl (aI (fun _ => 0)))), (q_4, .inl (cI, 4, .inl (aI (fun _ => 0)))), (q_5, .inl (cJ, 4, .inr (.inl (aL (fun _ => 0)))))] H := hP
  have hD : va_D A [(t_a, .inr (4, [.ref q_1, .ref q_2, .ref q_3, .ref q_4, .ref q_5, .null, .null, .int (iZ 0), .long (lZ 0), .long (lZ 0)])), (q_1, .inl (cI, 4, .inl (aI (fun _ => 0)))), (q_2, .inl (cI, 4, .inl (aI (fun _ => 0)))), (q_3, .inl (cI, 4, .inl (aI (fun _ => 0)))), (q_4, .inl (cI, 4, .inl (aI (fun _ => 0)))), (q_5, .inl (cJ, 4, .inr (.inl (aL (fun _ => 0)))))] := hD
  refine lv_aload_n hx hb dPl_init_39 rfl (lv_at hl 0 rfl) ?_
  refine lv_iconst (v := iZ 4) hx hb dPl_init_40 (by decide) ?_
  refine cq_newa (atype := .long) (a0 := (4, .inr (.inl (aL (fun _ => 0))))) hx hb (hts _ (hm g94)) rfl hK hP hD hS hA 1 rfl (fun cA => by rw [← aL_0]; rfl) (by decide) (by decide) (by decide) (Nat.le_of_ble_eq_true rfl) (Nat.le_of_ble_eq_true rfl) dPl_init_41 (fun q_6 H hP hD hS => ?_)
  have hP : va_P D clAll [(t_a, .inr (4, [.ref q_1, .ref q_2, .ref q_3, .ref q_4, .ref q_5, .null, .null, .int (iZ 0), .long (lZ 0), .long (lZ 0)])), (q_1, .inl (cI, 4, .inl (aI (fun _ => 0)))), (q_2, .inl (cI, 4, .inl (aI (fun _ => 0)))), (q_3, .inl (cI, 4, .inl (aI (fun _ => 0)))), (q_4, .inl (cI, 4, .inl (aI (fun _ => 0)))), (q_5, .inl (cJ, 4, .inr (.inl (aL (fun _ => 0))))), (q_6, .inl (cJ, 4, .inr (.inl (aL (fun _ => 0)))))] H := hP
  have hD : va_D A [(t_a, .inr (4, [.ref q_1, .ref q_2, .ref q_3, .ref q_4, .ref q_5, .null, .null, .int (iZ 0), .long (lZ 0), .long (lZ 0)])), (q_1, .inl (cI, 4, .inl (aI (fun _ => 0)))), (q_2, .inl (cI, 4, .inl (aI (fun _ => 0)))), (q_3, .inl (cI, 4, .inl (aI (fun _ => 0)))), (q_4, .inl (cI, 4, .inl (aI (fun _ => 0)))), (q_5, .inl (cJ, 4, .inr (.inl (aL (fun _ => 0))))), (q_6, .inl (cJ, 4, .inr (.inl (aL (fun _ => 0)))))] := hD
  refine W.widen (k := 6) (n := 24) (by decide) (by decide) ?_
  refine va_putF (D := D) (ci := 4) (v := .ref q_6) (ty := .array .long) (C := RPl) (T := TPl) (N := 10) hx hb hts layPl tyPl tyPl_ok nmPl hown hK.1 hP hD hS 0 rfl rfl 5 (by decide) (hts _ (hm g174)) (fun _ h9 => h9) rfl hin rfl (by decide +kernel) rfl rfl (Nat.le_of_ble_eq_true rfl) dPl_init_43 (fun H locs hP hD hS => ?_)
  have hP : va_P D clAll [(t_a, .inr (4, [.ref q_1, .ref q_2, .ref q_3, .ref q_4, .ref q_5, .ref q_6, .null, .int (iZ 0), .long (lZ 0), .long (lZ 0)])), (q_1, .inl (cI, 4, .inl (aI (fun _ => 0)))), (q_2, .inl (cI, 4, .inl (aI (fun _ => 0)))), (q_3, .inl (cI, 4, .inl (aI (fun _ => 0)))), (q_4, .inl (cI, 4, .inl (aI (fun _ => 0)))), (q_5, .inl (cJ, 4, .inr (.inl (aL (fun _ => 0))))), (q_6, .inl (cJ, 4, .inr (.inl (aL (fun _ => 0)))))] H := hP
  have hD : va_D A [(t_a, .inr (4, [.ref q_1, .ref q_2, .ref q_3, .ref q_4, .ref q_5, .ref q_6, .null, .int (iZ 0), .long (lZ 0), .long (lZ 0)])), (q_1, .inl (cI, 4, .inl (aI (fun _ => 0)))), (q_2, .inl (cI, 4, .inl (aI (fun _ => 0)))), (q_3, .inl (cI, 4, .inl (aI (fun _ => 0)))), (q_4, .inl (cI, 4, .inl (aI (fun _ => 0)))), (q_5, .inl (cJ, 4, .inr (.inl (aL (fun _ => 0))))), (q_6, .inl (cJ, 4, .inr (.inl (aL (fun _ => 0)))))] := hD
  refine lv_aload_n hx hb dPl_init_46 rfl (lv_at hl 0 rfl) ?_
  refine va_new (ci := 7) (fs := [.null, .null]) (C := RTm) (T := TTm) (N := 2) hx hb hts layTm tyTm tyTm_ok hown (hts _ (hm g168)) (hts _ (hm g141)) (hts _ (hm g64)) hK.1 hP hD hS hA rfl (fun j hj => by rcases (show j = 0 ∨ j = 1 by omega) with rfl | rfl <;> first | rfl | decide) (Nat.le_of_ble_eq_true rfl) (Nat.le_of_ble_eq_true rfl) dPl_init_47 (fun q_7 H hP hD hS => ?_)
  have hP : va_P D clAll [(t_a, .inr (4, [.ref q_1, .ref q_2, .ref q_3, .ref q_4, .ref q_5, .ref q_6, .null, .int (iZ 0), .long (lZ 0), .long (lZ 0)])), (q_1, .inl (cI, 4, .inl (aI (fun _ => 0)))), (q_2, .inl (cI, 4, .inl (aI (fun _ => 0)))), (q_3, .inl (cI, 4, .inl (aI (fun _ => 0)))), (q_4, .inl (cI, 4, .inl (aI (fun _ => 0)))), (q_5, .inl (cJ, 4, .inr (.inl (aL (fun _ => 0))))), (q_6, .inl (cJ, 4, .inr (.inl (aL (fun _ => 0))))), (q_7, .inr (7, [.null, .null]))] H := hP
  have hD : va_D A [(t_a, .inr (4, [.ref q_1, .ref q_2, .ref q_3, .ref q_4, .ref q_5, .ref q_6, .null, .int (iZ 0), .long (lZ 0), .long (lZ 0)])), (q_1, .inl (cI, 4, .inl (aI (fun _ => 0)))), (q_2, .inl (cI, 4, .inl (aI (fun _ => 0)))), (q_3, .inl (cI, 4, .inl (aI (fun _ => 0)))), (q_4, .inl (cI, 4, .inl (aI (fun _ => 0)))), (q_5, .inl (cJ, 4, .inr (.inl (aL (fun _ => 0))))), (q_6, .inl (cJ, 4, .inr (.inl (aL (fun _ => 0))))), (q_7, .inr (7, [.null, .null]))] := hD
  refine W.widen (k := 7) (n := 26) (by decide) (by decide) ?_
  refine lv_dup hx hb dPl_init_50 rfl ?_
  refine cq_callv (wr := [(t_a, .inr (4, [.ref q_1, .ref q_2, .ref q_3, .ref q_4, .ref q_5, .ref q_6, .null, .int (iZ 0), .long (lZ 0), .long (lZ 0)])), (q_1, .inl (cI, 4, .inl (aI (fun _ => 0)))), (q_2, .inl (cI, 4, .inl (aI (fun _ => 0)))), (q_3, .inl (cI, 4, .inl (aI (fun _ => 0)))), (q_4, .inl (cI, 4, .inl (aI (fun _ => 0)))), (q_5, .inl (cJ, 4, .inr (.inl (aL (fun _ => 0))))), (q_6, .inl (cJ, 4, .inr (.inl (aL (fun _ => 0)))))]) (va_runIN (As := []) (rest := [.ref q_7, .ref t_a]) ⟨hx, hb, hml, hown, hts⟩ (k_Terms_init l D cI cJ cZ q_7 H.size) ⟨(va_cnB 0 hts (gAll cmTm_init) rfl rfl rfl (hK.2.2 _ n19) (hts _ (hm g64)) (by decide +kernel) ⟨Nat.le_of_ble_eq_true rfl, Nat.le_of_ble_eq_true rfl⟩), rfl, (hts _ (hm g142))⟩ (cq_preS hK hP hD [7] (by decide) rfl) rfl rfl hl.1 rfl (lv_room (Nat.le_of_ble_eq_true rfl)) dPl_init_51 ⟨by decide, by decide⟩) hP hD hS hA [7] [0, 1, 2, 3, 4, 5, 6] rfl rfl (by decide) (by decide) (fun u H locs hw_8 hP hD hS => ?_)
  obtain ⟨o_9, o_10⟩ := u
  try dsimp only at hw_8
  have hP : va_P D clAll [(t_a, .inr (4, [.ref q_1, .ref q_2, .ref q_3, .ref q_4, .ref q_5, .ref q_6, .null, .int (iZ 0), .long (lZ 0), .long (lZ 0)])), (q_1, .inl (cI, 4, .inl (aI (fun _ => 0)))), (q_2, .inl (cI, 4, .inl (aI (fun _ => 0)))), (q_3, .inl (cI, 4, .inl (aI (fun _ => 0)))), (q_4, .inl (cI, 4, .inl (aI (fun _ => 0)))), (q_5, .inl (cJ, 4, .inr (.inl (aL (fun _ => 0))))), (q_6, .inl (cJ, 4, .inr (.inl (aL (fun _ => 0))))), (q_7, .inr (7, [.ref o_9, .ref o_10])), (o_9, .inl (cJ, 4, .inr (.inl (aL (fun _ => 0))))), (o_10, .inl (cJ, 4, .inr (.inl (aL (fun _ => 0)))))] H := hP
  have hD : va_D A [(t_a, .inr (4, [.ref q_1, .ref q_2, .ref q_3, .ref q_4, .ref q_5, .ref q_6, .null, .int (iZ 0), .long (lZ 0), .long (lZ 0)])), (q_1, .inl (cI, 4, .inl (aI (fun _ => 0)))), (q_2, .inl (cI, 4, .inl (aI (fun _ => 0)))), (q_3, .inl (cI, 4, .inl (aI (fun _ => 0)))), (q_4, .inl (cI, 4, .inl (aI (fun _ => 0)))), (q_5, .inl (cJ, 4, .inr (.inl (aL (fun _ => 0))))), (q_6, .inl (cJ, 4, .inr (.inl (aL (fun _ => 0))))), (q_7, .inr (7, [.ref o_9, .ref o_10])), (o_9, .inl (cJ, 4, .inr (.inl (aL (fun _ => 0))))), (o_10, .inl (cJ, 4, .inr (.inl (aL (fun _ => 0)))))] := hD
  refine W.widen (k := 9) (n := 34) (by decide) (by decide) ?_
  refine va_putF (D := D) (ci := 4) (v := .ref q_7) (ty := .object "StratumCounts$Terms") (C := RPl) (T := TPl) (N := 10) hx hb hts layPl tyPl tyPl_ok nmPl hown hK.1 hP hD hS 0 rfl rfl 6 (by decide) (hts _ (hm g175)) (fun _ h9 => h9) rfl hin rfl (by decide +kernel) rfl rfl (Nat.le_of_ble_eq_true rfl) dPl_init_54 (fun H locs hP hD hS => ?_)
  have hP : va_P D clAll [(t_a, .inr (4, [.ref q_1, .ref q_2, .ref q_3, .ref q_4, .ref q_5, .ref q_6, .ref q_7, .int (iZ 0), .long (lZ 0), .long (lZ 0)])), (q_1, .inl (cI, 4, .inl (aI (fun _ => 0)))), (q_2, .inl (cI, 4, .inl (aI (fun _ => 0)))), (q_3, .inl (cI, 4, .inl (aI (fun _ => 0)))), (q_4, .inl (cI, 4, .inl (aI (fun _ => 0)))), (q_5, .inl (cJ, 4, .inr (.inl (aL (fun _ => 0))))), (q_6, .inl (cJ, 4, .inr (.inl (aL (fun _ => 0))))), (q_7, .inr (7, [.ref o_9, .ref o_10])), (o_9, .inl (cJ, 4, .inr (.inl (aL (fun _ => 0))))), (o_10, .inl (cJ, 4, .inr (.inl (aL (fun _ => 0)))))] H := hP
  have hD : va_D A [(t_a, .inr (4, [.ref q_1, .ref q_2, .ref q_3, .ref q_4, .ref q_5, .ref q_6, .ref q_7, .int (iZ 0), .long (lZ 0), .long (lZ 0)])), (q_1, .inl (cI, 4, .inl (aI (fun _ => 0)))), (q_2, .inl (cI, 4, .inl (aI (fun _ => 0)))), (q_3, .inl (cI, 4, .inl (aI (fun _ => 0)))), (q_4, .inl (cI, 4, .inl (aI (fun _ => 0)))), (q_5, .inl (cJ, 4, .inr (.inl (aL (fun _ => 0))))), (q_6, .inl (cJ, 4, .inr (.inl (aL (fun _ => 0))))), (q_7, .inr (7, [.ref o_9, .ref o_10])), (o_9, .inl (cJ, 4, .inr (.inl (aL (fun _ => 0))))), (o_10, .inl (cJ, 4, .inr (.inl (aL (fun _ => 0)))))] := hD
  exact cq_vret hx hb hr hlocks hAe hQ (q_1, q_2, q_3, q_4, q_5, q_6, q_7, o_9, o_10) trivial (hP.sub [0, 1, 2, 3, 4, 5, 6, 7, 8, 9] rfl) (hD.sub [0, 1, 2, 3, 4, 5, 6, 7, 8, 9] (by decide) rfl) hS (by decide) (by decide) dPl_init_57
set_option maxHeartbeats 4000000 in
set_option maxRecDepth 100000 in
theorem k_Comparison_init (l : Launch) (D : va_G) (cI cJ cZ : ClassId) (t_a : Nat) (sz : Nat) : cq_v l yCp_init wsCp_init ({ frames := 1, cells := 1, slots := 10, locals := 12 }) D clAll [(cI, .int), (cJ, .long), (cZ, .boolean)] nwAll [.ref t_a] [(t_a, .inr (1, [.null, .int (iZ 0), .int (iZ 0), .int (iZ 0), .long (lZ 0)]))] sz (S := Nat) (fun (u : Nat) => True) (fun (u : Nat) => [(t_a, .inr (1, [.ref u, .int (iZ 0), .int (iZ 0), .int (iZ 0), .long (lZ 0)])), (u, .inl (cJ, 10, .inr (.inl (aL (fun _ => 0)))))]) 1 10 := by
  refine cq_enter (cc := cCp_init) (maxL := 1) (ret := none) (by decide) rfl (Nat.le_of_ble_eq_true rfl) ?_
  intro p e s m below meth c A args Q H hAe hQ hsz hAt hA hP hK hD hS ls hl
  obtain ⟨hx, hb, hr, hml, hown, hts, hlocks, hin⟩ := hAt
  have hown : s.vm.findClass RCp = some m.cls := hown
  have hl : lv_has ls 1 [(0, .ref t_a)] := hl
  have hin : meth.name = "<init>" := hin
  refine lv_aload_n hx hb dCp_init_0 rfl (lv_at hl 0 rfl) ?_
  refine W.objInit hx hb hown (hts _ (hm g193)) (hts _ (hm g78)) (hts _ (hm g79)) rfl (by rw [hml]; exact hl.1) rfl dCp_init_1 (Nat.le_of_ble_eq_true rfl) (Nat.le_of_ble_eq_true rfl) ?_
  refine W.eq (g2 := F0 m 4 ls []) rfl ?_
  refine lv_aload_n hx hb dCp_init_4 rfl (lv_at hl 0 rfl) ?_
  refine lv_bipush (v := iZ (10)) hx hb dCp_init_5 (by decide) ?_
  refine cq_newa (atype := .long) (a0 := (10, .inr (.inl (aL (fun _ => 0))))) hx hb (hts _ (hm g94)) rfl hK hP hD hS hA 1 rfl (fun cA => by rw [← aL_0]; rfl) (by decide) (by decide) (by decide) (Nat.le_of_ble_eq_true rfl) (Nat.le_of_ble_eq_true rfl) dCp_init_7 (fun q_1 H hP hD hS => ?_)
  have hP : va_P D clAll [(t_a, .inr (1, [.null, .int (iZ 0), .int (iZ 0), .int (iZ 0), .long (lZ 0)])), (q_1, .inl (cJ, 10, .inr (.inl (aL (fun _ => 0)))))] H := hP
  have hD : va_D A [(t_a, .inr (1, [.null, .int (iZ 0), .int (iZ 0), .int (iZ 0), .long (lZ 0)])), (q_1, .inl (cJ, 10, .inr (.inl (aL (fun _ => 0)))))] := hD
  refine W.widen (k := 1) (n := 10) (by decide) (by decide) ?_
  refine va_putF (D := D) (ci := 1) (v := .ref q_1) (ty := .array .long) (C := RCp) (T := TCp) (N := 5) hx hb hts layCp tyCp tyCp_ok nmCp hown hK.1 hP hD hS 0 rfl rfl 0 (by decide) (hts _ (hm g194)) (fun _ h9 => h9) rfl hin rfl (by decide +kernel) rfl rfl (Nat.le_of_ble_eq_true rfl) dCp_init_9 (fun H locs hP hD hS => ?_)
  have hP : va_P D clAll [(t_a, .inr (1, [.ref q_1, .int (iZ 0), .int (iZ 0), .int (iZ 0), .long (lZ 0)])), (q_1, .inl (cJ, 10, .inr (.inl (aL (fun _ => 0)))))] H := hP
  have hD : va_D A [(t_a, .inr (1, [.ref q_1, .int (iZ 0), .int (iZ 0), .int (iZ 0), .long (lZ 0)])), (q_1, .inl (cJ, 10, .inr (.inl (aL (fun _ => 0)))))] := hD
  exact cq_vret hx hb hr hlocks hAe hQ q_1 trivial (hP.sub [0, 1] rfl) (hD.sub [0, 1] (by decide) rfl) hS (by decide) (by decide) dCp_init_12
