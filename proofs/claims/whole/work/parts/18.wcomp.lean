set_option maxHeartbeats 4000000 in
set_option maxRecDepth 100000 in
theorem k_Integer_bitCount (l : Launch) (D : va_G) (cI cJ cZ : ClassId) (sz : Nat) (z : Int) (h_z1 : -2147483648 ≤ z) (h_z2 : z < 2147483648) (hz : 0 ≤ z ∧ z < 1024) : cq_i l yJI_bitCount wsJI_bitCount ({ frames := 0, cells := 0, slots := 0, locals := 0 }) D clAll [(cI, .int), (cJ, .long), (cZ, .boolean)] nwAll [.int (iZ z)] [] sz (S := Int) (fun (r : Int32) (u : Int) => r = iZ u ∧ (u = pcn z 10)) (fun (u : Int) => []) 0 0 := by
  refine cq_enter (cc := cJI_bitCount) (maxL := 1) (ret := some .int) (by decide) rfl (Nat.le_of_ble_eq_true rfl) ?_
  intro p e s m below meth c A args Q H hAe hQ hsz hAt hA hP hK hD hS ls hl
  obtain ⟨hx, hb, hr, hml, hown, hts, hlocks, hin⟩ := hAt
  have hown : s.vm.findClass RJI = some m.cls := hown
  have hl : lv_has ls 1 [(0, .int (iZ z))] := hl
  refine lv_iload_n hx hb dJI_bitCount_0 rfl (lv_at hl 0 rfl) ?_
  refine lv_iload_n hx hb dJI_bitCount_1 rfl (lv_at hl 0 rfl) ?_
  refine lv_iconst (v := iZ 1) hx hb dJI_bitCount_2 (by decide) ?_
  refine lv_iushr hx hb dJI_bitCount_3 rfl ?_
  refine lv_ldcw (v := iZ (1431655765)) hx hb hown (hts _ (hm g385)) dJI_bitCount_4 ?_
  refine lv_iand hx hb dJI_bitCount_7 ?_
  refine lv_isub hx hb dJI_bitCount_8 ?_
  refine lv_istore_n (lv' := [(0, .int ((iZ z) - ((((iZ z).toUInt32 >>> ((iZ 1).toUInt32 &&& Int32.toUInt32 31)).toInt32) &&& (iZ 1431655765))))]) hx hb dJI_bitCount_9 rfl hl (by decide) rfl (fun ls hl => ?_)
  refine lv_iload_n hx hb dJI_bitCount_10 rfl (lv_at hl 0 rfl) ?_
  refine lv_ldcw (v := iZ (858993459)) hx hb hown (hts _ (hm g386)) dJI_bitCount_11 ?_
  refine lv_iand hx hb dJI_bitCount_14 ?_
  refine lv_iload_n hx hb dJI_bitCount_15 rfl (lv_at hl 0 rfl) ?_
  refine lv_iconst (v := iZ 2) hx hb dJI_bitCount_16 (by decide) ?_
  refine lv_iushr hx hb dJI_bitCount_17 rfl ?_
  refine lv_ldcw (v := iZ (858993459)) hx hb hown (hts _ (hm g386)) dJI_bitCount_18 ?_
  refine lv_iand hx hb dJI_bitCount_21 ?_
  refine lv_iadd hx hb dJI_bitCount_22 ?_
  refine lv_istore_n (lv' := [(0, .int ((((iZ z) - ((((iZ z).toUInt32 >>> ((iZ 1).toUInt32 &&& Int32.toUInt32 31)).toInt32) &&& (iZ 1431655765))) &&& (iZ 858993459)) + (((((iZ z) - ((((iZ z).toUInt32 >>> ((iZ 1).toUInt32 &&& Int32.toUInt32 31)).toInt32) &&& (iZ 1431655765))).toUInt32 >>> ((iZ 2).toUInt32 &&& Int32.toUInt32 31)).toInt32) &&& (iZ 858993459))))]) hx hb dJI_bitCount_23 rfl hl (by decide) rfl (fun ls hl => ?_)
  refine lv_iload_n hx hb dJI_bitCount_24 rfl (lv_at hl 0 rfl) ?_
  refine lv_iload_n hx hb dJI_bitCount_25 rfl (lv_at hl 0 rfl) ?_
  refine lv_iconst (v := iZ 4) hx hb dJI_bitCount_26 (by decide) ?_
  refine lv_iushr hx hb dJI_bitCount_27 rfl ?_
  refine lv_iadd hx hb dJI_bitCount_28 ?_
  refine lv_ldcw (v := iZ (252645135)) hx hb hown (hts _ (hm g387)) dJI_bitCount_29 ?_
  refine lv_iand hx hb dJI_bitCount_32 ?_
  refine lv_istore_n (lv' := [(0, .int ((((((iZ z) - ((((iZ z).toUInt32 >>> ((iZ 1).toUInt32 &&& Int32.toUInt32 31)).toInt32) &&& (iZ 1431655765))) &&& (iZ 858993459)) + (((((iZ z) - ((((iZ z).toUInt32 >>> ((iZ 1).toUInt32 &&& Int32.toUInt32 31)).toInt32) &&& (iZ 1431655765))).toUInt32 >>> ((iZ 2).toUInt32 &&& Int32.toUInt32 31)).toInt32) &&& (iZ 858993459))) + ((((((iZ z) - ((((iZ z).toUInt32 >>> ((iZ 1).toUInt32 &&& Int32.toUInt32 31)).toInt32) &&& (iZ 1431655765))) &&& (iZ 858993459)) + (((((iZ z) - ((((iZ z).toUInt32 >>> ((iZ 1).toUInt32 &&& Int32.toUInt32 31)).toInt32) &&& (iZ 1431655765))).toUInt32 >>> ((iZ 2).toUInt32 &&& Int32.toUInt32 31)).toInt32) &&& (iZ 858993459))).toUInt32 >>> ((iZ 4).toUInt32 &&& Int32.toUInt32 31)).toInt32)) &&& (iZ 252645135)))]) hx hb dJI_bitCount_33 rfl hl (by decide) rfl (fun ls hl => ?_)
  refine lv_iload_n hx hb dJI_bitCount_34 rfl (lv_at hl 0 rfl) ?_
  refine lv_iload_n hx hb dJI_bitCount_35 rfl (lv_at hl 0 rfl) ?_
  refine lv_bipush (v := iZ (8)) hx hb dJI_bitCount_36 (by decide) ?_
  refine lv_iushr hx hb dJI_bitCount_38 rfl ?_
  refine lv_iadd hx hb dJI_bitCount_39 ?_
  refine lv_istore_n (lv' := [(0, .int (((((((iZ z) - ((((iZ z).toUInt32 >>> ((iZ 1).toUInt32 &&& Int32.toUInt32 31)).toInt32) &&& (iZ 1431655765))) &&& (iZ 858993459)) + (((((iZ z) - ((((iZ z).toUInt32 >>> ((iZ 1).toUInt32 &&& Int32.toUInt32 31)).toInt32) &&& (iZ 1431655765))).toUInt32 >>> ((iZ 2).toUInt32 &&& Int32.toUInt32 31)).toInt32) &&& (iZ 858993459))) + ((((((iZ z) - ((((iZ z).toUInt32 >>> ((iZ 1).toUInt32 &&& Int32.toUInt32 31)).toInt32) &&& (iZ 1431655765))) &&& (iZ 858993459)) + (((((iZ z) - ((((iZ z).toUInt32 >>> ((iZ 1).toUInt32 &&& Int32.toUInt32 31)).toInt32) &&& (iZ 1431655765))).toUInt32 >>> ((iZ 2).toUInt32 &&& Int32.toUInt32 31)).toInt32) &&& (iZ 858993459))).toUInt32 >>> ((iZ 4).toUInt32 &&& Int32.toUInt32 31)).toInt32)) &&& (iZ 252645135)) + ((((((((iZ z) - ((((iZ z).toUInt32 >>> ((iZ 1).toUInt32 &&& Int32.toUInt32 31)).toInt32) &&& (iZ 1431655765))) &&& (iZ 858993459)) + (((((iZ z) - ((((iZ z).toUInt32 >>> ((iZ 1).toUInt32 &&& Int32.toUInt32 31)).toInt32) &&& (iZ 1431655765))).toUInt32 >>> ((iZ 2).toUInt32 &&& Int32.toUInt32 31)).toInt32) &&& (iZ 858993459))) + ((((((iZ z) - ((((iZ z).toUInt32 >>> ((iZ 1).toUInt32 &&& Int32.toUInt32 31)).toInt32) &&& (iZ 1431655765))) &&& (iZ 858993459)) + (((((iZ z) - ((((iZ z).toUInt32 >>> ((iZ 1).toUInt32 &&& Int32.toUInt32 31)).toInt32) &&& (iZ 1431655765))).toUInt32 >>> ((iZ 2).toUInt32 &&& Int32.toUInt32 31)).toInt32) &&& (iZ 858993459))).toUInt32 >>> ((iZ 4).toUInt32 &&& Int32.toUInt32 31)).toInt32)) &&& (iZ 252645135)).toUInt32 >>> ((iZ 8).toUInt32 &&& Int32.toUInt32 31)).toInt32)))]) hx hb dJI_bitCount_40 rfl hl (by decide) rfl (fun ls hl => ?_)
  refine lv_iload_n hx hb dJI_bitCount_41 rfl (lv_at hl 0 rfl) ?_
  refine lv_iload_n hx hb dJI_bitCount_42 rfl (lv_at hl 0 rfl) ?_
  refine lv_bipush (v := iZ (16)) hx hb dJI_bitCount_43 (by decide) ?_
  refine lv_iushr hx hb dJI_bitCount_45 rfl ?_
  refine lv_iadd hx hb dJI_bitCount_46 ?_
  refine lv_istore_n (lv' := [(0, .int ((((((((iZ z) - ((((iZ z).toUInt32 >>> ((iZ 1).toUInt32 &&& Int32.toUInt32 31)).toInt32) &&& (iZ 1431655765))) &&& (iZ 858993459)) + (((((iZ z) - ((((iZ z).toUInt32 >>> ((iZ 1).toUInt32 &&& Int32.toUInt32 31)).toInt32) &&& (iZ 1431655765))).toUInt32 >>> ((iZ 2).toUInt32 &&& Int32.toUInt32 31)).toInt32) &&& (iZ 858993459))) + ((((((iZ z) - ((((iZ z).toUInt32 >>> ((iZ 1).toUInt32 &&& Int32.toUInt32 31)).toInt32) &&& (iZ 1431655765))) &&& (iZ 858993459)) + (((((iZ z) - ((((iZ z).toUInt32 >>> ((iZ 1).toUInt32 &&& Int32.toUInt32 31)).toInt32) &&& (iZ 1431655765))).toUInt32 >>> ((iZ 2).toUInt32 &&& Int32.toUInt32 31)).toInt32) &&& (iZ 858993459))).toUInt32 >>> ((iZ 4).toUInt32 &&& Int32.toUInt32 31)).toInt32)) &&& (iZ 252645135)) + ((((((((iZ z) - ((((iZ z).toUInt32 >>> ((iZ 1).toUInt32 &&& Int32.toUInt32 31)).toInt32) &&& (iZ 1431655765))) &&& (iZ 858993459)) + (((((iZ z) - ((((iZ z).toUInt32 >>> ((iZ 1).toUInt32 &&& Int32.toUInt32 31)).toInt32) &&& (iZ 1431655765))).toUInt32 >>> ((iZ 2).toUInt32 &&& Int32.toUInt32 31)).toInt32) &&& (iZ 858993459))) + ((((((iZ z) - ((((iZ z).toUInt32 >>> ((iZ 1).toUInt32 &&& Int32.toUInt32 31)).toInt32) &&& (iZ 1431655765))) &&& (iZ 858993459)) + (((((iZ z) - ((((iZ z).toUInt32 >>> ((iZ 1).toUInt32 &&& Int32.toUInt32 31)).toInt32) &&& (iZ 1431655765))).toUInt32 >>> ((iZ 2).toUInt32 &&& Int32.toUInt32 31)).toInt32) &&& (iZ 858993459))).toUInt32 >>> ((iZ 4).toUInt32 &&& Int32.toUInt32 31)).toInt32)) &&& (iZ 252645135)).toUInt32 >>> ((iZ 8).toUInt32 &&& Int32.toUInt32 31)).toInt32)) + (((((((((iZ z) - ((((iZ z).toUInt32 >>> ((iZ 1).toUInt32 &&& Int32.toUInt32 31)).toInt32) &&& (iZ 1431655765))) &&& (iZ 858993459)) + (((((iZ z) - ((((iZ z).toUInt32 >>> ((iZ 1).toUInt32 &&& Int32.toUInt32 31)).toInt32) &&& (iZ 1431655765))).toUInt32 >>> ((iZ 2).toUInt32 &&& Int32.toUInt32 31)).toInt32) &&& (iZ 858993459))) + ((((((iZ z) - ((((iZ z).toUInt32 >>> ((iZ 1).toUInt32 &&& Int32.toUInt32 31)).toInt32) &&& (iZ 1431655765))) &&& (iZ 858993459)) + (((((iZ z) - ((((iZ z).toUInt32 >>> ((iZ 1).toUInt32 &&& Int32.toUInt32 31)).toInt32) &&& (iZ 1431655765))).toUInt32 >>> ((iZ 2).toUInt32 &&& Int32.toUInt32 31)).toInt32) &&& (iZ 858993459))).toUInt32 >>> ((iZ 4).toUInt32 &&& Int32.toUInt32 31)).toInt32)) &&& (iZ 252645135)) + ((((((((iZ z) - ((((iZ z).toUInt32 >>> ((iZ 1).toUInt32 &&& Int32.toUInt32 31)).toInt32) &&& (iZ 1431655765))) &&& (iZ 858993459)) + (((((iZ z) - ((((iZ z).toUInt32 >>> ((iZ 1).toUInt32 &&& Int32.toUInt32 31)).toInt32) &&& (iZ 1431655765))).toUInt32 >>> ((iZ 2).toUInt32 &&& Int32.toUInt32 31)).toInt32) &&& (iZ 858993459))) + ((((((iZ z) - ((((iZ z).toUInt32 >>> ((iZ 1).toUInt32 &&& Int32.toUInt32 31)).toInt32) &&& (iZ 1431655765))) &&& (iZ 858993459)) + (((((iZ z) - ((((iZ z).toUInt32 >>> ((iZ 1).toUInt32 &&& Int32.toUInt32 31)).toInt32) &&& (iZ 1431655765))).toUInt32 >>> ((iZ 2).toUInt32 &&& Int32.toUInt32 31)).toInt32) &&& (iZ 858993459))).toUInt32 >>> ((iZ 4).toUInt32 &&& Int32.toUInt32 31)).toInt32)) &&& (iZ 252645135)).toUInt32 >>> ((iZ 8).toUInt32 &&& Int32.toUInt32 31)).toInt32)).toUInt32 >>> ((iZ 16).toUInt32 &&& Int32.toUInt32 31)).toInt32)))]) hx hb dJI_bitCount_47 rfl hl (by decide) rfl (fun ls hl => ?_)
  refine lv_iload_n hx hb dJI_bitCount_48 rfl (lv_at hl 0 rfl) ?_
  refine lv_bipush (v := iZ (63)) hx hb dJI_bitCount_49 (by decide) ?_
  refine lv_iand hx hb dJI_bitCount_51 ?_
  refine cq_ti ((show _ = bcx (iZ z) from rfl).trans (bcx_ok hz.1 hz.2)) ?_
  exact cq_iret hx hb hr hlocks hAe hQ (pcn z 10) ⟨rfl, (by (try dsimp only) <;> (first | rfl | omega | (refine Or.inl ?_; and_intros <;> first | rfl | omega) | (refine Or.inr ?_; and_intros <;> first | rfl | omega)))⟩ (hP.sub [] rfl) (hD.sub [] (by decide) rfl) hS (by decide) (by decide) dJI_bitCount_52
set_option maxHeartbeats 4000000 in
set_option maxRecDepth 100000 in
theorem k_Comparison_take (l : Launch) (D : va_G) (cI cJ cZ : ClassId) (t_a t_grams_a : Nat) (sz : Nat) (t_number : Int) (t_firsts : Int) (t_actual : Int) (t_total : Int) (t_grams_f : Int → Int) (am : Int) (da : Int) (h_am1 : -9223372036854775808 ≤ am) (h_am2 : am < 9223372036854775808) (h_da1 : -2147483648 ≤ da) (h_da2 : da < 2147483648) (hnb : 0 ≤ t_number ∧ t_number < 10) (hac : 0 ≤ t_actual ∧ t_actual < p2 t_number) (hda : 0 ≤ da ∧ da ≤ 1) : cq_v l yCp_take wsCp_take ({ frames := 0, cells := 0, slots := 0, locals := 0 }) D clAll [(cI, .int), (cJ, .long), (cZ, .boolean)] nwAll [.ref t_a, .long (lZ am), .int (iZ da)] [(t_a, .inr (1, [.ref t_grams_a, .int (iZ t_number), .int (iZ t_firsts), .int (iZ t_actual), .long (lZ t_total)])), (t_grams_a, .inl (cJ, 10, .inr (.inl (aL t_grams_f))))] sz (S := Int × Int × Int × (Int → Int)) (fun (u : Int × Int × Int × (Int → Int)) => (u.1 = t_number + 1) ∧ (u.2.1 = (if da = 0 then t_actual + p2 t_number else t_actual)) ∧ (u.2.2.1 = t_total + am) ∧ (u.2.2.2 = pu t_grams_f t_number am)) (fun (u : Int × Int × Int × (Int → Int)) => [(t_a, .inr (1, [.ref t_grams_a, .int (iZ u.1), .int (iZ t_firsts), .int (iZ u.2.1), .long (lZ u.2.2.1)])), (t_grams_a, .inl (cJ, 10, .inr (.inl (aL u.2.2.2))))]) 0 0 := by
  refine cq_enter (cc := cCp_take) (maxL := 4) (ret := none) (by decide) rfl (Nat.le_of_ble_eq_true rfl) ?_
  intro p e s m below meth c A args Q H hAe hQ hsz hAt hA hP hK hD hS ls hl
  obtain ⟨hx, hb, hr, hml, hown, hts, hlocks, hin⟩ := hAt
  have hown : s.vm.findClass RCp = some m.cls := hown
  have hl : lv_has ls 4 [(0, .ref t_a), (1, .long (lZ am)), (3, .int (iZ da))] := hl
  refine lv_aload_n hx hb dCp_take_0 rfl (lv_at hl 0 rfl) ?_
  refine va_get (D := D) (ci := 1) (v := .ref t_grams_a) (C := RCp) (T := TCp) (N := 5) hx hb hts layCp hown hK.1 hP 0 rfl rfl 0 (by decide) (hts _ (hm g194)) (fun _ h9 => h9) rfl dCp_take_1 ?_
  refine lv_aload_n hx hb dCp_take_4 rfl (lv_at hl 0 rfl) ?_
  refine va_get (D := D) (ci := 1) (v := .int (iZ t_number)) (C := RCp) (T := TCp) (N := 5) hx hb hts layCp hown hK.1 hP 0 rfl rfl 1 (by decide) (hts _ (hm g195)) (fun _ h9 => h9) rfl dCp_take_5 ?_
  refine lv_lload_n hx hb dCp_take_8 rfl (lv_at hl 1 rfl) ?_
  refine z_last hx hb hK hP hD hS 1 1 rfl rfl (by omega) (by omega) (by decide) dCp_take_9 (fun H locs hP hD hS => ?_)
  have hP : va_P D clAll [(t_a, .inr (1, [.ref t_grams_a, .int (iZ t_number), .int (iZ t_firsts), .int (iZ t_actual), .long (lZ t_total)])), (t_grams_a, .inl (cJ, 10, .inr (.inl (aL (pu t_grams_f t_number am)))))] H := hP
  have hD : va_D A [(t_a, .inr (1, [.ref t_grams_a, .int (iZ t_number), .int (iZ t_firsts), .int (iZ t_actual), .long (lZ t_total)])), (t_grams_a, .inl (cJ, 10, .inr (.inl (aL (pu t_grams_f t_number am)))))] := hD
  refine lv_aload_n hx hb dCp_take_10 rfl (lv_at hl 0 rfl) ?_
  refine lv_dup hx hb dCp_take_11 rfl ?_
  refine va_get (D := D) (ci := 1) (v := .long (lZ t_total)) (C := RCp) (T := TCp) (N := 5) hx hb hts layCp hown hK.1 hP 0 rfl rfl 4 (by decide) (hts _ (hm g198)) (fun _ h9 => h9) rfl dCp_take_12 ?_
  refine lv_lload_n hx hb dCp_take_15 rfl (lv_at hl 1 rfl) ?_
  refine z_ladd hx hb dCp_take_16 ?_
  refine va_put (D := D) (ci := 1) (v := .long (lZ (t_total + am))) (ty := .long) (C := RCp) (T := TCp) (N := 5) hx hb hts layCp tyCp tyCp_ok nmCp hown hK.1 hP hD hS 0 rfl rfl 4 (by decide) (hts _ (hm g198)) (fun _ h9 => h9) rfl (by decide +kernel) rfl rfl (Nat.le_of_ble_eq_true rfl) dCp_take_17 (fun H locs hP hD hS => ?_)
  have hP : va_P D clAll [(t_a, .inr (1, [.ref t_grams_a, .int (iZ t_number), .int (iZ t_firsts), .int (iZ t_actual), .long (lZ (t_total + am))])), (t_grams_a, .inl (cJ, 10, .inr (.inl (aL (pu t_grams_f t_number am)))))] H := hP
  have hD : va_D A [(t_a, .inr (1, [.ref t_grams_a, .int (iZ t_number), .int (iZ t_firsts), .int (iZ t_actual), .long (lZ (t_total + am))])), (t_grams_a, .inl (cJ, 10, .inr (.inl (aL (pu t_grams_f t_number am)))))] := hD
  refine lv_iload_n hx hb dCp_take_20 rfl (lv_at hl 2 rfl) ?_
  refine z_if_ne (tgt := 39) hx hb (by omega) (by omega) dCp_take_21 (by decide) (fun c_1 => ?_) (fun c_1 => ?_)
  ·
    refine lv_aload_n hx hb dCp_take_39 rfl (lv_at hl 0 rfl) ?_
    refine lv_dup hx hb dCp_take_40 rfl ?_
    refine va_get (D := D) (ci := 1) (v := .int (iZ t_number)) (C := RCp) (T := TCp) (N := 5) hx hb hts layCp hown hK.1 hP 0 rfl rfl 1 (by decide) (hts _ (hm g195)) (fun _ h9 => h9) rfl dCp_take_41 ?_
    refine lv_iconst (v := iZ 1) hx hb dCp_take_44 (by decide) ?_
    refine z_iadd hx hb dCp_take_45 ?_
    refine va_put (D := D) (ci := 1) (v := .int (iZ (t_number + 1))) (ty := .int) (C := RCp) (T := TCp) (N := 5) hx hb hts layCp tyCp tyCp_ok nmCp hown hK.1 hP hD hS 0 rfl rfl 1 (by decide) (hts _ (hm g195)) (fun _ h9 => h9) rfl (by decide +kernel) rfl rfl (Nat.le_of_ble_eq_true rfl) dCp_take_46 (fun H locs hP hD hS => ?_)
    have hP : va_P D clAll [(t_a, .inr (1, [.ref t_grams_a, .int (iZ (t_number + 1)), .int (iZ t_firsts), .int (iZ t_actual), .long (lZ (t_total + am))])), (t_grams_a, .inl (cJ, 10, .inr (.inl (aL (pu t_grams_f t_number am)))))] H := hP
    have hD : va_D A [(t_a, .inr (1, [.ref t_grams_a, .int (iZ (t_number + 1)), .int (iZ t_firsts), .int (iZ t_actual), .long (lZ (t_total + am))])), (t_grams_a, .inl (cJ, 10, .inr (.inl (aL (pu t_grams_f t_number am)))))] := hD
    exact cq_vret hx hb hr hlocks hAe hQ (t_number + 1, t_actual, t_total + am, (pu t_grams_f t_number am)) ⟨(by (try dsimp only) <;> (first | rfl | (rw [if_pos (by assumption)]; done) | (rw [if_neg (by assumption)]; done))), (by (try dsimp only) <;> (first | rfl | (rw [if_pos (by assumption)]; done) | (rw [if_neg (by assumption)]; done))), (by (try dsimp only) <;> (first | rfl | (rw [if_pos (by assumption)]; done) | (rw [if_neg (by assumption)]; done))), (by (try dsimp only) <;> (first | rfl | (rw [if_pos (by assumption)]; done) | (rw [if_neg (by assumption)]; done)))⟩ (hP.sub [0, 1] rfl) (hD.sub [0, 1] (by decide) rfl) hS (by decide) (by decide) dCp_take_49
  ·
    refine lv_aload_n hx hb dCp_take_24 rfl (lv_at hl 0 rfl) ?_
    refine lv_dup hx hb dCp_take_25 rfl ?_
    refine va_get (D := D) (ci := 1) (v := .int (iZ t_actual)) (C := RCp) (T := TCp) (N := 5) hx hb hts layCp hown hK.1 hP 0 rfl rfl 3 (by decide) (hts _ (hm g197)) (fun _ h9 => h9) rfl dCp_take_26 ?_
    refine lv_iconst (v := iZ 1) hx hb dCp_take_29 (by decide) ?_
    refine lv_aload_n hx hb dCp_take_30 rfl (lv_at hl 0 rfl) ?_
    refine va_get (D := D) (ci := 1) (v := .int (iZ t_number)) (C := RCp) (T := TCp) (N := 5) hx hb hts layCp hown hK.1 hP 0 rfl rfl 1 (by decide) (hts _ (hm g195)) (fun _ h9 => h9) rfl dCp_take_31 ?_
    refine lv_ishl hx hb dCp_take_34 ?_
    refine lv_ior hx hb dCp_take_35 ?_
    refine cq_ti (or_p2 hac.1 hac.2 hnb.1 (by omega)) ?_
    refine va_put (D := D) (ci := 1) (v := .int (iZ (t_actual + p2 t_number))) (ty := .int) (C := RCp) (T := TCp) (N := 5) hx hb hts layCp tyCp tyCp_ok nmCp hown hK.1 hP hD hS 0 rfl rfl 3 (by decide) (hts _ (hm g197)) (fun _ h9 => h9) rfl (by decide +kernel) rfl rfl (Nat.le_of_ble_eq_true rfl) dCp_take_36 (fun H locs hP hD hS => ?_)
    have hP : va_P D clAll [(t_a, .inr (1, [.ref t_grams_a, .int (iZ t_number), .int (iZ t_firsts), .int (iZ (t_actual + p2 t_number)), .long (lZ (t_total + am))])), (t_grams_a, .inl (cJ, 10, .inr (.inl (aL (pu t_grams_f t_number am)))))] H := hP
    have hD : va_D A [(t_a, .inr (1, [.ref t_grams_a, .int (iZ t_number), .int (iZ t_firsts), .int (iZ (t_actual + p2 t_number)), .long (lZ (t_total + am))])), (t_grams_a, .inl (cJ, 10, .inr (.inl (aL (pu t_grams_f t_number am)))))] := hD
    refine lv_aload_n hx hb dCp_take_39 rfl (lv_at hl 0 rfl) ?_
    refine lv_dup hx hb dCp_take_40 rfl ?_
    refine va_get (D := D) (ci := 1) (v := .int (iZ t_number)) (C := RCp) (T := TCp) (N := 5) hx hb hts layCp hown hK.1 hP 0 rfl rfl 1 (by decide) (hts _ (hm g195)) (fun _ h9 => h9) rfl dCp_take_41 ?_
    refine lv_iconst (v := iZ 1) hx hb dCp_take_44 (by decide) ?_
    refine z_iadd hx hb dCp_take_45 ?_
    refine va_put (D := D) (ci := 1) (v := .int (iZ (t_number + 1))) (ty := .int) (C := RCp) (T := TCp) (N := 5) hx hb hts layCp tyCp tyCp_ok nmCp hown hK.1 hP hD hS 0 rfl rfl 1 (by decide) (hts _ (hm g195)) (fun _ h9 => h9) rfl (by decide +kernel) rfl rfl (Nat.le_of_ble_eq_true rfl) dCp_take_46 (fun H locs hP hD hS => ?_)
    have hP : va_P D clAll [(t_a, .inr (1, [.ref t_grams_a, .int (iZ (t_number + 1)), .int (iZ t_firsts), .int (iZ (t_actual + p2 t_number)), .long (lZ (t_total + am))])), (t_grams_a, .inl (cJ, 10, .inr (.inl (aL (pu t_grams_f t_number am)))))] H := hP
    have hD : va_D A [(t_a, .inr (1, [.ref t_grams_a, .int (iZ (t_number + 1)), .int (iZ t_firsts), .int (iZ (t_actual + p2 t_number)), .long (lZ (t_total + am))])), (t_grams_a, .inl (cJ, 10, .inr (.inl (aL (pu t_grams_f t_number am)))))] := hD
    exact cq_vret hx hb hr hlocks hAe hQ (t_number + 1, t_actual + p2 t_number, t_total + am, (pu t_grams_f t_number am)) ⟨(by (try dsimp only) <;> (first | rfl | (rw [if_pos (by assumption)]; done) | (rw [if_neg (by assumption)]; done))), (by (try dsimp only) <;> (first | rfl | (rw [if_pos (by assumption)]; done) | (rw [if_neg (by assumption)]; done))), (by (try dsimp only) <;> (first | rfl | (rw [if_pos (by assumption)]; done) | (rw [if_neg (by assumption)]; done))), (by (try dsimp only) <;> (first | rfl | (rw [if_pos (by assumption)]; done) | (rw [if_neg (by assumption)]; done)))⟩ (hP.sub [0, 1] rfl) (hD.sub [0, 1] (by decide) rfl) hS (by decide) (by decide) dCp_take_49
set_option maxHeartbeats 4000000 in
set_option maxRecDepth 100000 in
theorem k_Comparison_apart (l : Launch) (D : va_G) (cI cJ cZ : ClassId) (t_a t_grams_a : Nat) (sz : Nat) (t_number : Int) (t_firsts : Int) (t_actual : Int) (t_total : Int) (t_grams_f : Int → Int) (w : Int) (h_w1 : -2147483648 ≤ w) (h_w2 : w < 2147483648) (hw0 : 0 ≤ w ∧ w < 1024) (hnb : 0 ≤ t_number ∧ t_number ≤ 10) (hf : 0 ≤ t_firsts ∧ t_firsts ≤ 10) (ht : 0 ≤ t_total ∧ t_total ≤ 200000) (hgr : ∀ j, 0 ≤ t_grams_f j ∧ t_grams_f j ≤ 10000) : cq_l l yCp_apart wsCp_apart ({ frames := 1, cells := 0, slots := 0, locals := 60 }) D clAll [(cI, .int), (cJ, .long), (cZ, .boolean)] nwAll [.ref t_a, .int (iZ w)] [(t_a, .inr (1, [.ref t_grams_a, .int (iZ t_number), .int (iZ t_firsts), .int (iZ t_actual), .long (lZ t_total)])), (t_grams_a, .inl (cJ, 10, .inr (.inl (aL t_grams_f))))] sz (S := Int) (fun (r : Int64) (u : Int) => r = lZ u ∧ (u = apv t_grams_f w t_number t_firsts t_total)) (fun (u : Int) => [(t_a, .inr (1, [.ref t_grams_a, .int (iZ t_number), .int (iZ t_firsts), .int (iZ t_actual), .long (lZ t_total)])), (t_grams_a, .inl (cJ, 10, .inr (.inl (aL t_grams_f))))]) 0 0 := by
  refine cq_enter (cc := cCp_apart) (maxL := 5) (ret := some .long) (by decide) rfl (Nat.le_of_ble_eq_true rfl) ?_
  intro p e s m below meth c A args Q H hAe hQ hsz hAt hA hP hK hD hS ls hl
  obtain ⟨hx, hb, hr, hml, hown, hts, hlocks, hin⟩ := hAt
  have hown : s.vm.findClass RCp = some m.cls := hown
  have hl : lv_has ls 5 [(0, .ref t_a), (1, .int (iZ w))] := hl
  refine lv_lconst (v := lZ 0) hx hb dCp_apart_0 (by decide) ?_
  refine lv_lstore_n (lv' := [(2, .long (lZ 0)), (0, .ref t_a), (1, .int (iZ w))]) hx hb dCp_apart_1 rfl hl (by decide) rfl (fun ls hl => ?_)
  refine lv_iconst (v := iZ 0) hx hb dCp_apart_2 (by decide) ?_
  refine lv_istore (lv' := [(4, .int (iZ 0)), (2, .long (lZ 0)), (0, .ref t_a), (1, .int (iZ w))]) hx hb dCp_apart_3 hl (by decide) rfl (fun ls hl => ?_)
  have loop_1 : ∀ (n_3 : Nat) (sm : Int) (i : Int), (0 ≤ i) → (i ≤ t_number) → (sm = sZ (fun j => if bi w j = 1 then t_grams_f j else 0) i) → (t_number - i < (n_3 : Int)) → ∀ (H : Heap) (locs : List Loc), va_P D clAll [(t_a, .inr (1, [.ref t_grams_a, .int (iZ t_number), .int (iZ t_firsts), .int (iZ t_actual), .long (lZ t_total)])), (t_grams_a, .inl (cJ, 10, .inr (.inl (aL t_grams_f))))] H → va_D A [(t_a, .inr (1, [.ref t_grams_a, .int (iZ t_number), .int (iZ t_firsts), .int (iZ t_actual), .long (lZ t_total)])), (t_grams_a, .inl (cJ, 10, .inr (.inl (aL t_grams_f))))] → va_S A s.heap H locs → ∀ ls : Array Slot, lv_has ls 5 [(0, .ref t_a), (1, .int (iZ w)), (2, .long (lZ sm)), (4, .int (iZ i))] → W p l e { frames := 1, cells := 0, slots := 0, locals := 60 } s m args below meth c H locs 0 0 Q (F0 m 5 ls []) := by
    intro n_3
    induction n_3 with
    | zero => intro sm i hi hi2 hsm hm_4; exact absurd hm_4 (by omega)
    | succ n_3 ih_2 =>
      intro sm i hi hi2 hsm hm_4 H locs hP hD hS ls hl
      refine lv_iload hx hb dCp_apart_5 (lv_at hl 3 rfl) ?_
      refine lv_aload_n hx hb dCp_apart_7 rfl (lv_at hl 0 rfl) ?_
      refine va_get (D := D) (ci := 1) (v := .int (iZ t_number)) (C := RCp) (T := TCp) (N := 5) hx hb hts layCp hown hK.1 hP 0 rfl rfl 1 (by decide) (hts _ (hm g195)) (fun _ h9 => h9) rfl dCp_apart_8 ?_
      refine z_icmp_ge (tgt := 40) hx hb (by omega) (by omega) (by omega) (by omega) dCp_apart_11 (by decide) (fun c_5 => ?_) (fun c_5 => ?_)
      ·
        have hb1 := ap_b hsm hi (by omega) hgr
        have hb2 := ap_bd hb1 hnb hf ht
        refine lv_lload_n hx hb dCp_apart_40 rfl (lv_at hl 2 rfl) ?_
        refine lv_aload_n hx hb dCp_apart_41 rfl (lv_at hl 0 rfl) ?_
        refine va_get (D := D) (ci := 1) (v := .int (iZ t_number)) (C := RCp) (T := TCp) (N := 5) hx hb hts layCp hown hK.1 hP 0 rfl rfl 1 (by decide) (hts _ (hm g195)) (fun _ h9 => h9) rfl dCp_apart_42 ?_
        refine lv_aload_n hx hb dCp_apart_45 rfl (lv_at hl 0 rfl) ?_
        refine va_get (D := D) (ci := 1) (v := .int (iZ t_firsts)) (C := RCp) (T := TCp) (N := 5) hx hb hts layCp hown hK.1 hP 0 rfl rfl 2 (by decide) (hts _ (hm g196)) (fun _ h9 => h9) rfl dCp_apart_46 ?_
        refine z_isub hx hb dCp_apart_49 ?_
        refine z_i2l hx hb (by omega) (by omega) dCp_apart_50 ?_
        refine z_lmul hx hb dCp_apart_51 ?_
        refine lv_aload_n hx hb dCp_apart_52 rfl (lv_at hl 0 rfl) ?_
        refine va_get (D := D) (ci := 1) (v := .long (lZ t_total)) (C := RCp) (T := TCp) (N := 5) hx hb hts layCp hown hK.1 hP 0 rfl rfl 4 (by decide) (hts _ (hm g198)) (fun _ h9 => h9) rfl dCp_apart_53 ?_
        refine lv_lload_n hx hb dCp_apart_56 rfl (lv_at hl 2 rfl) ?_
        refine z_lsub hx hb dCp_apart_57 ?_
        refine lv_aload_n hx hb dCp_apart_58 rfl (lv_at hl 0 rfl) ?_
        refine va_get (D := D) (ci := 1) (v := .int (iZ t_firsts)) (C := RCp) (T := TCp) (N := 5) hx hb hts layCp hown hK.1 hP 0 rfl rfl 2 (by decide) (hts _ (hm g196)) (fun _ h9 => h9) rfl dCp_apart_59 ?_
        refine z_i2l hx hb (by omega) (by omega) dCp_apart_62 ?_
        refine z_lmul hx hb dCp_apart_63 ?_
        refine z_lsub hx hb dCp_apart_64 ?_
        refine va_mabs_long hx hb (hml.trans hl.1.symm) hown (hts _ (hm g393)) (hts _ (hm g394)) (hts _ (hm g71)) (hts _ (hm g395)) (by decide) (by decide) (by decide) (by decide) dCp_apart_65 ?_
        refine cq_tl (abs_l (by omega) (by omega)) ?_
        exact cq_lret hx hb hr hlocks hAe hQ (if 0 < (sm * (t_number - t_firsts)) - ((t_total - sm) * t_firsts) then (sm * (t_number - t_firsts)) - ((t_total - sm) * t_firsts) else -((sm * (t_number - t_firsts)) - ((t_total - sm) * t_firsts))) ⟨rfl, (by (try dsimp only) <;> (exact ap_end hsm (by omega)))⟩ (hP.sub [0, 1] rfl) (hD.sub [0, 1] (by decide) rfl) hS (by decide) (by decide) dCp_apart_68
      ·
        refine lv_iload_n hx hb dCp_apart_14 rfl (lv_at hl 1 rfl) ?_
        refine lv_iload hx hb dCp_apart_15 (lv_at hl 3 rfl) ?_
        refine lv_ishr hx hb dCp_apart_17 ?_
        refine lv_iconst (v := iZ 1) hx hb dCp_apart_18 (by decide) ?_
        refine lv_iand hx hb dCp_apart_19 ?_
        refine cq_ti (sh_bit hw0.1 (by omega) hi (by omega)) ?_
        have hbb := bi_b w i
        refine lv_iconst (v := iZ 1) hx hb dCp_apart_20 (by decide) ?_
        refine z_icmp_ne (tgt := 34) hx hb (by omega) (by omega) (by omega) (by omega) dCp_apart_21 (by decide) (fun c_6 => ?_) (fun c_6 => ?_)
        ·
          refine lv_iinc (v := iZ (i + 1)) (lv' := [(4, .int (iZ (i + 1))), (0, .ref t_a), (1, .int (iZ w)), (2, .long (lZ sm))]) hx hb dCp_apart_34 hl (k := 3) rfl (iZ_add i 1) (by decide) rfl (fun ls hl => ?_)
          refine lv_goto (tgt := 5) hx hb dCp_apart_37 (by decide) ?_
          exact ih_2  sm (i + 1) (by omega) (by omega) (by first | exact ap_1 hsm hi (by assumption) | exact ap_0 hsm hi (by assumption)) (by omega) _ _ (hP.sub [0, 1] rfl) (hD.sub [0, 1] (by decide) rfl) hS ls (lv_sub hl [1, 2, 3, 0] rfl)
        ·
          refine lv_lload_n hx hb dCp_apart_24 rfl (lv_at hl 2 rfl) ?_
          refine lv_aload_n hx hb dCp_apart_25 rfl (lv_at hl 0 rfl) ?_
          refine va_get (D := D) (ci := 1) (v := .ref t_grams_a) (C := RCp) (T := TCp) (N := 5) hx hb hts layCp hown hK.1 hP 0 rfl rfl 0 (by decide) (hts _ (hm g194)) (fun _ h9 => h9) rfl dCp_apart_26 ?_
          refine lv_iload hx hb dCp_apart_29 (lv_at hl 3 rfl) ?_
          refine z_lald hx hb hK hP 1 1 rfl rfl (by omega) (by omega) (by decide) dCp_apart_31 ?_
          have f_7 := hgr i
          refine z_ladd hx hb dCp_apart_32 ?_
          refine lv_lstore_n (lv' := [(2, .long (lZ (sm + (t_grams_f i)))), (0, .ref t_a), (1, .int (iZ w)), (4, .int (iZ i))]) hx hb dCp_apart_33 rfl hl (by decide) rfl (fun ls hl => ?_)
          refine lv_iinc (v := iZ (i + 1)) (lv' := [(4, .int (iZ (i + 1))), (2, .long (lZ (sm + (t_grams_f i)))), (0, .ref t_a), (1, .int (iZ w))]) hx hb dCp_apart_34 hl (k := 3) rfl (iZ_add i 1) (by decide) rfl (fun ls hl => ?_)
          refine lv_goto (tgt := 5) hx hb dCp_apart_37 (by decide) ?_
          exact ih_2  (sm + (t_grams_f i)) (i + 1) (by omega) (by omega) (by first | exact ap_1 hsm hi (by assumption) | exact ap_0 hsm hi (by assumption)) (by omega) _ _ (hP.sub [0, 1] rfl) (hD.sub [0, 1] (by decide) rfl) hS ls (lv_sub hl [2, 3, 1, 0] rfl)
  exact loop_1 ((t_number - 0 : Int).toNat + 1) 0 0 (by omega) (by omega) (by rfl) (by omega) _ _ (hP.sub [0, 1] rfl) (hD.sub [0, 1] (by decide) rfl) hS ls (lv_sub hl [2, 3, 1, 0] rfl)
set_option maxHeartbeats 4000000 in
set_option maxRecDepth 100000 in
theorem k_Comparison_countWays (l : Launch) (D : va_G) (cI cJ cZ : ClassId) (t_a t_grams_a : Nat) (sz : Nat) (t_number : Int) (t_firsts : Int) (t_actual : Int) (t_total : Int) (hnb : 0 ≤ t_number ∧ t_number ≤ 10) (hf : 0 ≤ t_firsts ∧ t_firsts ≤ 10) : cq_l l yCp_countWays wsCp_countWays ({ frames := 1, cells := 0, slots := 0, locals := 20 }) D clAll [(cI, .int), (cJ, .long), (cZ, .boolean)] nwAll [.ref t_a] [(t_a, .inr (1, [.ref t_grams_a, .int (iZ t_number), .int (iZ t_firsts), .int (iZ t_actual), .long (lZ t_total)]))] sz (S := Int) (fun (r : Int64) (u : Int) => r = lZ u ∧ (u = sZ (fun w => if pcn w 10 = t_firsts then 1 else 0) (p2 t_number))) (fun (u : Int) => [(t_a, .inr (1, [.ref t_grams_a, .int (iZ t_number), .int (iZ t_firsts), .int (iZ t_actual), .long (lZ t_total)]))]) 0 0 := by
  refine cq_enter (cc := cCp_countWays) (maxL := 4) (ret := some .long) (by decide) rfl (Nat.le_of_ble_eq_true rfl) ?_
  intro p e s m below meth c A args Q H hAe hQ hsz hAt hA hP hK hD hS ls hl
  obtain ⟨hx, hb, hr, hml, hown, hts, hlocks, hin⟩ := hAt
  have hown : s.vm.findClass RCp = some m.cls := hown
  have hl : lv_has ls 4 [(0, .ref t_a)] := hl
  refine lv_lconst (v := lZ 0) hx hb dCp_countWays_0 (by decide) ?_
  refine lv_lstore_n (lv' := [(1, .long (lZ 0)), (0, .ref t_a)]) hx hb dCp_countWays_1 rfl hl (by decide) rfl (fun ls hl => ?_)
  refine lv_iconst (v := iZ 0) hx hb dCp_countWays_2 (by decide) ?_
  refine lv_istore_n (lv' := [(3, .int (iZ 0)), (1, .long (lZ 0)), (0, .ref t_a)]) hx hb dCp_countWays_3 rfl hl (by decide) rfl (fun ls hl => ?_)
  have hp2 := p2_10 hnb.1 hnb.2
  have loop_1 : ∀ (n_3 : Nat) (wy : Int) (i : Int), (0 ≤ i) → (i ≤ p2 t_number) → (wy = sZ (fun w => if pcn w 10 = t_firsts then 1 else 0) i) → (p2 t_number - i < (n_3 : Int)) → ∀ (H : Heap) (locs : List Loc), va_P D clAll [(t_a, .inr (1, [.ref t_grams_a, .int (iZ t_number), .int (iZ t_firsts), .int (iZ t_actual), .long (lZ t_total)]))] H → va_D A [(t_a, .inr (1, [.ref t_grams_a, .int (iZ t_number), .int (iZ t_firsts), .int (iZ t_actual), .long (lZ t_total)]))] → va_S A s.heap H locs → ∀ ls : Array Slot, lv_has ls 4 [(0, .ref t_a), (1, .long (lZ wy)), (3, .int (iZ i))] → W p l e { frames := 1, cells := 0, slots := 0, locals := 20 } s m args below meth c H locs 0 0 Q (F0 m 4 ls []) := by
    intro n_3
    induction n_3 with
    | zero => intro wy i hi hi2 hwy hm_4; exact absurd hm_4 (by omega)
    | succ n_3 ih_2 =>
      intro wy i hi hi2 hwy hm_4 H locs hP hD hS ls hl
      refine lv_iload_n hx hb dCp_countWays_4 rfl (lv_at hl 2 rfl) ?_
      refine lv_iconst (v := iZ 1) hx hb dCp_countWays_5 (by decide) ?_
      refine lv_aload_n hx hb dCp_countWays_6 rfl (lv_at hl 0 rfl) ?_
      refine va_get (D := D) (ci := 1) (v := .int (iZ t_number)) (C := RCp) (T := TCp) (N := 5) hx hb hts layCp hown hK.1 hP 0 rfl rfl 1 (by decide) (hts _ (hm g195)) (fun _ h9 => h9) rfl dCp_countWays_7 ?_
      refine lv_ishl hx hb dCp_countWays_10 ?_
      refine cq_ti (sh_p2 hnb.1 (by omega)) ?_
      refine z_icmp_ge (tgt := 35) hx hb (by omega) (by omega) (by omega) (by omega) dCp_countWays_11 (by decide) (fun c_5 => ?_) (fun c_5 => ?_)
      ·
        refine lv_lload_n hx hb dCp_countWays_35 rfl (lv_at hl 1 rfl) ?_
        exact cq_lret hx hb hr hlocks hAe hQ wy ⟨rfl, (by (try dsimp only) <;> (exact sz_end hwy (by omega)))⟩ (hP.sub [0] rfl) (hD.sub [0] (by decide) rfl) hS (by decide) (by decide) dCp_countWays_36
      ·
        refine lv_iload_n hx hb dCp_countWays_14 rfl (lv_at hl 2 rfl) ?_
        refine cq_calli (wr := [(t_a, .inr (1, [.ref t_grams_a, .int (iZ t_number), .int (iZ t_firsts), .int (iZ t_actual), .long (lZ t_total)]))]) (va_runS (As := [.int (iZ i)]) (rest := []) ⟨hx, hb, hml, hown, hts⟩ (k_Integer_bitCount l D cI cJ cZ H.size i (by omega) (by omega) (by first | assumption | omega)) ⟨(callB_of 1 hts (gAll cmJI_bitCount) rfl rfl rfl (hts _ (hm g70)) (hts _ (hm g382)) (by decide +kernel) ⟨Nat.le_of_ble_eq_true rfl, Nat.le_of_ble_eq_true rfl⟩), (hts _ (hm g383))⟩ (cq_preS hK hP hD [] (by decide) rfl) rfl rfl hl.1 rfl (lv_room (Nat.le_of_ble_eq_true rfl)) dCp_countWays_15 ⟨by decide, by decide⟩) hP hD hS hA [] [0] rfl rfl (by decide) (by decide) (fun r u H locs hw_6 hP hD hS => ?_)
        obtain ⟨o_7, rfl⟩ : ∃ z, z = u := ⟨_, rfl⟩
        try dsimp only at hw_6
        obtain ⟨rfl, rfl⟩ := hw_6
        have hP : va_P D clAll [(t_a, .inr (1, [.ref t_grams_a, .int (iZ t_number), .int (iZ t_firsts), .int (iZ t_actual), .long (lZ t_total)]))] H := hP
        have hD : va_D A [(t_a, .inr (1, [.ref t_grams_a, .int (iZ t_number), .int (iZ t_firsts), .int (iZ t_actual), .long (lZ t_total)]))] := hD
        refine lv_aload_n hx hb dCp_countWays_18 rfl (lv_at hl 0 rfl) ?_
        refine va_get (D := D) (ci := 1) (v := .int (iZ t_firsts)) (C := RCp) (T := TCp) (N := 5) hx hb hts layCp hown hK.1 hP 0 rfl rfl 2 (by decide) (hts _ (hm g196)) (fun _ h9 => h9) rfl dCp_countWays_19 ?_
        have hpb := pcn_b (z := i) (n := 10) (by omega)
        refine z_icmp_ne (tgt := 29) hx hb (by omega) (by omega) (by omega) (by omega) dCp_countWays_22 (by decide) (fun c_8 => ?_) (fun c_8 => ?_)
        ·
          refine lv_iinc (v := iZ (i + 1)) (lv' := [(3, .int (iZ (i + 1))), (0, .ref t_a), (1, .long (lZ wy))]) hx hb dCp_countWays_29 hl (k := 2) rfl (iZ_add i 1) (by decide) rfl (fun ls hl => ?_)
          refine lv_goto (tgt := 4) hx hb dCp_countWays_32 (by decide) ?_
          exact ih_2  wy (i + 1) (by omega) (by omega) (by first | exact wy_1 (q := fun w => pcn w 10 = t_firsts) hwy hi (by assumption) | exact wy_0 (q := fun w => pcn w 10 = t_firsts) hwy hi (by assumption)) (by omega) _ _ (hP.sub [0] rfl) (hD.sub [0] (by decide) rfl) hS ls (lv_sub hl [1, 2, 0] rfl)
        ·
          refine lv_lload_n hx hb dCp_countWays_25 rfl (lv_at hl 1 rfl) ?_
          refine lv_lconst (v := lZ 1) hx hb dCp_countWays_26 (by decide) ?_
          refine z_ladd hx hb dCp_countWays_27 ?_
          refine lv_lstore_n (lv' := [(1, .long (lZ (wy + 1))), (0, .ref t_a), (3, .int (iZ i))]) hx hb dCp_countWays_28 rfl hl (by decide) rfl (fun ls hl => ?_)
          refine lv_iinc (v := iZ (i + 1)) (lv' := [(3, .int (iZ (i + 1))), (1, .long (lZ (wy + 1))), (0, .ref t_a)]) hx hb dCp_countWays_29 hl (k := 2) rfl (iZ_add i 1) (by decide) rfl (fun ls hl => ?_)
          refine lv_goto (tgt := 4) hx hb dCp_countWays_32 (by decide) ?_
          exact ih_2  (wy + 1) (i + 1) (by omega) (by omega) (by first | exact wy_1 (q := fun w => pcn w 10 = t_firsts) hwy hi (by assumption) | exact wy_0 (q := fun w => pcn w 10 = t_firsts) hwy hi (by assumption)) (by omega) _ _ (hP.sub [0] rfl) (hD.sub [0] (by decide) rfl) hS ls (lv_sub hl [2, 1, 0] rfl)
  exact loop_1 ((p2 t_number - 0 : Int).toNat + 1) 0 0 (by omega) (by exact Int.le_trans (by decide) (p2_pos _)) (by rfl) (by omega) _ _ (hP.sub [0] rfl) (hD.sub [0] (by decide) rfl) hS ls (lv_sub hl [2, 1, 0] rfl)
set_option maxHeartbeats 4000000 in
set_option maxRecDepth 100000 in
theorem k_Comparison_countFarWays (l : Launch) (D : va_G) (cI cJ cZ : ClassId) (t_a t_grams_a : Nat) (sz : Nat) (t_number : Int) (t_firsts : Int) (t_actual : Int) (t_total : Int) (t_grams_f : Int → Int) (hnb : 0 ≤ t_number ∧ t_number ≤ 10) (hf : 0 ≤ t_firsts ∧ t_firsts ≤ 10) (hac : 0 ≤ t_actual ∧ t_actual < p2 t_number) (ht : 0 ≤ t_total ∧ t_total ≤ 200000) (hgr : ∀ j, 0 ≤ t_grams_f j ∧ t_grams_f j ≤ 10000) : cq_l l yCp_countFarWays wsCp_countFarWays ({ frames := 2, cells := 0, slots := 0, locals := 84 }) D clAll [(cI, .int), (cJ, .long), (cZ, .boolean)] nwAll [.ref t_a] [(t_a, .inr (1, [.ref t_grams_a, .int (iZ t_number), .int (iZ t_firsts), .int (iZ t_actual), .long (lZ t_total)])), (t_grams_a, .inl (cJ, 10, .inr (.inl (aL t_grams_f))))] sz (S := Int) (fun (r : Int64) (u : Int) => r = lZ u ∧ (u = sZ (fun w => if pcn w 10 = t_firsts ∧ apv t_grams_f t_actual t_number t_firsts t_total ≤ apv t_grams_f w t_number t_firsts t_total then 1 else 0) (p2 t_number))) (fun (u : Int) => [(t_a, .inr (1, [.ref t_grams_a, .int (iZ t_number), .int (iZ t_firsts), .int (iZ t_actual), .long (lZ t_total)])), (t_grams_a, .inl (cJ, 10, .inr (.inl (aL t_grams_f))))]) 0 0 := by
  refine cq_enter (cc := cCp_countFarWays) (maxL := 6) (ret := some .long) (by decide) rfl (Nat.le_of_ble_eq_true rfl) ?_
  intro p e s m below meth c A args Q H hAe hQ hsz hAt hA hP hK hD hS ls hl
  obtain ⟨hx, hb, hr, hml, hown, hts, hlocks, hin⟩ := hAt
  have hown : s.vm.findClass RCp = some m.cls := hown
  have hl : lv_has ls 6 [(0, .ref t_a)] := hl
  have hp2 := p2_10 hnb.1 hnb.2
  have hab := apv_b (w := t_actual) hnb hf ht hgr
  refine lv_aload_n hx hb dCp_countFarWays_0 rfl (lv_at hl 0 rfl) ?_
  refine lv_aload_n hx hb dCp_countFarWays_1 rfl (lv_at hl 0 rfl) ?_
  refine va_get (D := D) (ci := 1) (v := .int (iZ t_actual)) (C := RCp) (T := TCp) (N := 5) hx hb hts layCp hown hK.1 hP 0 rfl rfl 3 (by decide) (hts _ (hm g197)) (fun _ h9 => h9) rfl dCp_countFarWays_2 ?_
  refine cq_calll (wr := []) (va_runV (C := RCp) (As := [.int (iZ t_actual)]) (rest := []) ⟨hx, hb, hml, hown, hts⟩ (k_Comparison_apart l D cI cJ cZ t_a t_grams_a H.size t_number t_firsts t_actual t_total t_grams_f t_actual (by omega) (by omega) (by first | assumption | omega) (by first | assumption | omega) (by first | assumption | omega) (by first | assumption | omega) (by first | assumption | omega)) ⟨(callB_of 1 hts (gAll cmCp_apart) rfl rfl rfl (hts _ (hm g66)) (hts _ (hm g390)) (by decide +kernel) ⟨Nat.le_of_ble_eq_true rfl, Nat.le_of_ble_eq_true rfl⟩), (hts _ (hm g391)), (hts _ (hm g35))⟩ (cq_preV (va_recv hK.1 hP (ci := 1) (q0 := 0) rfl rfl) (cq_preS hK hP hD [0, 1] (by decide) rfl)) rfl rfl hl.1 rfl (lv_room (Nat.le_of_ble_eq_true rfl)) dCp_countFarWays_5 ⟨by decide, by decide⟩) hP hD hS hA [0, 1] [] rfl rfl (by decide) (by decide) (fun r u H locs hw_1 hP hD hS => ?_)
  obtain ⟨o_2, rfl⟩ : ∃ z, z = u := ⟨_, rfl⟩
  try dsimp only at hw_1
  obtain ⟨rfl, rfl⟩ := hw_1
  have hP : va_P D clAll [(t_a, .inr (1, [.ref t_grams_a, .int (iZ t_number), .int (iZ t_firsts), .int (iZ t_actual), .long (lZ t_total)])), (t_grams_a, .inl (cJ, 10, .inr (.inl (aL t_grams_f))))] H := hP
  have hD : va_D A [(t_a, .inr (1, [.ref t_grams_a, .int (iZ t_number), .int (iZ t_firsts), .int (iZ t_actual), .long (lZ t_total)])), (t_grams_a, .inl (cJ, 10, .inr (.inl (aL t_grams_f))))] := hD
  refine lv_lstore_n (lv' := [(1, .long (lZ (apv t_grams_f t_actual t_number t_firsts t_total))), (0, .ref t_a)]) hx hb dCp_countFarWays_8 rfl hl (by decide) rfl (fun ls hl => ?_)
  refine lv_lconst (v := lZ 0) hx hb dCp_countFarWays_9 (by decide) ?_
  refine lv_lstore_n (lv' := [(3, .long (lZ 0)), (1, .long (lZ (apv t_grams_f t_actual t_number t_firsts t_total))), (0, .ref t_a)]) hx hb dCp_countFarWays_10 rfl hl (by decide) rfl (fun ls hl => ?_)
  refine lv_iconst (v := iZ 0) hx hb dCp_countFarWays_11 (by decide) ?_
  refine lv_istore (lv' := [(5, .int (iZ 0)), (3, .long (lZ 0)), (1, .long (lZ (apv t_grams_f t_actual t_number t_firsts t_total))), (0, .ref t_a)]) hx hb dCp_countFarWays_12 hl (by decide) rfl (fun ls hl => ?_)
  have loop_3 : ∀ (n_5 : Nat) (wy : Int) (i : Int), (0 ≤ i) → (i ≤ p2 t_number) → (wy = sZ (fun w => if pcn w 10 = t_firsts ∧ apv t_grams_f t_actual t_number t_firsts t_total ≤ apv t_grams_f w t_number t_firsts t_total then 1 else 0) i) → (p2 t_number - i < (n_5 : Int)) → ∀ (H : Heap) (locs : List Loc), va_P D clAll [(t_a, .inr (1, [.ref t_grams_a, .int (iZ t_number), .int (iZ t_firsts), .int (iZ t_actual), .long (lZ t_total)])), (t_grams_a, .inl (cJ, 10, .inr (.inl (aL t_grams_f))))] H → va_D A [(t_a, .inr (1, [.ref t_grams_a, .int (iZ t_number), .int (iZ t_firsts), .int (iZ t_actual), .long (lZ t_total)])), (t_grams_a, .inl (cJ, 10, .inr (.inl (aL t_grams_f))))] → va_S A s.heap H locs → ∀ ls : Array Slot, lv_has ls 6 [(0, .ref t_a), (1, .long (lZ (apv t_grams_f t_actual t_number t_firsts t_total))), (3, .long (lZ wy)), (5, .int (iZ i))] → W p l e { frames := 2, cells := 0, slots := 0, locals := 84 } s m args below meth c H locs 0 0 Q (F0 m 14 ls []) := by
    intro n_5
    induction n_5 with
    | zero => intro wy i hi hi2 hwy hm_6; exact absurd hm_6 (by omega)
    | succ n_5 ih_4 =>
      intro wy i hi hi2 hwy hm_6 H locs hP hD hS ls hl
      refine lv_iload hx hb dCp_countFarWays_14 (lv_at hl 3 rfl) ?_
      refine lv_iconst (v := iZ 1) hx hb dCp_countFarWays_16 (by decide) ?_
      refine lv_aload_n hx hb dCp_countFarWays_17 rfl (lv_at hl 0 rfl) ?_
      refine va_get (D := D) (ci := 1) (v := .int (iZ t_number)) (C := RCp) (T := TCp) (N := 5) hx hb hts layCp hown hK.1 hP 0 rfl rfl 1 (by decide) (hts _ (hm g195)) (fun _ h9 => h9) rfl dCp_countFarWays_18 ?_
      refine lv_ishl hx hb dCp_countFarWays_21 ?_
      refine cq_ti (sh_p2 hnb.1 (by omega)) ?_
      refine z_icmp_ge (tgt := 58) hx hb (by omega) (by omega) (by omega) (by omega) dCp_countFarWays_22 (by decide) (fun c_7 => ?_) (fun c_7 => ?_)
      ·
        refine lv_lload_n hx hb dCp_countFarWays_58 rfl (lv_at hl 2 rfl) ?_
        exact cq_lret hx hb hr hlocks hAe hQ wy ⟨rfl, (by (try dsimp only) <;> (exact sz_end hwy (by omega)))⟩ (hP.sub [0, 1] rfl) (hD.sub [0, 1] (by decide) rfl) hS (by decide) (by decide) dCp_countFarWays_59
      ·
        refine lv_iload hx hb dCp_countFarWays_25 (lv_at hl 3 rfl) ?_
        refine cq_calli (wr := [(t_a, .inr (1, [.ref t_grams_a, .int (iZ t_number), .int (iZ t_firsts), .int (iZ t_actual), .long (lZ t_total)])), (t_grams_a, .inl (cJ, 10, .inr (.inl (aL t_grams_f))))]) (va_runS (As := [.int (iZ i)]) (rest := []) ⟨hx, hb, hml, hown, hts⟩ (k_Integer_bitCount l D cI cJ cZ H.size i (by omega) (by omega) (by first | assumption | omega)) ⟨(callB_of 1 hts (gAll cmJI_bitCount) rfl rfl rfl (hts _ (hm g70)) (hts _ (hm g382)) (by decide +kernel) ⟨Nat.le_of_ble_eq_true rfl, Nat.le_of_ble_eq_true rfl⟩), (hts _ (hm g383))⟩ (cq_preS hK hP hD [] (by decide) rfl) rfl rfl hl.1 rfl (lv_room (Nat.le_of_ble_eq_true rfl)) dCp_countFarWays_27 ⟨by decide, by decide⟩) hP hD hS hA [] [0, 1] rfl rfl (by decide) (by decide) (fun r u H locs hw_8 hP hD hS => ?_)
        obtain ⟨o_9, rfl⟩ : ∃ z, z = u := ⟨_, rfl⟩
        try dsimp only at hw_8
        obtain ⟨rfl, rfl⟩ := hw_8
        have hP : va_P D clAll [(t_a, .inr (1, [.ref t_grams_a, .int (iZ t_number), .int (iZ t_firsts), .int (iZ t_actual), .long (lZ t_total)])), (t_grams_a, .inl (cJ, 10, .inr (.inl (aL t_grams_f))))] H := hP
        have hD : va_D A [(t_a, .inr (1, [.ref t_grams_a, .int (iZ t_number), .int (iZ t_firsts), .int (iZ t_actual), .long (lZ t_total)])), (t_grams_a, .inl (cJ, 10, .inr (.inl (aL t_grams_f))))] := hD
        refine lv_aload_n hx hb dCp_countFarWays_30 rfl (lv_at hl 0 rfl) ?_
        refine va_get (D := D) (ci := 1) (v := .int (iZ t_firsts)) (C := RCp) (T := TCp) (N := 5) hx hb hts layCp hown hK.1 hP 0 rfl rfl 2 (by decide) (hts _ (hm g196)) (fun _ h9 => h9) rfl dCp_countFarWays_31 ?_
        have hpb := pcn_b (z := i) (n := 10) (by omega)
        refine z_icmp_ne (tgt := 52) hx hb (by omega) (by omega) (by omega) (by omega) dCp_countFarWays_34 (by decide) (fun c_10 => ?_) (fun c_10 => ?_)
        ·
          refine lv_iinc (v := iZ (i + 1)) (lv' := [(5, .int (iZ (i + 1))), (0, .ref t_a), (1, .long (lZ (apv t_grams_f t_actual t_number t_firsts t_total))), (3, .long (lZ wy))]) hx hb dCp_countFarWays_52 hl (k := 3) rfl (iZ_add i 1) (by decide) rfl (fun ls hl => ?_)
          refine lv_goto (tgt := 14) hx hb dCp_countFarWays_55 (by decide) ?_
          exact ih_4  wy (i + 1) (by omega) (by omega) (by first | exact wy_1 (q := fun w => pcn w 10 = t_firsts ∧ apv t_grams_f t_actual t_number t_firsts t_total ≤ apv t_grams_f w t_number t_firsts t_total) hwy hi ⟨by assumption, by omega⟩ | exact wy_0 (q := fun w => pcn w 10 = t_firsts ∧ apv t_grams_f t_actual t_number t_firsts t_total ≤ apv t_grams_f w t_number t_firsts t_total) hwy hi (fun z => absurd z.1 (by assumption)) | exact wy_0 (q := fun w => pcn w 10 = t_firsts ∧ apv t_grams_f t_actual t_number t_firsts t_total ≤ apv t_grams_f w t_number t_firsts t_total) hwy hi (fun z => absurd z.2 (by omega))) (by omega) _ _ (hP.sub [0, 1] rfl) (hD.sub [0, 1] (by decide) rfl) hS ls (lv_sub hl [1, 2, 3, 0] rfl)
        ·
          refine lv_aload_n hx hb dCp_countFarWays_37 rfl (lv_at hl 0 rfl) ?_
          refine lv_iload hx hb dCp_countFarWays_38 (lv_at hl 3 rfl) ?_
          refine cq_calll (wr := []) (va_runV (C := RCp) (As := [.int (iZ i)]) (rest := []) ⟨hx, hb, hml, hown, hts⟩ (k_Comparison_apart l D cI cJ cZ t_a t_grams_a H.size t_number t_firsts t_actual t_total t_grams_f i (by omega) (by omega) (by first | assumption | omega) (by first | assumption | omega) (by first | assumption | omega) (by first | assumption | omega) (by first | assumption | omega)) ⟨(callB_of 1 hts (gAll cmCp_apart) rfl rfl rfl (hts _ (hm g66)) (hts _ (hm g390)) (by decide +kernel) ⟨Nat.le_of_ble_eq_true rfl, Nat.le_of_ble_eq_true rfl⟩), (hts _ (hm g391)), (hts _ (hm g35))⟩ (cq_preV (va_recv hK.1 hP (ci := 1) (q0 := 0) rfl rfl) (cq_preS hK hP hD [0, 1] (by decide) rfl)) rfl rfl hl.1 rfl (lv_room (Nat.le_of_ble_eq_true rfl)) dCp_countFarWays_40 ⟨by decide, by decide⟩) hP hD hS hA [0, 1] [] rfl rfl (by decide) (by decide) (fun r u H locs hw_11 hP hD hS => ?_)
          obtain ⟨o_12, rfl⟩ : ∃ z, z = u := ⟨_, rfl⟩
          try dsimp only at hw_11
          obtain ⟨rfl, rfl⟩ := hw_11
          have hP : va_P D clAll [(t_a, .inr (1, [.ref t_grams_a, .int (iZ t_number), .int (iZ t_firsts), .int (iZ t_actual), .long (lZ t_total)])), (t_grams_a, .inl (cJ, 10, .inr (.inl (aL t_grams_f))))] H := hP
          have hD : va_D A [(t_a, .inr (1, [.ref t_grams_a, .int (iZ t_number), .int (iZ t_firsts), .int (iZ t_actual), .long (lZ t_total)])), (t_grams_a, .inl (cJ, 10, .inr (.inl (aL t_grams_f))))] := hD
          have hai := apv_b (w := i) hnb hf ht hgr
          refine lv_lload_n hx hb dCp_countFarWays_43 rfl (lv_at hl 1 rfl) ?_
          refine z_lcmp_lt (tgt := 52) hx hb (by omega) (by omega) (by omega) (by omega) dCp_countFarWays_44 dCp_countFarWays_45 (by decide) (fun c_13 => ?_) (fun c_13 => ?_)
          ·
            refine lv_iinc (v := iZ (i + 1)) (lv' := [(5, .int (iZ (i + 1))), (0, .ref t_a), (1, .long (lZ (apv t_grams_f t_actual t_number t_firsts t_total))), (3, .long (lZ wy))]) hx hb dCp_countFarWays_52 hl (k := 3) rfl (iZ_add i 1) (by decide) rfl (fun ls hl => ?_)
            refine lv_goto (tgt := 14) hx hb dCp_countFarWays_55 (by decide) ?_
            exact ih_4  wy (i + 1) (by omega) (by omega) (by first | exact wy_1 (q := fun w => pcn w 10 = t_firsts ∧ apv t_grams_f t_actual t_number t_firsts t_total ≤ apv t_grams_f w t_number t_firsts t_total) hwy hi ⟨by assumption, by omega⟩ | exact wy_0 (q := fun w => pcn w 10 = t_firsts ∧ apv t_grams_f t_actual t_number t_firsts t_total ≤ apv t_grams_f w t_number t_firsts t_total) hwy hi (fun z => absurd z.1 (by assumption)) | exact wy_0 (q := fun w => pcn w 10 = t_firsts ∧ apv t_grams_f t_actual t_number t_firsts t_total ≤ apv t_grams_f w t_number t_firsts t_total) hwy hi (fun z => absurd z.2 (by omega))) (by omega) _ _ (hP.sub [0, 1] rfl) (hD.sub [0, 1] (by decide) rfl) hS ls (lv_sub hl [1, 2, 3, 0] rfl)
          ·
            refine lv_lload_n hx hb dCp_countFarWays_48 rfl (lv_at hl 2 rfl) ?_
            refine lv_lconst (v := lZ 1) hx hb dCp_countFarWays_49 (by decide) ?_
            refine z_ladd hx hb dCp_countFarWays_50 ?_
            refine lv_lstore_n (lv' := [(3, .long (lZ (wy + 1))), (0, .ref t_a), (1, .long (lZ (apv t_grams_f t_actual t_number t_firsts t_total))), (5, .int (iZ i))]) hx hb dCp_countFarWays_51 rfl hl (by decide) rfl (fun ls hl => ?_)
            refine lv_iinc (v := iZ (i + 1)) (lv' := [(5, .int (iZ (i + 1))), (3, .long (lZ (wy + 1))), (0, .ref t_a), (1, .long (lZ (apv t_grams_f t_actual t_number t_firsts t_total)))]) hx hb dCp_countFarWays_52 hl (k := 3) rfl (iZ_add i 1) (by decide) rfl (fun ls hl => ?_)
            refine lv_goto (tgt := 14) hx hb dCp_countFarWays_55 (by decide) ?_
            exact ih_4  (wy + 1) (i + 1) (by omega) (by omega) (by first | exact wy_1 (q := fun w => pcn w 10 = t_firsts ∧ apv t_grams_f t_actual t_number t_firsts t_total ≤ apv t_grams_f w t_number t_firsts t_total) hwy hi ⟨by assumption, by omega⟩ | exact wy_0 (q := fun w => pcn w 10 = t_firsts ∧ apv t_grams_f t_actual t_number t_firsts t_total ≤ apv t_grams_f w t_number t_firsts t_total) hwy hi (fun z => absurd z.1 (by assumption)) | exact wy_0 (q := fun w => pcn w 10 = t_firsts ∧ apv t_grams_f t_actual t_number t_firsts t_total ≤ apv t_grams_f w t_number t_firsts t_total) hwy hi (fun z => absurd z.2 (by omega))) (by omega) _ _ (hP.sub [0, 1] rfl) (hD.sub [0, 1] (by decide) rfl) hS ls (lv_sub hl [2, 3, 1, 0] rfl)
  exact loop_3 ((p2 t_number - 0 : Int).toNat + 1) 0 0 (by omega) (by exact Int.le_trans (by decide) (p2_pos _)) (by rfl) (by omega) _ _ (hP.sub [0, 1] rfl) (hD.sub [0, 1] (by decide) rfl) hS ls (lv_sub hl [3, 2, 1, 0] rfl)
set_option maxHeartbeats 4000000 in
set_option maxRecDepth 100000 in
theorem k_Comparison_gather (l : Launch) (D : va_G) (cI cJ cZ : ClassId) (t_a bags_a t_grams_a bags_homes_a bags_dates_a bags_lost_a bags_grams_a : Nat) (sz : Nat) (t_number : Int) (t_firsts : Int) (t_actual : Int) (t_total : Int) (t_grams_f : Int → Int) (bags_made : Int) (bags_lost_f : Int → Int) (bags_dates_f : Int → Int) (bags_grams_f : Int → Int) (kind : Int) (h_kind1 : -2147483648 ≤ kind) (h_kind2 : kind < 2147483648) (hbm : 0 ≤ bags_made ∧ bags_made ≤ 12) (hlo : ∀ j, 0 ≤ bags_lost_f j ∧ bags_lost_f j ≤ 1) (hda : ∀ j, 0 ≤ bags_dates_f j ∧ bags_dates_f j ≤ 1) (hgb : ∀ j, 0 ≤ bags_grams_f j ∧ bags_grams_f j ≤ 10000) (hgr : ∀ j, 0 ≤ t_grams_f j ∧ t_grams_f j ≤ 10000) (hk : 0 ≤ kind ∧ kind < 3) : cq_i l yCp_gather wsCp_gather ({ frames := 2, cells := 0, slots := 0, locals := 43 }) D clAll [(cI, .int), (cJ, .long), (cZ, .boolean)] nwAll [.ref t_a, .ref bags_a, .int (iZ kind)] [(t_a, .inr (1, [.ref t_grams_a, .int (iZ t_number), .int (iZ t_firsts), .int (iZ t_actual), .long (lZ t_total)])), (t_grams_a, .inl (cJ, 10, .inr (.inl (aL t_grams_f)))), (bags_a, .inr (0, [.ref bags_homes_a, .ref bags_dates_a, .ref bags_lost_a, .ref bags_grams_a, .int (iZ bags_made)])), (bags_lost_a, .inl (cZ, 12, .inl (aI bags_lost_f))), (bags_dates_a, .inl (cI, 12, .inl (aI bags_dates_f))), (bags_grams_a, .inl (cJ, 36, .inr (.inl (aL bags_grams_f))))] sz (S := Int × Int × Int × Int × Int × (Int → Int)) (fun (r : Int32) (u : Int × Int × Int × Int × Int × (Int → Int)) => r = iZ u.1 ∧ ((u.1 = 0 ∧ 10 < cN bags_lost_f bags_made) ∨ (cN bags_lost_f bags_made ≤ 10 ∧ u.2.1 = cN bags_lost_f bags_made ∧ u.2.2.2.1 = cA bags_lost_f bags_dates_f bags_made ∧ u.2.2.2.2.1 = cT bags_lost_f bags_grams_f kind bags_made ∧ u.2.2.1 = pcn (cA bags_lost_f bags_dates_f bags_made) 10 ∧ (∀ b, 0 ≤ b → b < bags_made → bags_lost_f b = 0 → u.2.2.2.2.2 (cN bags_lost_f b) = bags_grams_f (b * 3 + kind)) ∧ ((u.1 = 1 ∧ 0 < u.2.2.1 ∧ u.2.2.1 < cN bags_lost_f bags_made) ∨ (u.1 = 0 ∧ ¬ (0 < u.2.2.1 ∧ u.2.2.1 < cN bags_lost_f bags_made))))) ∧ (∀ j, 0 ≤ u.2.2.2.2.2 j ∧ u.2.2.2.2.2 j ≤ 10000)) (fun (u : Int × Int × Int × Int × Int × (Int → Int)) => [(t_a, .inr (1, [.ref t_grams_a, .int (iZ u.2.1), .int (iZ u.2.2.1), .int (iZ u.2.2.2.1), .long (lZ u.2.2.2.2.1)])), (t_grams_a, .inl (cJ, 10, .inr (.inl (aL u.2.2.2.2.2)))), (bags_a, .inr (0, [.ref bags_homes_a, .ref bags_dates_a, .ref bags_lost_a, .ref bags_grams_a, .int (iZ bags_made)])), (bags_lost_a, .inl (cZ, 12, .inl (aI bags_lost_f))), (bags_dates_a, .inl (cI, 12, .inl (aI bags_dates_f))), (bags_grams_a, .inl (cJ, 36, .inr (.inl (aL bags_grams_f))))]) 0 0 := by
  refine cq_enter (cc := cCp_gather) (maxL := 4) (ret := some .boolean) (by decide) rfl (Nat.le_of_ble_eq_true rfl) ?_
  intro p e s m below meth c A args Q H hAe hQ hsz hAt hA hP hK hD hS ls hl
  obtain ⟨hx, hb, hr, hml, hown, hts, hlocks, hin⟩ := hAt
  have hown : s.vm.findClass RCp = some m.cls := hown
  have hl : lv_has ls 4 [(0, .ref t_a), (1, .ref bags_a), (2, .int (iZ kind))] := hl
  refine lv_aload_n hx hb dCp_gather_0 rfl (lv_at hl 0 rfl) ?_
  refine lv_iconst (v := iZ 0) hx hb dCp_gather_1 (by decide) ?_
  refine va_put (D := D) (ci := 1) (v := .int (iZ 0)) (ty := .int) (C := RCp) (T := TCp) (N := 5) hx hb hts layCp tyCp tyCp_ok nmCp hown hK.1 hP hD hS 0 rfl rfl 1 (by decide) (hts _ (hm g195)) (fun _ h9 => h9) rfl (by decide +kernel) rfl rfl (Nat.le_of_ble_eq_true rfl) dCp_gather_2 (fun H locs hP hD hS => ?_)
  have hP : va_P D clAll [(t_a, .inr (1, [.ref t_grams_a, .int (iZ 0), .int (iZ t_firsts), .int (iZ t_actual), .long (lZ t_total)])), (t_grams_a, .inl (cJ, 10, .inr (.inl (aL t_grams_f)))), (bags_a, .inr (0, [.ref bags_homes_a, .ref bags_dates_a, .ref bags_lost_a, .ref bags_grams_a, .int (iZ bags_made)])), (bags_lost_a, .inl (cZ, 12, .inl (aI bags_lost_f))), (bags_dates_a, .inl (cI, 12, .inl (aI bags_dates_f))), (bags_grams_a, .inl (cJ, 36, .inr (.inl (aL bags_grams_f))))] H := hP
  have hD : va_D A [(t_a, .inr (1, [.ref t_grams_a, .int (iZ 0), .int (iZ t_firsts), .int (iZ t_actual), .long (lZ t_total)])), (t_grams_a, .inl (cJ, 10, .inr (.inl (aL t_grams_f)))), (bags_a, .inr (0, [.ref bags_homes_a, .ref bags_dates_a, .ref bags_lost_a, .ref bags_grams_a, .int (iZ bags_made)])), (bags_lost_a, .inl (cZ, 12, .inl (aI bags_lost_f))), (bags_dates_a, .inl (cI, 12, .inl (aI bags_dates_f))), (bags_grams_a, .inl (cJ, 36, .inr (.inl (aL bags_grams_f))))] := hD
  refine lv_aload_n hx hb dCp_gather_5 rfl (lv_at hl 0 rfl) ?_
  refine lv_iconst (v := iZ 0) hx hb dCp_gather_6 (by decide) ?_
  refine va_put (D := D) (ci := 1) (v := .int (iZ 0)) (ty := .int) (C := RCp) (T := TCp) (N := 5) hx hb hts layCp tyCp tyCp_ok nmCp hown hK.1 hP hD hS 0 rfl rfl 3 (by decide) (hts _ (hm g197)) (fun _ h9 => h9) rfl (by decide +kernel) rfl rfl (Nat.le_of_ble_eq_true rfl) dCp_gather_7 (fun H locs hP hD hS => ?_)
  have hP : va_P D clAll [(t_a, .inr (1, [.ref t_grams_a, .int (iZ 0), .int (iZ t_firsts), .int (iZ 0), .long (lZ t_total)])), (t_grams_a, .inl (cJ, 10, .inr (.inl (aL t_grams_f)))), (bags_a, .inr (0, [.ref bags_homes_a, .ref bags_dates_a, .ref bags_lost_a, .ref bags_grams_a, .int (iZ bags_made)])), (bags_lost_a, .inl (cZ, 12, .inl (aI bags_lost_f))), (bags_dates_a, .inl (cI, 12, .inl (aI bags_dates_f))), (bags_grams_a, .inl (cJ, 36, .inr (.inl (aL bags_grams_f))))] H := hP
  have hD : va_D A [(t_a, .inr (1, [.ref t_grams_a, .int (iZ 0), .int (iZ t_firsts), .int (iZ 0), .long (lZ t_total)])), (t_grams_a, .inl (cJ, 10, .inr (.inl (aL t_grams_f)))), (bags_a, .inr (0, [.ref bags_homes_a, .ref bags_dates_a, .ref bags_lost_a, .ref bags_grams_a, .int (iZ bags_made)])), (bags_lost_a, .inl (cZ, 12, .inl (aI bags_lost_f))), (bags_dates_a, .inl (cI, 12, .inl (aI bags_dates_f))), (bags_grams_a, .inl (cJ, 36, .inr (.inl (aL bags_grams_f))))] := hD
  refine lv_aload_n hx hb dCp_gather_10 rfl (lv_at hl 0 rfl) ?_
  refine lv_lconst (v := lZ 0) hx hb dCp_gather_11 (by decide) ?_
  refine va_put (D := D) (ci := 1) (v := .long (lZ 0)) (ty := .long) (C := RCp) (T := TCp) (N := 5) hx hb hts layCp tyCp tyCp_ok nmCp hown hK.1 hP hD hS 0 rfl rfl 4 (by decide) (hts _ (hm g198)) (fun _ h9 => h9) rfl (by decide +kernel) rfl rfl (Nat.le_of_ble_eq_true rfl) dCp_gather_12 (fun H locs hP hD hS => ?_)
  have hP : va_P D clAll [(t_a, .inr (1, [.ref t_grams_a, .int (iZ 0), .int (iZ t_firsts), .int (iZ 0), .long (lZ 0)])), (t_grams_a, .inl (cJ, 10, .inr (.inl (aL t_grams_f)))), (bags_a, .inr (0, [.ref bags_homes_a, .ref bags_dates_a, .ref bags_lost_a, .ref bags_grams_a, .int (iZ bags_made)])), (bags_lost_a, .inl (cZ, 12, .inl (aI bags_lost_f))), (bags_dates_a, .inl (cI, 12, .inl (aI bags_dates_f))), (bags_grams_a, .inl (cJ, 36, .inr (.inl (aL bags_grams_f))))] H := hP
  have hD : va_D A [(t_a, .inr (1, [.ref t_grams_a, .int (iZ 0), .int (iZ t_firsts), .int (iZ 0), .long (lZ 0)])), (t_grams_a, .inl (cJ, 10, .inr (.inl (aL t_grams_f)))), (bags_a, .inr (0, [.ref bags_homes_a, .ref bags_dates_a, .ref bags_lost_a, .ref bags_grams_a, .int (iZ bags_made)])), (bags_lost_a, .inl (cZ, 12, .inl (aI bags_lost_f))), (bags_dates_a, .inl (cI, 12, .inl (aI bags_dates_f))), (bags_grams_a, .inl (cJ, 36, .inr (.inl (aL bags_grams_f))))] := hD
  refine lv_iconst (v := iZ 0) hx hb dCp_gather_15 (by decide) ?_
  refine lv_istore_n (lv' := [(3, .int (iZ 0)), (0, .ref t_a), (1, .ref bags_a), (2, .int (iZ kind))]) hx hb dCp_gather_16 rfl hl (by decide) rfl (fun ls hl => ?_)
  have loop_1 : ∀ (n_3 : Nat) (i : Int) (number : Int) (actual : Int) (total : Int) (gm : Int → Int), (0 ≤ i) → (i ≤ bags_made) → (number = cN bags_lost_f i) → (number ≤ 10) → (actual = cA bags_lost_f bags_dates_f i) → (total = cT bags_lost_f bags_grams_f kind i) → (∀ b, 0 ≤ b → b < i → bags_lost_f b = 0 → gm (cN bags_lost_f b) = bags_grams_f (b * 3 + kind)) → (∀ j, 0 ≤ gm j ∧ gm j ≤ 10000) → (bags_made - i < (n_3 : Int)) → ∀ (H : Heap) (locs : List Loc), va_P D clAll [(t_a, .inr (1, [.ref t_grams_a, .int (iZ number), .int (iZ t_firsts), .int (iZ actual), .long (lZ total)])), (t_grams_a, .inl (cJ, 10, .inr (.inl (aL gm)))), (bags_a, .inr (0, [.ref bags_homes_a, .ref bags_dates_a, .ref bags_lost_a, .ref bags_grams_a, .int (iZ bags_made)])), (bags_lost_a, .inl (cZ, 12, .inl (aI bags_lost_f))), (bags_dates_a, .inl (cI, 12, .inl (aI bags_dates_f))), (bags_grams_a, .inl (cJ, 36, .inr (.inl (aL bags_grams_f))))] H → va_D A [(t_a, .inr (1, [.ref t_grams_a, .int (iZ number), .int (iZ t_firsts), .int (iZ actual), .long (lZ total)])), (t_grams_a, .inl (cJ, 10, .inr (.inl (aL gm)))), (bags_a, .inr (0, [.ref bags_homes_a, .ref bags_dates_a, .ref bags_lost_a, .ref bags_grams_a, .int (iZ bags_made)])), (bags_lost_a, .inl (cZ, 12, .inl (aI bags_lost_f))), (bags_dates_a, .inl (cI, 12, .inl (aI bags_dates_f))), (bags_grams_a, .inl (cJ, 36, .inr (.inl (aL bags_grams_f))))] → va_S A s.heap H locs → ∀ ls : Array Slot, lv_has ls 4 [(0, .ref t_a), (1, .ref bags_a), (2, .int (iZ kind)), (3, .int (iZ i))] → W p l e { frames := 2, cells := 0, slots := 0, locals := 43 } s m args below meth c H locs 0 0 Q (F0 m 17 ls []) := by
    intro n_3
    induction n_3 with
    | zero => intro i number actual total gm hi hi2 hnu hn10 hac hto hgm hgg hm_4; exact absurd hm_4 (by omega)
    | succ n_3 ih_2 =>
      intro i number actual total gm hi hi2 hnu hn10 hac hto hgm hgg hm_4 H locs hP hD hS ls hl
      refine lv_iload_n hx hb dCp_gather_17 rfl (lv_at hl 3 rfl) ?_
      refine lv_aload_n hx hb dCp_gather_18 rfl (lv_at hl 1 rfl) ?_
      have hcn := cN_b (lo := bags_lost_f) hi
      have hcb := cA_b (lo := bags_lost_f) (da := bags_dates_f) hi
      refine va_getN (D := D) (ci := 0) (v := .int (iZ bags_made)) (C := RBg) (T := TBg) (N := 5) (host := "StratumCounts") hx hb hts layBg hown hK.1 hP 2 rfl rfl 4 (by decide) (va_Nw.use rfl (hK.2.2 _ n9)) (fun _ h9 => h9) rfl dCp_gather_19 ?_
      refine z_icmp_ge (tgt := 67) hx hb (by omega) (by omega) (by omega) (by omega) dCp_gather_22 (by decide) (fun c_5 => ?_) (fun c_5 => ?_)
      ·
        refine lv_aload_n hx hb dCp_gather_67 rfl (lv_at hl 0 rfl) ?_
        refine lv_aload_n hx hb dCp_gather_68 rfl (lv_at hl 0 rfl) ?_
        have hpp := p2_10 (n := number) (by omega) (by omega)
        have hax : 0 ≤ actual ∧ actual < 1024 := by rw [← hnu, ← hac] at hcb; omega
        refine va_get (D := D) (ci := 1) (v := .int (iZ actual)) (C := RCp) (T := TCp) (N := 5) hx hb hts layCp hown hK.1 hP 0 rfl rfl 3 (by decide) (hts _ (hm g197)) (fun _ h9 => h9) rfl dCp_gather_69 ?_
        refine cq_calli (wr := [(t_a, .inr (1, [.ref t_grams_a, .int (iZ number), .int (iZ t_firsts), .int (iZ actual), .long (lZ total)])), (t_grams_a, .inl (cJ, 10, .inr (.inl (aL gm)))), (bags_a, .inr (0, [.ref bags_homes_a, .ref bags_dates_a, .ref bags_lost_a, .ref bags_grams_a, .int (iZ bags_made)])), (bags_lost_a, .inl (cZ, 12, .inl (aI bags_lost_f))), (bags_dates_a, .inl (cI, 12, .inl (aI bags_dates_f))), (bags_grams_a, .inl (cJ, 36, .inr (.inl (aL bags_grams_f))))]) (va_runS (As := [.int (iZ actual)]) (rest := [.ref t_a]) ⟨hx, hb, hml, hown, hts⟩ (k_Integer_bitCount l D cI cJ cZ H.size actual (by omega) (by omega) (hax)) ⟨(callB_of 1 hts (gAll cmJI_bitCount) rfl rfl rfl (hts _ (hm g70)) (hts _ (hm g382)) (by decide +kernel) ⟨Nat.le_of_ble_eq_true rfl, Nat.le_of_ble_eq_true rfl⟩), (hts _ (hm g383))⟩ (cq_preS hK hP hD [] (by decide) rfl) rfl rfl hl.1 rfl (lv_room (Nat.le_of_ble_eq_true rfl)) dCp_gather_72 ⟨by decide, by decide⟩) hP hD hS hA [] [0, 1, 2, 3, 4, 5] rfl rfl (by decide) (by decide) (fun r u H locs hw_6 hP hD hS => ?_)
        obtain ⟨o_7, rfl⟩ : ∃ z, z = u := ⟨_, rfl⟩
        try dsimp only at hw_6
        obtain ⟨rfl, rfl⟩ := hw_6
        have hP : va_P D clAll [(t_a, .inr (1, [.ref t_grams_a, .int (iZ number), .int (iZ t_firsts), .int (iZ actual), .long (lZ total)])), (t_grams_a, .inl (cJ, 10, .inr (.inl (aL gm)))), (bags_a, .inr (0, [.ref bags_homes_a, .ref bags_dates_a, .ref bags_lost_a, .ref bags_grams_a, .int (iZ bags_made)])), (bags_lost_a, .inl (cZ, 12, .inl (aI bags_lost_f))), (bags_dates_a, .inl (cI, 12, .inl (aI bags_dates_f))), (bags_grams_a, .inl (cJ, 36, .inr (.inl (aL bags_grams_f))))] H := hP
        have hD : va_D A [(t_a, .inr (1, [.ref t_grams_a, .int (iZ number), .int (iZ t_firsts), .int (iZ actual), .long (lZ total)])), (t_grams_a, .inl (cJ, 10, .inr (.inl (aL gm)))), (bags_a, .inr (0, [.ref bags_homes_a, .ref bags_dates_a, .ref bags_lost_a, .ref bags_grams_a, .int (iZ bags_made)])), (bags_lost_a, .inl (cZ, 12, .inl (aI bags_lost_f))), (bags_dates_a, .inl (cI, 12, .inl (aI bags_dates_f))), (bags_grams_a, .inl (cJ, 36, .inr (.inl (aL bags_grams_f))))] := hD
        refine va_put (D := D) (ci := 1) (v := .int (iZ (pcn actual 10))) (ty := .int) (C := RCp) (T := TCp) (N := 5) hx hb hts layCp tyCp tyCp_ok nmCp hown hK.1 hP hD hS 0 rfl rfl 2 (by decide) (hts _ (hm g196)) (fun _ h9 => h9) rfl (by decide +kernel) rfl rfl (Nat.le_of_ble_eq_true rfl) dCp_gather_75 (fun H locs hP hD hS => ?_)
        have hP : va_P D clAll [(t_a, .inr (1, [.ref t_grams_a, .int (iZ number), .int (iZ (pcn actual 10)), .int (iZ actual), .long (lZ total)])), (t_grams_a, .inl (cJ, 10, .inr (.inl (aL gm)))), (bags_a, .inr (0, [.ref bags_homes_a, .ref bags_dates_a, .ref bags_lost_a, .ref bags_grams_a, .int (iZ bags_made)])), (bags_lost_a, .inl (cZ, 12, .inl (aI bags_lost_f))), (bags_dates_a, .inl (cI, 12, .inl (aI bags_dates_f))), (bags_grams_a, .inl (cJ, 36, .inr (.inl (aL bags_grams_f))))] H := hP
        have hD : va_D A [(t_a, .inr (1, [.ref t_grams_a, .int (iZ number), .int (iZ (pcn actual 10)), .int (iZ actual), .long (lZ total)])), (t_grams_a, .inl (cJ, 10, .inr (.inl (aL gm)))), (bags_a, .inr (0, [.ref bags_homes_a, .ref bags_dates_a, .ref bags_lost_a, .ref bags_grams_a, .int (iZ bags_made)])), (bags_lost_a, .inl (cZ, 12, .inl (aI bags_lost_f))), (bags_dates_a, .inl (cI, 12, .inl (aI bags_dates_f))), (bags_grams_a, .inl (cJ, 36, .inr (.inl (aL bags_grams_f))))] := hD
        have hpb := pcn_b (z := actual) (n := 10) (by omega)
        refine lv_aload_n hx hb dCp_gather_78 rfl (lv_at hl 0 rfl) ?_
        refine va_get (D := D) (ci := 1) (v := .int (iZ (pcn actual 10))) (C := RCp) (T := TCp) (N := 5) hx hb hts layCp hown hK.1 hP 0 rfl rfl 2 (by decide) (hts _ (hm g196)) (fun _ h9 => h9) rfl dCp_gather_79 ?_
        refine z_if_le (tgt := 100) hx hb (by omega) (by omega) dCp_gather_82 (by decide) (fun c_8 => ?_) (fun c_8 => ?_)
        ·
          refine lv_iconst (v := iZ 0) hx hb dCp_gather_100 (by decide) ?_
          exact cq_zret hx hb hr hlocks hAe hQ (bo_narr (by omega) (by omega)) (0, number, pcn actual 10, actual, total, gm) ⟨rfl, (by (try dsimp only) <;> (first | exact Or.inl ⟨rfl, cN_ov hnu hi (by assumption) (by omega) (by assumption)⟩ | exact Or.inr ⟨cg_le hnu (by omega) (by omega), cg_eq hnu (by omega), cg_eqA hac (by omega), cg_eqT hto (by omega), cg_eqF hac (by omega), up_all3 hgm (by omega), cg_or1 (f := pcn actual 10) hnu (by omega) (by assumption) (by omega)⟩ | exact Or.inr ⟨cg_le hnu (by omega) (by omega), cg_eq hnu (by omega), cg_eqA hac (by omega), cg_eqT hto (by omega), cg_eqF hac (by omega), up_all3 hgm (by omega), cg_or0 (f := pcn actual 10) hnu (by omega) (by omega)⟩)), (by (try dsimp only) <;> (exact hgg))⟩ (hP.sub [0, 1, 2, 3, 4, 5] rfl) (hD.sub [0, 1, 2, 3, 4, 5] (by decide) rfl) hS (by decide) (by decide) dCp_gather_101
        ·
          refine lv_aload_n hx hb dCp_gather_85 rfl (lv_at hl 0 rfl) ?_
          refine va_get (D := D) (ci := 1) (v := .int (iZ (pcn actual 10))) (C := RCp) (T := TCp) (N := 5) hx hb hts layCp hown hK.1 hP 0 rfl rfl 2 (by decide) (hts _ (hm g196)) (fun _ h9 => h9) rfl dCp_gather_86 ?_
          refine lv_aload_n hx hb dCp_gather_89 rfl (lv_at hl 0 rfl) ?_
          refine va_get (D := D) (ci := 1) (v := .int (iZ number)) (C := RCp) (T := TCp) (N := 5) hx hb hts layCp hown hK.1 hP 0 rfl rfl 1 (by decide) (hts _ (hm g195)) (fun _ h9 => h9) rfl dCp_gather_90 ?_
          refine z_icmp_ge (tgt := 100) hx hb (by omega) (by omega) (by omega) (by omega) dCp_gather_93 (by decide) (fun c_9 => ?_) (fun c_9 => ?_)
          ·
            refine lv_iconst (v := iZ 0) hx hb dCp_gather_100 (by decide) ?_
            exact cq_zret hx hb hr hlocks hAe hQ (bo_narr (by omega) (by omega)) (0, number, pcn actual 10, actual, total, gm) ⟨rfl, (by (try dsimp only) <;> (first | exact Or.inl ⟨rfl, cN_ov hnu hi (by assumption) (by omega) (by assumption)⟩ | exact Or.inr ⟨cg_le hnu (by omega) (by omega), cg_eq hnu (by omega), cg_eqA hac (by omega), cg_eqT hto (by omega), cg_eqF hac (by omega), up_all3 hgm (by omega), cg_or1 (f := pcn actual 10) hnu (by omega) (by assumption) (by omega)⟩ | exact Or.inr ⟨cg_le hnu (by omega) (by omega), cg_eq hnu (by omega), cg_eqA hac (by omega), cg_eqT hto (by omega), cg_eqF hac (by omega), up_all3 hgm (by omega), cg_or0 (f := pcn actual 10) hnu (by omega) (by omega)⟩)), (by (try dsimp only) <;> (exact hgg))⟩ (hP.sub [0, 1, 2, 3, 4, 5] rfl) (hD.sub [0, 1, 2, 3, 4, 5] (by decide) rfl) hS (by decide) (by decide) dCp_gather_101
          ·
            refine lv_iconst (v := iZ 1) hx hb dCp_gather_96 (by decide) ?_
            refine lv_goto (tgt := 101) hx hb dCp_gather_97 (by decide) ?_
            exact cq_zret hx hb hr hlocks hAe hQ (bo_narr (by omega) (by omega)) (1, number, pcn actual 10, actual, total, gm) ⟨rfl, (by (try dsimp only) <;> (first | exact Or.inl ⟨rfl, cN_ov hnu hi (by assumption) (by omega) (by assumption)⟩ | exact Or.inr ⟨cg_le hnu (by omega) (by omega), cg_eq hnu (by omega), cg_eqA hac (by omega), cg_eqT hto (by omega), cg_eqF hac (by omega), up_all3 hgm (by omega), cg_or1 (f := pcn actual 10) hnu (by omega) (by assumption) (by omega)⟩ | exact Or.inr ⟨cg_le hnu (by omega) (by omega), cg_eq hnu (by omega), cg_eqA hac (by omega), cg_eqT hto (by omega), cg_eqF hac (by omega), up_all3 hgm (by omega), cg_or0 (f := pcn actual 10) hnu (by omega) (by omega)⟩)), (by (try dsimp only) <;> (exact hgg))⟩ (hP.sub [0, 1, 2, 3, 4, 5] rfl) (hD.sub [0, 1, 2, 3, 4, 5] (by decide) rfl) hS (by decide) (by decide) dCp_gather_101
      ·
        refine lv_aload_n hx hb dCp_gather_25 rfl (lv_at hl 1 rfl) ?_
        refine va_getN (D := D) (ci := 0) (v := .ref bags_lost_a) (C := RBg) (T := TBg) (N := 5) (host := "StratumCounts") hx hb hts layBg hown hK.1 hP 2 rfl rfl 2 (by decide) (va_Nw.use rfl (hK.2.2 _ n7)) (fun _ h9 => h9) rfl dCp_gather_26 ?_
        refine lv_iload_n hx hb dCp_gather_29 rfl (lv_at hl 3 rfl) ?_
        refine z_zald hx hb hK hP 3 2 rfl rfl (by omega) (by omega) (by decide) dCp_gather_30 ?_
        have f_10 := hlo i
        refine z_if_ne (tgt := 61) hx hb (by omega) (by omega) dCp_gather_31 (by decide) (fun c_11 => ?_) (fun c_11 => ?_)
        ·
          refine lv_iinc (v := iZ (i + 1)) (lv' := [(3, .int (iZ (i + 1))), (0, .ref t_a), (1, .ref bags_a), (2, .int (iZ kind))]) hx hb dCp_gather_61 hl (k := 3) rfl (iZ_add i 1) (by decide) rfl (fun ls hl => ?_)
          refine lv_goto (tgt := 17) hx hb dCp_gather_64 (by decide) ?_
          exact ih_2  (i + 1) number actual total gm (by omega) (by omega) (by first | exact cN_1 hnu hi (by assumption) | exact cN_0 hnu hi (by assumption)) (by omega) (by first | exact cA_1 hac hnu hi (by assumption) | exact cA_0 hac hi (by assumption)) (by first | exact cT_1 hto hi (by assumption) | exact cT_0 hto hi (by assumption)) (by first | exact cg_hit hgm hnu hi (by assumption) | exact cg_miss hgm (by assumption)) (by first | exact pu_all hgg (hgb _).1 (hgb _).2 | exact hgg) (by omega) _ _ (hP.sub [0, 1, 2, 3, 4, 5] rfl) (hD.sub [0, 1, 2, 3, 4, 5] (by decide) rfl) hS ls (lv_sub hl [1, 2, 3, 0] rfl)
        ·
          refine lv_aload_n hx hb dCp_gather_34 rfl (lv_at hl 0 rfl) ?_
          refine va_get (D := D) (ci := 1) (v := .int (iZ number)) (C := RCp) (T := TCp) (N := 5) hx hb hts layCp hown hK.1 hP 0 rfl rfl 1 (by decide) (hts _ (hm g195)) (fun _ h9 => h9) rfl dCp_gather_35 ?_
          refine lv_bipush (v := iZ (10)) hx hb dCp_gather_38 (by decide) ?_
          refine z_icmp_lt (tgt := 45) hx hb (by omega) (by omega) (by omega) (by omega) dCp_gather_40 (by decide) (fun c_12 => ?_) (fun c_12 => ?_)
          ·
            refine lv_aload_n hx hb dCp_gather_45 rfl (lv_at hl 0 rfl) ?_
            refine lv_aload_n hx hb dCp_gather_46 rfl (lv_at hl 1 rfl) ?_
            refine lv_iload_n hx hb dCp_gather_47 rfl (lv_at hl 3 rfl) ?_
            refine lv_iload_n hx hb dCp_gather_48 rfl (lv_at hl 2 rfl) ?_
            refine cq_calll (wr := [(t_a, .inr (1, [.ref t_grams_a, .int (iZ number), .int (iZ t_firsts), .int (iZ actual), .long (lZ total)])), (t_grams_a, .inl (cJ, 10, .inr (.inl (aL gm)))), (bags_lost_a, .inl (cZ, 12, .inl (aI bags_lost_f))), (bags_dates_a, .inl (cI, 12, .inl (aI bags_dates_f)))]) (va_runVN (C := RBg) (As := [.int (iZ i), .int (iZ kind)]) (rest := [.ref t_a]) ⟨hx, hb, hml, hown, hts⟩ (k_Bags_gramsOf l D cI cJ cZ bags_a bags_homes_a bags_dates_a bags_lost_a bags_grams_a H.size bags_made bags_grams_f i kind (by omega) (by omega) (by omega) (by omega) (by first | assumption | omega) (by first | assumption | omega) (by first | assumption | omega) (by first | assumption | omega)) ⟨(va_cnB 2 hts (gAll cmBg_gramsOf) rfl rfl rfl (hK.2.2 _ n54) (hts _ (hm g60)) (by decide +kernel) ⟨Nat.le_of_ble_eq_true rfl, Nat.le_of_ble_eq_true rfl⟩), (hts _ (hm g303)), (hts _ (hm g15))⟩ (cq_preV (va_recv hK.1 hP (ci := 0) (q0 := 2) rfl rfl) (cq_preS hK hP hD [2, 5] (by decide) rfl)) rfl rfl hl.1 rfl (lv_room (Nat.le_of_ble_eq_true rfl)) dCp_gather_49 ⟨by decide, by decide⟩) hP hD hS hA [2, 5] [0, 1, 3, 4] rfl rfl (by decide) (by decide) (fun r u H locs hw_13 hP hD hS => ?_)
            obtain ⟨o_14, rfl⟩ : ∃ z, z = u := ⟨_, rfl⟩
            try dsimp only at hw_13
            obtain ⟨rfl, rfl⟩ := hw_13
            have hP : va_P D clAll [(t_a, .inr (1, [.ref t_grams_a, .int (iZ number), .int (iZ t_firsts), .int (iZ actual), .long (lZ total)])), (t_grams_a, .inl (cJ, 10, .inr (.inl (aL gm)))), (bags_lost_a, .inl (cZ, 12, .inl (aI bags_lost_f))), (bags_dates_a, .inl (cI, 12, .inl (aI bags_dates_f))), (bags_a, .inr (0, [.ref bags_homes_a, .ref bags_dates_a, .ref bags_lost_a, .ref bags_grams_a, .int (iZ bags_made)])), (bags_grams_a, .inl (cJ, 36, .inr (.inl (aL bags_grams_f))))] H := hP
            have hD : va_D A [(t_a, .inr (1, [.ref t_grams_a, .int (iZ number), .int (iZ t_firsts), .int (iZ actual), .long (lZ total)])), (t_grams_a, .inl (cJ, 10, .inr (.inl (aL gm)))), (bags_lost_a, .inl (cZ, 12, .inl (aI bags_lost_f))), (bags_dates_a, .inl (cI, 12, .inl (aI bags_dates_f))), (bags_a, .inr (0, [.ref bags_homes_a, .ref bags_dates_a, .ref bags_lost_a, .ref bags_grams_a, .int (iZ bags_made)])), (bags_grams_a, .inl (cJ, 36, .inr (.inl (aL bags_grams_f))))] := hD
            refine lv_aload_n hx hb dCp_gather_52 rfl (lv_at hl 1 rfl) ?_
            refine va_getN (D := D) (ci := 0) (v := .ref bags_dates_a) (C := RBg) (T := TBg) (N := 5) (host := "StratumCounts") hx hb hts layBg hown hK.1 hP 4 rfl rfl 1 (by decide) (va_Nw.use rfl (hK.2.2 _ n6)) (fun _ h9 => h9) rfl dCp_gather_53 ?_
            refine lv_iload_n hx hb dCp_gather_56 rfl (lv_at hl 3 rfl) ?_
            refine z_iald hx hb hK hP 3 0 rfl rfl (by omega) (by omega) (by decide) dCp_gather_57 ?_
            have f_15 := hda i
            have hgq := hgb (i * 3 + kind)
            refine cq_callv (wr := [(bags_lost_a, .inl (cZ, 12, .inl (aI bags_lost_f))), (bags_dates_a, .inl (cI, 12, .inl (aI bags_dates_f))), (bags_a, .inr (0, [.ref bags_homes_a, .ref bags_dates_a, .ref bags_lost_a, .ref bags_grams_a, .int (iZ bags_made)])), (bags_grams_a, .inl (cJ, 36, .inr (.inl (aL bags_grams_f))))]) (va_runV (C := RCp) (As := [.long (lZ (bags_grams_f (i * 3 + kind))), .int (iZ (bags_dates_f i))]) (rest := []) ⟨hx, hb, hml, hown, hts⟩ (k_Comparison_take l D cI cJ cZ t_a t_grams_a H.size number t_firsts actual total gm (bags_grams_f (i * 3 + kind)) (bags_dates_f i) (by omega) (by omega) (by omega) (by omega) (by omega) (by rw [hac, hnu]; exact hcb) (by first | assumption | omega)) ⟨(callB_of 2 hts (gAll cmCp_take) rfl rfl rfl (hts _ (hm g66)) (hts _ (hm g379)) (by decide +kernel) ⟨Nat.le_of_ble_eq_true rfl, Nat.le_of_ble_eq_true rfl⟩), (hts _ (hm g380)), (hts _ (hm g33))⟩ (cq_preV (va_recv hK.1 hP (ci := 1) (q0 := 0) rfl rfl) (cq_preS hK hP hD [0, 1] (by decide) rfl)) rfl rfl hl.1 rfl (lv_room (Nat.le_of_ble_eq_true rfl)) dCp_gather_58 ⟨by decide, by decide⟩) hP hD hS hA [0, 1] [2, 3, 4, 5] rfl rfl (by decide) (by decide) (fun u H locs hw_16 hP hD hS => ?_)
            obtain ⟨o_17, o_18, o_19, o_20⟩ := u
            try dsimp only at hw_16
            obtain ⟨rfl, rfl, rfl, rfl⟩ := hw_16
            have hP : va_P D clAll [(bags_lost_a, .inl (cZ, 12, .inl (aI bags_lost_f))), (bags_dates_a, .inl (cI, 12, .inl (aI bags_dates_f))), (bags_a, .inr (0, [.ref bags_homes_a, .ref bags_dates_a, .ref bags_lost_a, .ref bags_grams_a, .int (iZ bags_made)])), (bags_grams_a, .inl (cJ, 36, .inr (.inl (aL bags_grams_f)))), (t_a, .inr (1, [.ref t_grams_a, .int (iZ (number + 1)), .int (iZ t_firsts), .int (iZ (if (bags_dates_f i) = 0 then actual + p2 number else actual)), .long (lZ (total + (bags_grams_f (i * 3 + kind))))])), (t_grams_a, .inl (cJ, 10, .inr (.inl (aL (pu gm number (bags_grams_f (i * 3 + kind)))))))] H := hP
            have hD : va_D A [(bags_lost_a, .inl (cZ, 12, .inl (aI bags_lost_f))), (bags_dates_a, .inl (cI, 12, .inl (aI bags_dates_f))), (bags_a, .inr (0, [.ref bags_homes_a, .ref bags_dates_a, .ref bags_lost_a, .ref bags_grams_a, .int (iZ bags_made)])), (bags_grams_a, .inl (cJ, 36, .inr (.inl (aL bags_grams_f)))), (t_a, .inr (1, [.ref t_grams_a, .int (iZ (number + 1)), .int (iZ t_firsts), .int (iZ (if (bags_dates_f i) = 0 then actual + p2 number else actual)), .long (lZ (total + (bags_grams_f (i * 3 + kind))))])), (t_grams_a, .inl (cJ, 10, .inr (.inl (aL (pu gm number (bags_grams_f (i * 3 + kind)))))))] := hD
            refine lv_iinc (v := iZ (i + 1)) (lv' := [(3, .int (iZ (i + 1))), (0, .ref t_a), (1, .ref bags_a), (2, .int (iZ kind))]) hx hb dCp_gather_61 hl (k := 3) rfl (iZ_add i 1) (by decide) rfl (fun ls hl => ?_)
            refine lv_goto (tgt := 17) hx hb dCp_gather_64 (by decide) ?_
            exact ih_2  (i + 1) (number + 1) (if (bags_dates_f i) = 0 then actual + p2 number else actual) (total + (bags_grams_f (i * 3 + kind))) (pu gm number (bags_grams_f (i * 3 + kind))) (by omega) (by omega) (by first | exact cN_1 hnu hi (by assumption) | exact cN_0 hnu hi (by assumption)) (by omega) (by first | exact cA_1 hac hnu hi (by assumption) | exact cA_0 hac hi (by assumption)) (by first | exact cT_1 hto hi (by assumption) | exact cT_0 hto hi (by assumption)) (by first | exact cg_hit hgm hnu hi (by assumption) | exact cg_miss hgm (by assumption)) (by first | exact pu_all hgg (hgb _).1 (hgb _).2 | exact hgg) (by omega) _ _ (hP.sub [4, 5, 2, 0, 1, 3] rfl) (hD.sub [4, 5, 2, 0, 1, 3] (by decide) rfl) hS ls (lv_sub hl [1, 2, 3, 0] rfl)
          ·
            refine lv_iconst (v := iZ 0) hx hb dCp_gather_43 (by decide) ?_
            exact cq_zret hx hb hr hlocks hAe hQ (bo_narr (by omega) (by omega)) (0, number, t_firsts, actual, total, gm) ⟨rfl, (by (try dsimp only) <;> (first | exact Or.inl ⟨rfl, cN_ov hnu hi (by assumption) (by omega) (by assumption)⟩ | exact Or.inr ⟨cg_le hnu (by omega) (by omega), cg_eq hnu (by omega), cg_eqA hac (by omega), cg_eqT hto (by omega), cg_eqF hac (by omega), up_all3 hgm (by omega), cg_or1 (f := pcn actual 10) hnu (by omega) (by assumption) (by omega)⟩ | exact Or.inr ⟨cg_le hnu (by omega) (by omega), cg_eq hnu (by omega), cg_eqA hac (by omega), cg_eqT hto (by omega), cg_eqF hac (by omega), up_all3 hgm (by omega), cg_or0 (f := pcn actual 10) hnu (by omega) (by omega)⟩)), (by (try dsimp only) <;> (exact hgg))⟩ (hP.sub [0, 1, 2, 3, 4, 5] rfl) (hD.sub [0, 1, 2, 3, 4, 5] (by decide) rfl) hS (by decide) (by decide) dCp_gather_44
  exact loop_1 ((bags_made - 0 : Int).toNat + 1) 0 0 0 0 t_grams_f (by omega) (by omega) (by rfl) (by omega) (by rfl) (by rfl) (by exact fun b h1 h2 => absurd h2 (by omega)) (by exact hgr) (by omega) _ _ (hP.sub [0, 1, 2, 3, 4, 5] rfl) (hD.sub [0, 1, 2, 3, 4, 5] (by decide) rfl) hS ls (lv_sub hl [1, 2, 3, 0] rfl)
