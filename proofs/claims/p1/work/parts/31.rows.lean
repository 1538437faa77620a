set_option maxHeartbeats 4000000 in
set_option maxRecDepth 100000 in
theorem c_X0_init (l : Launch) (hfl : l.stackTraces = false) (D : va_G) (dA : Nat → ClassId) (tE tC : Nat) (h0 : Nat) (h1 : Nat) (h2 : Nat) : Ct l D dA tE tC yX0_init (Cond.code yX0_init cX0_init 3 none :: gW) ({ frames := 1, cells := 49, slots := 1912, locals := 12 } : Room) [.ref h0, .ref h1, .ref h2] [(h0, .inr (4, [.null, .null, .null, .null, .null, .null, .null, .null, .null, .null, .null]))] (fun v w1 => (∃ (q1 : Nat), ∃ (q2 : Nat), ∃ (q5 : Nat), ∃ (q6 : Nat), ∃ (q7 : Nat), ∃ (q8 : Nat), ∃ (q9 : Nat), ∃ (q10 : Nat), ∃ (q3 : Nat), v = none ∧ w1 = [(h0, .inr (4, [.ref h1, .ref h2, .ref q1, .ref q2, .ref q3, .ref q5, .ref q6, .ref q7, .ref q8, .ref q9, .ref q10])), (q1, .inl (dA 0, 40, .inl (fun _ => 0))), (q2, .inl (dA 0, 40, .inl (fun _ => 0))), (q5, .inl (dA 0, 40, .inl (fun _ => 0))), (q6, .inl (dA 1, 40, .inl (fun _ => 0))), (q7, .inl (dA 1, 40, .inl (fun _ => 0))), (q8, .inl (dA 0, 24, .inl (fun _ => 0))), (q9, .inl (dA 0, 24, .inl (fun _ => 0))), (q10, .inl (dA 0, 24, .inl (fun _ => 0)))])) 49 1912 := by
  refine Ct_of (by decide) (Nat.le_of_ble_eq_true rfl) ?_
  intro p e s m below meth c hx hb hr hml hown hnm hlocks hgw hK A hG hA hP hD ls hl
  have hl : lv_has ls 3 [(0, .ref h0), (1, .ref h1), (2, .ref h2)] := hl
  have hS : va_S A s.heap s.heap [] := va_S.rf
  refine lv_aload_n hx hb dX0_init_0 rfl (lv_at hl 0 rfl) ?_
  refine W.objInit hx hb hown (hgw _ m_2_200) (hgw _ m_1_49) (hgw _ m_1_50) rfl (hl.1.trans hml.symm) rfl dX0_init_1 (Nat.le_of_ble_eq_true rfl) (Nat.le_of_ble_eq_true rfl) ?_
  refine W.eq (g2 := F0 m 4 ls []) rfl ?_
  refine lv_aload_n hx hb dX0_init_4 rfl (lv_at hl 0 rfl) ?_
  refine lv_bipush (v := 40) hx hb dX0_init_5 (by decide +kernel) ?_
  refine kq_newa hx hb 0 rfl rfl hgw m_1_136 hK hP hD hS hA (N' := 40) (a0 := (40, .inl (fun _ => 0))) (fun _ => rfl) (by decide +kernel) (by decide +kernel) (Nat.le_of_ble_eq_true rfl) (Nat.le_of_ble_eq_true rfl) (Nat.le_of_ble_eq_true rfl) dX0_init_7 (fun q1 H hP hD hS => ?_)
  have hP : va_P D vwCl [(h0, .inr (4, [.null, .null, .null, .null, .null, .null, .null, .null, .null, .null, .null])), (q1, .inl (dA 0, 40, .inl (fun _ => 0)))] H := hP
  have hD : va_D A [(h0, .inr (4, [.null, .null, .null, .null, .null, .null, .null, .null, .null, .null, .null])), (q1, .inl (dA 0, 40, .inl (fun _ => 0)))] := hD
  refine va_putF (D := D) (ci := 4) (v := .ref q1) (ty := .array .int) (C := RX0) (T := TX0) (N := 11) hx hb hgw in_X0 tyX0 tyX0_ok nmX0 hown hK hP hD hS 0 rfl rfl 2 (by decide) (hgw _ m_2_204) (fun _ h9 => h9) rfl hnm rfl (by decide +kernel) rfl rfl (Nat.le_of_ble_eq_true rfl) dX0_init_9 (fun H locs hP hD hS => ?_)
  have hP : va_P D vwCl [(h0, .inr (4, [.null, .null, .ref q1, .null, .null, .null, .null, .null, .null, .null, .null])), (q1, .inl (dA 0, 40, .inl (fun _ => 0)))] H := hP
  have hD : va_D A [(h0, .inr (4, [.null, .null, .ref q1, .null, .null, .null, .null, .null, .null, .null, .null])), (q1, .inl (dA 0, 40, .inl (fun _ => 0)))] := hD
  refine lv_aload_n hx hb dX0_init_12 rfl (lv_at hl 0 rfl) ?_
  refine lv_bipush (v := 40) hx hb dX0_init_13 (by decide +kernel) ?_
  refine kq_newa hx hb 0 rfl rfl hgw m_1_136 hK hP hD hS hA (N' := 40) (a0 := (40, .inl (fun _ => 0))) (fun _ => rfl) (by decide +kernel) (by decide +kernel) (Nat.le_of_ble_eq_true rfl) (Nat.le_of_ble_eq_true rfl) (Nat.le_of_ble_eq_true rfl) dX0_init_15 (fun q2 H hP hD hS => ?_)
  have hP : va_P D vwCl [(h0, .inr (4, [.null, .null, .ref q1, .null, .null, .null, .null, .null, .null, .null, .null])), (q1, .inl (dA 0, 40, .inl (fun _ => 0))), (q2, .inl (dA 0, 40, .inl (fun _ => 0)))] H := hP
  have hD : va_D A [(h0, .inr (4, [.null, .null, .ref q1, .null, .null, .null, .null, .null, .null, .null, .null])), (q1, .inl (dA 0, 40, .inl (fun _ => 0))), (q2, .inl (dA 0, 40, .inl (fun _ => 0)))] := hD
  refine va_putF (D := D) (ci := 4) (v := .ref q2) (ty := .array .int) (C := RX0) (T := TX0) (N := 11) hx hb hgw in_X0 tyX0 tyX0_ok nmX0 hown hK hP hD hS 0 rfl rfl 3 (by decide) (hgw _ m_2_205) (fun _ h9 => h9) rfl hnm rfl (by decide +kernel) rfl rfl (Nat.le_of_ble_eq_true rfl) dX0_init_17 (fun H locs hP hD hS => ?_)
  have hP : va_P D vwCl [(h0, .inr (4, [.null, .null, .ref q1, .ref q2, .null, .null, .null, .null, .null, .null, .null])), (q1, .inl (dA 0, 40, .inl (fun _ => 0))), (q2, .inl (dA 0, 40, .inl (fun _ => 0)))] H := hP
  have hD : va_D A [(h0, .inr (4, [.null, .null, .ref q1, .ref q2, .null, .null, .null, .null, .null, .null, .null])), (q1, .inl (dA 0, 40, .inl (fun _ => 0))), (q2, .inl (dA 0, 40, .inl (fun _ => 0)))] := hD
  refine lv_aload_n hx hb dX0_init_20 rfl (lv_at hl 0 rfl) ?_
  refine lv_bipush (v := 40) hx hb dX0_init_21 (by decide +kernel) ?_
  refine lv_bipush (v := 40) hx hb dX0_init_23 (by decide +kernel) ?_
  refine kq_mnaI hx hb hown hgw m_2_201 m_1_136 hG hK hP hD hS hA (N' := 40) (K' := 40) (by decide +kernel) (by decide +kernel) (by decide +kernel) (by decide +kernel) (Nat.le_of_ble_eq_true rfl) (Nat.le_of_ble_eq_true rfl) (Nat.le_of_ble_eq_true rfl) (Nat.le_of_ble_eq_true rfl) (Nat.le_of_ble_eq_true rfl) dX0_init_25 (fun q3 g4 H hP hD hS => ?_)
  have hP : va_P D vwCl [(h0, .inr (4, [.null, .null, .ref q1, .ref q2, .null, .null, .null, .null, .null, .null, .null])), (q1, .inl (dA 0, 40, .inl (fun _ => 0))), (q2, .inl (dA 0, 40, .inl (fun _ => 0))), (q3, .inl (dA 5, 40, .inr (.inr (.inr (.inr g4)))))] H := hP
  have hD : va_D A [(h0, .inr (4, [.null, .null, .ref q1, .ref q2, .null, .null, .null, .null, .null, .null, .null])), (q1, .inl (dA 0, 40, .inl (fun _ => 0))), (q2, .inl (dA 0, 40, .inl (fun _ => 0))), (q3, .inl (dA 5, 40, .inr (.inr (.inr (.inr g4)))))] := hD
  refine va_putF (D := D) (ci := 4) (v := .ref q3) (ty := .array (.array .int)) (C := RX0) (T := TX0) (N := 11) hx hb hgw in_X0 tyX0 tyX0_ok nmX0 hown hK hP hD hS 0 rfl rfl 4 (by decide) (hgw _ m_2_206) (fun _ h9 => h9) rfl hnm rfl (by decide +kernel) rfl rfl (Nat.le_of_ble_eq_true rfl) dX0_init_29 (fun H locs hP hD hS => ?_)
  have hP : va_P D vwCl [(h0, .inr (4, [.null, .null, .ref q1, .ref q2, .ref q3, .null, .null, .null, .null, .null, .null])), (q1, .inl (dA 0, 40, .inl (fun _ => 0))), (q2, .inl (dA 0, 40, .inl (fun _ => 0))), (q3, .inl (dA 5, 40, .inr (.inr (.inr (.inr g4)))))] H := hP
  have hD : va_D A [(h0, .inr (4, [.null, .null, .ref q1, .ref q2, .ref q3, .null, .null, .null, .null, .null, .null])), (q1, .inl (dA 0, 40, .inl (fun _ => 0))), (q2, .inl (dA 0, 40, .inl (fun _ => 0))), (q3, .inl (dA 5, 40, .inr (.inr (.inr (.inr g4)))))] := hD
  refine lv_aload_n hx hb dX0_init_32 rfl (lv_at hl 0 rfl) ?_
  refine lv_bipush (v := 40) hx hb dX0_init_33 (by decide +kernel) ?_
  refine kq_newa hx hb 0 rfl rfl hgw m_1_136 hK hP hD hS hA (N' := 40) (a0 := (40, .inl (fun _ => 0))) (fun _ => rfl) (by decide +kernel) (by decide +kernel) (Nat.le_of_ble_eq_true rfl) (Nat.le_of_ble_eq_true rfl) (Nat.le_of_ble_eq_true rfl) dX0_init_35 (fun q5 H hP hD hS => ?_)
  have hP : va_P D vwCl [(h0, .inr (4, [.null, .null, .ref q1, .ref q2, .ref q3, .null, .null, .null, .null, .null, .null])), (q1, .inl (dA 0, 40, .inl (fun _ => 0))), (q2, .inl (dA 0, 40, .inl (fun _ => 0))), (q3, .inl (dA 5, 40, .inr (.inr (.inr (.inr g4))))), (q5, .inl (dA 0, 40, .inl (fun _ => 0)))] H := hP
  have hD : va_D A [(h0, .inr (4, [.null, .null, .ref q1, .ref q2, .ref q3, .null, .null, .null, .null, .null, .null])), (q1, .inl (dA 0, 40, .inl (fun _ => 0))), (q2, .inl (dA 0, 40, .inl (fun _ => 0))), (q3, .inl (dA 5, 40, .inr (.inr (.inr (.inr g4))))), (q5, .inl (dA 0, 40, .inl (fun _ => 0)))] := hD
  refine va_putF (D := D) (ci := 4) (v := .ref q5) (ty := .array .int) (C := RX0) (T := TX0) (N := 11) hx hb hgw in_X0 tyX0 tyX0_ok nmX0 hown hK hP hD hS 0 rfl rfl 5 (by decide) (hgw _ m_2_207) (fun _ h9 => h9) rfl hnm rfl (by decide +kernel) rfl rfl (Nat.le_of_ble_eq_true rfl) dX0_init_37 (fun H locs hP hD hS => ?_)
  have hP : va_P D vwCl [(h0, .inr (4, [.null, .null, .ref q1, .ref q2, .ref q3, .ref q5, .null, .null, .null, .null, .null])), (q1, .inl (dA 0, 40, .inl (fun _ => 0))), (q2, .inl (dA 0, 40, .inl (fun _ => 0))), (q3, .inl (dA 5, 40, .inr (.inr (.inr (.inr g4))))), (q5, .inl (dA 0, 40, .inl (fun _ => 0)))] H := hP
  have hD : va_D A [(h0, .inr (4, [.null, .null, .ref q1, .ref q2, .ref q3, .ref q5, .null, .null, .null, .null, .null])), (q1, .inl (dA 0, 40, .inl (fun _ => 0))), (q2, .inl (dA 0, 40, .inl (fun _ => 0))), (q3, .inl (dA 5, 40, .inr (.inr (.inr (.inr g4))))), (q5, .inl (dA 0, 40, .inl (fun _ => 0)))] := hD
  refine lv_aload_n hx hb dX0_init_40 rfl (lv_at hl 0 rfl) ?_
  refine lv_bipush (v := 40) hx hb dX0_init_41 (by decide +kernel) ?_
  refine kq_newa hx hb 1 rfl rfl hgw m_2_140 hK hP hD hS hA (N' := 40) (a0 := (40, .inl (fun _ => 0))) (fun _ => rfl) (by decide +kernel) (by decide +kernel) (Nat.le_of_ble_eq_true rfl) (Nat.le_of_ble_eq_true rfl) (Nat.le_of_ble_eq_true rfl) dX0_init_43 (fun q6 H hP hD hS => ?_)
  have hP : va_P D vwCl [(h0, .inr (4, [.null, .null, .ref q1, .ref q2, .ref q3, .ref q5, .null, .null, .null, .null, .null])), (q1, .inl (dA 0, 40, .inl (fun _ => 0))), (q2, .inl (dA 0, 40, .inl (fun _ => 0))), (q3, .inl (dA 5, 40, .inr (.inr (.inr (.inr g4))))), (q5, .inl (dA 0, 40, .inl (fun _ => 0))), (q6, .inl (dA 1, 40, .inl (fun _ => 0)))] H := hP
  have hD : va_D A [(h0, .inr (4, [.null, .null, .ref q1, .ref q2, .ref q3, .ref q5, .null, .null, .null, .null, .null])), (q1, .inl (dA 0, 40, .inl (fun _ => 0))), (q2, .inl (dA 0, 40, .inl (fun _ => 0))), (q3, .inl (dA 5, 40, .inr (.inr (.inr (.inr g4))))), (q5, .inl (dA 0, 40, .inl (fun _ => 0))), (q6, .inl (dA 1, 40, .inl (fun _ => 0)))] := hD
  refine va_putF (D := D) (ci := 4) (v := .ref q6) (ty := .array .boolean) (C := RX0) (T := TX0) (N := 11) hx hb hgw in_X0 tyX0 tyX0_ok nmX0 hown hK hP hD hS 0 rfl rfl 6 (by decide) (hgw _ m_2_208) (fun _ h9 => h9) rfl hnm rfl (by decide +kernel) rfl rfl (Nat.le_of_ble_eq_true rfl) dX0_init_45 (fun H locs hP hD hS => ?_)
  have hP : va_P D vwCl [(h0, .inr (4, [.null, .null, .ref q1, .ref q2, .ref q3, .ref q5, .ref q6, .null, .null, .null, .null])), (q1, .inl (dA 0, 40, .inl (fun _ => 0))), (q2, .inl (dA 0, 40, .inl (fun _ => 0))), (q3, .inl (dA 5, 40, .inr (.inr (.inr (.inr g4))))), (q5, .inl (dA 0, 40, .inl (fun _ => 0))), (q6, .inl (dA 1, 40, .inl (fun _ => 0)))] H := hP
  have hD : va_D A [(h0, .inr (4, [.null, .null, .ref q1, .ref q2, .ref q3, .ref q5, .ref q6, .null, .null, .null, .null])), (q1, .inl (dA 0, 40, .inl (fun _ => 0))), (q2, .inl (dA 0, 40, .inl (fun _ => 0))), (q3, .inl (dA 5, 40, .inr (.inr (.inr (.inr g4))))), (q5, .inl (dA 0, 40, .inl (fun _ => 0))), (q6, .inl (dA 1, 40, .inl (fun _ => 0)))] := hD
  refine lv_aload_n hx hb dX0_init_48 rfl (lv_at hl 0 rfl) ?_
  refine lv_bipush (v := 40) hx hb dX0_init_49 (by decide +kernel) ?_
  refine kq_newa hx hb 1 rfl rfl hgw m_2_140 hK hP hD hS hA (N' := 40) (a0 := (40, .inl (fun _ => 0))) (fun _ => rfl) (by decide +kernel) (by decide +kernel) (Nat.le_of_ble_eq_true rfl) (Nat.le_of_ble_eq_true rfl) (Nat.le_of_ble_eq_true rfl) dX0_init_51 (fun q7 H hP hD hS => ?_)
  have hP : va_P D vwCl [(h0, .inr (4, [.null, .null, .ref q1, .ref q2, .ref q3, .ref q5, .ref q6, .null, .null, .null, .null])), (q1, .inl (dA 0, 40, .inl (fun _ => 0))), (q2, .inl (dA 0, 40, .inl (fun _ => 0))), (q3, .inl (dA 5, 40, .inr (.inr (.inr (.inr g4))))), (q5, .inl (dA 0, 40, .inl (fun _ => 0))), (q6, .inl (dA 1, 40, .inl (fun _ => 0))), (q7, .inl (dA 1, 40, .inl (fun _ => 0)))] H := hP
  have hD : va_D A [(h0, .inr (4, [.null, .null, .ref q1, .ref q2, .ref q3, .ref q5, .ref q6, .null, .null, .null, .null])), (q1, .inl (dA 0, 40, .inl (fun _ => 0))), (q2, .inl (dA 0, 40, .inl (fun _ => 0))), (q3, .inl (dA 5, 40, .inr (.inr (.inr (.inr g4))))), (q5, .inl (dA 0, 40, .inl (fun _ => 0))), (q6, .inl (dA 1, 40, .inl (fun _ => 0))), (q7, .inl (dA 1, 40, .inl (fun _ => 0)))] := hD
  refine va_putF (D := D) (ci := 4) (v := .ref q7) (ty := .array .boolean) (C := RX0) (T := TX0) (N := 11) hx hb hgw in_X0 tyX0 tyX0_ok nmX0 hown hK hP hD hS 0 rfl rfl 7 (by decide) (hgw _ m_2_209) (fun _ h9 => h9) rfl hnm rfl (by decide +kernel) rfl rfl (Nat.le_of_ble_eq_true rfl) dX0_init_53 (fun H locs hP hD hS => ?_)
  have hP : va_P D vwCl [(h0, .inr (4, [.null, .null, .ref q1, .ref q2, .ref q3, .ref q5, .ref q6, .ref q7, .null, .null, .null])), (q1, .inl (dA 0, 40, .inl (fun _ => 0))), (q2, .inl (dA 0, 40, .inl (fun _ => 0))), (q3, .inl (dA 5, 40, .inr (.inr (.inr (.inr g4))))), (q5, .inl (dA 0, 40, .inl (fun _ => 0))), (q6, .inl (dA 1, 40, .inl (fun _ => 0))), (q7, .inl (dA 1, 40, .inl (fun _ => 0)))] H := hP
  have hD : va_D A [(h0, .inr (4, [.null, .null, .ref q1, .ref q2, .ref q3, .ref q5, .ref q6, .ref q7, .null, .null, .null])), (q1, .inl (dA 0, 40, .inl (fun _ => 0))), (q2, .inl (dA 0, 40, .inl (fun _ => 0))), (q3, .inl (dA 5, 40, .inr (.inr (.inr (.inr g4))))), (q5, .inl (dA 0, 40, .inl (fun _ => 0))), (q6, .inl (dA 1, 40, .inl (fun _ => 0))), (q7, .inl (dA 1, 40, .inl (fun _ => 0)))] := hD
  refine lv_aload_n hx hb dX0_init_56 rfl (lv_at hl 0 rfl) ?_
  refine lv_bipush (v := 24) hx hb dX0_init_57 (by decide +kernel) ?_
  refine kq_newa hx hb 0 rfl rfl hgw m_1_136 hK hP hD hS hA (N' := 24) (a0 := (24, .inl (fun _ => 0))) (fun _ => rfl) (by decide +kernel) (by decide +kernel) (Nat.le_of_ble_eq_true rfl) (Nat.le_of_ble_eq_true rfl) (Nat.le_of_ble_eq_true rfl) dX0_init_59 (fun q8 H hP hD hS => ?_)
  have hP : va_P D vwCl [(h0, .inr (4, [.null, .null, .ref q1, .ref q2, .ref q3, .ref q5, .ref q6, .ref q7, .null, .null, .null])), (q1, .inl (dA 0, 40, .inl (fun _ => 0))), (q2, .inl (dA 0, 40, .inl (fun _ => 0))), (q3, .inl (dA 5, 40, .inr (.inr (.inr (.inr g4))))), (q5, .inl (dA 0, 40, .inl (fun _ => 0))), (q6, .inl (dA 1, 40, .inl (fun _ => 0))), (q7, .inl (dA 1, 40, .inl (fun _ => 0))), (q8, .inl (dA 0, 24, .inl (fun _ => 0)))] H := hP
  have hD : va_D A [(h0, .inr (4, [.null, .null, .ref q1, .ref q2, .ref q3, .ref q5, .ref q6, .ref q7, .null, .null, .null])), (q1, .inl (dA 0, 40, .inl (fun _ => 0))), (q2, .inl (dA 0, 40, .inl (fun _ => 0))), (q3, .inl (dA 5, 40, .inr (.inr (.inr (.inr g4))))), (q5, .inl (dA 0, 40, .inl (fun _ => 0))), (q6, .inl (dA 1, 40, .inl (fun _ => 0))), (q7, .inl (dA 1, 40, .inl (fun _ => 0))), (q8, .inl (dA 0, 24, .inl (fun _ => 0)))] := hD
  refine va_putF (D := D) (ci := 4) (v := .ref q8) (ty := .array .int) (C := RX0) (T := TX0) (N := 11) hx hb hgw in_X0 tyX0 tyX0_ok nmX0 hown hK hP hD hS 0 rfl rfl 8 (by decide) (hgw _ m_2_210) (fun _ h9 => h9) rfl hnm rfl (by decide +kernel) rfl rfl (Nat.le_of_ble_eq_true rfl) dX0_init_61 (fun H locs hP hD hS => ?_)
  have hP : va_P D vwCl [(h0, .inr (4, [.null, .null, .ref q1, .ref q2, .ref q3, .ref q5, .ref q6, .ref q7, .ref q8, .null, .null])), (q1, .inl (dA 0, 40, .inl (fun _ => 0))), (q2, .inl (dA 0, 40, .inl (fun _ => 0))), (q3, .inl (dA 5, 40, .inr (.inr (.inr (.inr g4))))), (q5, .inl (dA 0, 40, .inl (fun _ => 0))), (q6, .inl (dA 1, 40, .inl (fun _ => 0))), (q7, .inl (dA 1, 40, .inl (fun _ => 0))), (q8, .inl (dA 0, 24, .inl (fun _ => 0)))] H := hP
  have hD : va_D A [(h0, .inr (4, [.null, .null, .ref q1, .ref q2, .ref q3, .ref q5, .ref q6, .ref q7, .ref q8, .null, .null])), (q1, .inl (dA 0, 40, .inl (fun _ => 0))), (q2, .inl (dA 0, 40, .inl (fun _ => 0))), (q3, .inl (dA 5, 40, .inr (.inr (.inr (.inr g4))))), (q5, .inl (dA 0, 40, .inl (fun _ => 0))), (q6, .inl (dA 1, 40, .inl (fun _ => 0))), (q7, .inl (dA 1, 40, .inl (fun _ => 0))), (q8, .inl (dA 0, 24, .inl (fun _ => 0)))] := hD
  refine lv_aload_n hx hb dX0_init_64 rfl (lv_at hl 0 rfl) ?_
  refine lv_bipush (v := 24) hx hb dX0_init_65 (by decide +kernel) ?_
  refine kq_newa hx hb 0 rfl rfl hgw m_1_136 hK hP hD hS hA (N' := 24) (a0 := (24, .inl (fun _ => 0))) (fun _ => rfl) (by decide +kernel) (by decide +kernel) (Nat.le_of_ble_eq_true rfl) (Nat.le_of_ble_eq_true rfl) (Nat.le_of_ble_eq_true rfl) dX0_init_67 (fun q9 H hP hD hS => ?_)
  have hP : va_P D vwCl [(h0, .inr (4, [.null, .null, .ref q1, .ref q2, .ref q3, .ref q5, .ref q6, .ref q7, .ref q8, .null, .null])), (q1, .inl (dA 0, 40, .inl (fun _ => 0))), (q2, .inl (dA 0, 40, .inl (fun _ => 0))), (q3, .inl (dA 5, 40, .inr (.inr (.inr (.inr g4))))), (q5, .inl (dA 0, 40, .inl (fun _ => 0))), (q6, .inl (dA 1, 40, .inl (fun _ => 0))), (q7, .inl (dA 1, 40, .inl (fun _ => 0))), (q8, .inl (dA 0, 24, .inl (fun _ => 0))), (q9, .inl (dA 0, 24, .inl (fun _ => 0)))] H := hP
  have hD : va_D A [(h0, .inr (4, [.null, .null, .ref q1, .ref q2, .ref q3, .ref q5, .ref q6, .ref q7, .ref q8, .null, .null])), (q1, .inl (dA 0, 40, .inl (fun _ => 0))), (q2, .inl (dA 0, 40, .inl (fun _ => 0))), (q3, .inl (dA 5, 40, .inr (.inr (.inr (.inr g4))))), (q5, .inl (dA 0, 40, .inl (fun _ => 0))), (q6, .inl (dA 1, 40, .inl (fun _ => 0))), (q7, .inl (dA 1, 40, .inl (fun _ => 0))), (q8, .inl (dA 0, 24, .inl (fun _ => 0))), (q9, .inl (dA 0, 24, .inl (fun _ => 0)))] := hD
  refine va_putF (D := D) (ci := 4) (v := .ref q9) (ty := .array .int) (C := RX0) (T := TX0) (N := 11) hx hb hgw in_X0 tyX0 tyX0_ok nmX0 hown hK hP hD hS 0 rfl rfl 9 (by decide) (hgw _ m_2_211) (fun _ h9 => h9) rfl hnm rfl (by decide +kernel) rfl rfl (Nat.le_of_ble_eq_true rfl) dX0_init_69 (fun H locs hP hD hS => ?_)
  have hP : va_P D vwCl [(h0, .inr (4, [.null, .null, .ref q1, .ref q2, .ref q3, .ref q5, .ref q6, .ref q7, .ref q8, .ref q9, .null])), (q1, .inl (dA 0, 40, .inl (fun _ => 0))), (q2, .inl (dA 0, 40, .inl (fun _ => 0))), (q3, .inl (dA 5, 40, .inr (.inr (.inr (.inr g4))))), (q5, .inl (dA 0, 40, .inl (fun _ => 0))), (q6, .inl (dA 1, 40, .inl (fun _ => 0))), (q7, .inl (dA 1, 40, .inl (fun _ => 0))), (q8, .inl (dA 0, 24, .inl (fun _ => 0))), (q9, .inl (dA 0, 24, .inl (fun _ => 0)))] H := hP
  have hD : va_D A [(h0, .inr (4, [.null, .null, .ref q1, .ref q2, .ref q3, .ref q5, .ref q6, .ref q7, .ref q8, .ref q9, .null])), (q1, .inl (dA 0, 40, .inl (fun _ => 0))), (q2, .inl (dA 0, 40, .inl (fun _ => 0))), (q3, .inl (dA 5, 40, .inr (.inr (.inr (.inr g4))))), (q5, .inl (dA 0, 40, .inl (fun _ => 0))), (q6, .inl (dA 1, 40, .inl (fun _ => 0))), (q7, .inl (dA 1, 40, .inl (fun _ => 0))), (q8, .inl (dA 0, 24, .inl (fun _ => 0))), (q9, .inl (dA 0, 24, .inl (fun _ => 0)))] := hD
  refine lv_aload_n hx hb dX0_init_72 rfl (lv_at hl 0 rfl) ?_
  refine lv_bipush (v := 24) hx hb dX0_init_73 (by decide +kernel) ?_
  refine kq_newa hx hb 0 rfl rfl hgw m_1_136 hK hP hD hS hA (N' := 24) (a0 := (24, .inl (fun _ => 0))) (fun _ => rfl) (by decide +kernel) (by decide +kernel) (Nat.le_of_ble_eq_true rfl) (Nat.le_of_ble_eq_true rfl) (Nat.le_of_ble_eq_true rfl) dX0_init_75 (fun q10 H hP hD hS => ?_)
  have hP : va_P D vwCl [(h0, .inr (4, [.null, .null, .ref q1, .ref q2, .ref q3, .ref q5, .ref q6, .ref q7, .ref q8, .ref q9, .null])), (q1, .inl (dA 0, 40, .inl (fun _ => 0))), (q2, .inl (dA 0, 40, .inl (fun _ => 0))), (q3, .inl (dA 5, 40, .inr (.inr (.inr (.inr g4))))), (q5, .inl (dA 0, 40, .inl (fun _ => 0))), (q6, .inl (dA 1, 40, .inl (fun _ => 0))), (q7, .inl (dA 1, 40, .inl (fun _ => 0))), (q8, .inl (dA 0, 24, .inl (fun _ => 0))), (q9, .inl (dA 0, 24, .inl (fun _ => 0))), (q10, .inl (dA 0, 24, .inl (fun _ => 0)))] H := hP
  have hD : va_D A [(h0, .inr (4, [.null, .null, .ref q1, .ref q2, .ref q3, .ref q5, .ref q6, .ref q7, .ref q8, .ref q9, .null])), (q1, .inl (dA 0, 40, .inl (fun _ => 0))), (q2, .inl (dA 0, 40, .inl (fun _ => 0))), (q3, .inl (dA 5, 40, .inr (.inr (.inr (.inr g4))))), (q5, .inl (dA 0, 40, .inl (fun _ => 0))), (q6, .inl (dA 1, 40, .inl (fun _ => 0))), (q7, .inl (dA 1, 40, .inl (fun _ => 0))), (q8, .inl (dA 0, 24, .inl (fun _ => 0))), (q9, .inl (dA 0, 24, .inl (fun _ => 0))), (q10, .inl (dA 0, 24, .inl (fun _ => 0)))] := hD
  refine va_putF (D := D) (ci := 4) (v := .ref q10) (ty := .array .int) (C := RX0) (T := TX0) (N := 11) hx hb hgw in_X0 tyX0 tyX0_ok nmX0 hown hK hP hD hS 0 rfl rfl 10 (by decide) (hgw _ m_2_212) (fun _ h9 => h9) rfl hnm rfl (by decide +kernel) rfl rfl (Nat.le_of_ble_eq_true rfl) dX0_init_77 (fun H locs hP hD hS => ?_)
  have hP : va_P D vwCl [(h0, .inr (4, [.null, .null, .ref q1, .ref q2, .ref q3, .ref q5, .ref q6, .ref q7, .ref q8, .ref q9, .ref q10])), (q1, .inl (dA 0, 40, .inl (fun _ => 0))), (q2, .inl (dA 0, 40, .inl (fun _ => 0))), (q3, .inl (dA 5, 40, .inr (.inr (.inr (.inr g4))))), (q5, .inl (dA 0, 40, .inl (fun _ => 0))), (q6, .inl (dA 1, 40, .inl (fun _ => 0))), (q7, .inl (dA 1, 40, .inl (fun _ => 0))), (q8, .inl (dA 0, 24, .inl (fun _ => 0))), (q9, .inl (dA 0, 24, .inl (fun _ => 0))), (q10, .inl (dA 0, 24, .inl (fun _ => 0)))] H := hP
  have hD : va_D A [(h0, .inr (4, [.null, .null, .ref q1, .ref q2, .ref q3, .ref q5, .ref q6, .ref q7, .ref q8, .ref q9, .ref q10])), (q1, .inl (dA 0, 40, .inl (fun _ => 0))), (q2, .inl (dA 0, 40, .inl (fun _ => 0))), (q3, .inl (dA 5, 40, .inr (.inr (.inr (.inr g4))))), (q5, .inl (dA 0, 40, .inl (fun _ => 0))), (q6, .inl (dA 1, 40, .inl (fun _ => 0))), (q7, .inl (dA 1, 40, .inl (fun _ => 0))), (q8, .inl (dA 0, 24, .inl (fun _ => 0))), (q9, .inl (dA 0, 24, .inl (fun _ => 0))), (q10, .inl (dA 0, 24, .inl (fun _ => 0)))] := hD
  refine lv_aload_n hx hb dX0_init_80 rfl (lv_at hl 0 rfl) ?_
  refine lv_aload_n hx hb dX0_init_81 rfl (lv_at hl 1 rfl) ?_
  refine va_putF (D := D) (ci := 4) (v := .ref h1) (ty := .object "Blazonry$Kin") (C := RX0) (T := TX0) (N := 11) hx hb hgw in_X0 tyX0 tyX0_ok nmX0 hown hK hP hD hS 0 rfl rfl 0 (by decide) (hgw _ m_2_202) (fun _ h9 => h9) rfl hnm rfl (by decide +kernel) rfl rfl (Nat.le_of_ble_eq_true rfl) dX0_init_82 (fun H locs hP hD hS => ?_)
  have hP : va_P D vwCl [(h0, .inr (4, [.ref h1, .null, .ref q1, .ref q2, .ref q3, .ref q5, .ref q6, .ref q7, .ref q8, .ref q9, .ref q10])), (q1, .inl (dA 0, 40, .inl (fun _ => 0))), (q2, .inl (dA 0, 40, .inl (fun _ => 0))), (q3, .inl (dA 5, 40, .inr (.inr (.inr (.inr g4))))), (q5, .inl (dA 0, 40, .inl (fun _ => 0))), (q6, .inl (dA 1, 40, .inl (fun _ => 0))), (q7, .inl (dA 1, 40, .inl (fun _ => 0))), (q8, .inl (dA 0, 24, .inl (fun _ => 0))), (q9, .inl (dA 0, 24, .inl (fun _ => 0))), (q10, .inl (dA 0, 24, .inl (fun _ => 0)))] H := hP
  have hD : va_D A [(h0, .inr (4, [.ref h1, .null, .ref q1, .ref q2, .ref q3, .ref q5, .ref q6, .ref q7, .ref q8, .ref q9, .ref q10])), (q1, .inl (dA 0, 40, .inl (fun _ => 0))), (q2, .inl (dA 0, 40, .inl (fun _ => 0))), (q3, .inl (dA 5, 40, .inr (.inr (.inr (.inr g4))))), (q5, .inl (dA 0, 40, .inl (fun _ => 0))), (q6, .inl (dA 1, 40, .inl (fun _ => 0))), (q7, .inl (dA 1, 40, .inl (fun _ => 0))), (q8, .inl (dA 0, 24, .inl (fun _ => 0))), (q9, .inl (dA 0, 24, .inl (fun _ => 0))), (q10, .inl (dA 0, 24, .inl (fun _ => 0)))] := hD
  refine lv_aload_n hx hb dX0_init_85 rfl (lv_at hl 0 rfl) ?_
  refine lv_aload_n hx hb dX0_init_86 rfl (lv_at hl 2 rfl) ?_
  refine va_putF (D := D) (ci := 4) (v := .ref h2) (ty := .object "Blazonry$Roll") (C := RX0) (T := TX0) (N := 11) hx hb hgw in_X0 tyX0 tyX0_ok nmX0 hown hK hP hD hS 0 rfl rfl 1 (by decide) (hgw _ m_2_203) (fun _ h9 => h9) rfl hnm rfl (by decide +kernel) rfl rfl (Nat.le_of_ble_eq_true rfl) dX0_init_87 (fun H locs hP hD hS => ?_)
  have hP : va_P D vwCl [(h0, .inr (4, [.ref h1, .ref h2, .ref q1, .ref q2, .ref q3, .ref q5, .ref q6, .ref q7, .ref q8, .ref q9, .ref q10])), (q1, .inl (dA 0, 40, .inl (fun _ => 0))), (q2, .inl (dA 0, 40, .inl (fun _ => 0))), (q3, .inl (dA 5, 40, .inr (.inr (.inr (.inr g4))))), (q5, .inl (dA 0, 40, .inl (fun _ => 0))), (q6, .inl (dA 1, 40, .inl (fun _ => 0))), (q7, .inl (dA 1, 40, .inl (fun _ => 0))), (q8, .inl (dA 0, 24, .inl (fun _ => 0))), (q9, .inl (dA 0, 24, .inl (fun _ => 0))), (q10, .inl (dA 0, 24, .inl (fun _ => 0)))] H := hP
  have hD : va_D A [(h0, .inr (4, [.ref h1, .ref h2, .ref q1, .ref q2, .ref q3, .ref q5, .ref q6, .ref q7, .ref q8, .ref q9, .ref q10])), (q1, .inl (dA 0, 40, .inl (fun _ => 0))), (q2, .inl (dA 0, 40, .inl (fun _ => 0))), (q3, .inl (dA 5, 40, .inr (.inr (.inr (.inr g4))))), (q5, .inl (dA 0, 40, .inl (fun _ => 0))), (q6, .inl (dA 1, 40, .inl (fun _ => 0))), (q7, .inl (dA 1, 40, .inl (fun _ => 0))), (q8, .inl (dA 0, 24, .inl (fun _ => 0))), (q9, .inl (dA 0, 24, .inl (fun _ => 0))), (q10, .inl (dA 0, 24, .inl (fun _ => 0)))] := hD
  have hP9 := hP.sub (ws' := [(h0, .inr (4, [.ref h1, .ref h2, .ref q1, .ref q2, .ref q3, .ref q5, .ref q6, .ref q7, .ref q8, .ref q9, .ref q10])), (q1, .inl (dA 0, 40, .inl (fun _ => 0))), (q2, .inl (dA 0, 40, .inl (fun _ => 0))), (q5, .inl (dA 0, 40, .inl (fun _ => 0))), (q6, .inl (dA 1, 40, .inl (fun _ => 0))), (q7, .inl (dA 1, 40, .inl (fun _ => 0))), (q8, .inl (dA 0, 24, .inl (fun _ => 0))), (q9, .inl (dA 0, 24, .inl (fun _ => 0))), (q10, .inl (dA 0, 24, .inl (fun _ => 0)))]) [0, 1, 2, 4, 5, 6, 7, 8, 9] rfl
  have hD9 := hD.sub (ws' := [(h0, .inr (4, [.ref h1, .ref h2, .ref q1, .ref q2, .ref q3, .ref q5, .ref q6, .ref q7, .ref q8, .ref q9, .ref q10])), (q1, .inl (dA 0, 40, .inl (fun _ => 0))), (q2, .inl (dA 0, 40, .inl (fun _ => 0))), (q5, .inl (dA 0, 40, .inl (fun _ => 0))), (q6, .inl (dA 1, 40, .inl (fun _ => 0))), (q7, .inl (dA 1, 40, .inl (fun _ => 0))), (q8, .inl (dA 0, 24, .inl (fun _ => 0))), (q9, .inl (dA 0, 24, .inl (fun _ => 0))), (q10, .inl (dA 0, 24, .inl (fun _ => 0)))]) [0, 1, 2, 4, 5, 6, 7, 8, 9] (by decide) rfl
  exact (kq_vret hx hb hr hlocks hS ⟨q1, q2, q5, q6, q7, q8, q9, q10, q3, rfl, rfl⟩ hP9 hD9 (Nat.le_of_ble_eq_true rfl) (Nat.le_of_ble_eq_true rfl) dX0_init_90)
set_option maxHeartbeats 4000000 in
set_option maxRecDepth 100000 in
theorem c_X4_init (l : Launch) (hfl : l.stackTraces = false) (D : va_G) (dA : Nat → ClassId) (tE tC : Nat) (h0 : Nat) (h1 : Nat) (h2 : Nat) : Ct l D dA tE tC yX4_init (Cond.code yX4_init cX4_init 3 none :: gW) ({ frames := 1, cells := 5, slots := 200, locals := 12 } : Room) [.ref h0, .ref h1, .ref h2] [(h0, .inr (8, [.null, .null, .null, .null, .null, .null, .null]))] (fun v w1 => (∃ (q1 : Nat), ∃ (q2 : Nat), ∃ (q3 : Nat), ∃ (q4 : Nat), ∃ (q5 : Nat), v = none ∧ w1 = [(h0, .inr (8, [.ref h1, .ref h2, .ref q1, .ref q2, .ref q3, .ref q4, .ref q5]))])) 5 200 := by
  refine Ct_of (by decide) (Nat.le_of_ble_eq_true rfl) ?_
  intro p e s m below meth c hx hb hr hml hown hnm hlocks hgw hK A hG hA hP hD ls hl
  have hl : lv_has ls 3 [(0, .ref h0), (1, .ref h1), (2, .ref h2)] := hl
  have hS : va_S A s.heap s.heap [] := va_S.rf
  refine lv_aload_n hx hb dX4_init_0 rfl (lv_at hl 0 rfl) ?_
  refine W.objInit hx hb hown (hgw _ m_3_1) (hgw _ m_1_49) (hgw _ m_1_50) rfl (hl.1.trans hml.symm) rfl dX4_init_1 (Nat.le_of_ble_eq_true rfl) (Nat.le_of_ble_eq_true rfl) ?_
  refine W.eq (g2 := F0 m 4 ls []) rfl ?_
  refine lv_aload_n hx hb dX4_init_4 rfl (lv_at hl 0 rfl) ?_
  refine lv_bipush (v := 40) hx hb dX4_init_5 (by decide +kernel) ?_
  refine kq_newa hx hb 0 rfl rfl hgw m_1_136 hK hP hD hS hA (N' := 40) (a0 := (40, .inl (fun _ => 0))) (fun _ => rfl) (by decide +kernel) (by decide +kernel) (Nat.le_of_ble_eq_true rfl) (Nat.le_of_ble_eq_true rfl) (Nat.le_of_ble_eq_true rfl) dX4_init_7 (fun q1 H hP hD hS => ?_)
  have hP : va_P D vwCl [(h0, .inr (8, [.null, .null, .null, .null, .null, .null, .null])), (q1, .inl (dA 0, 40, .inl (fun _ => 0)))] H := hP
  have hD : va_D A [(h0, .inr (8, [.null, .null, .null, .null, .null, .null, .null])), (q1, .inl (dA 0, 40, .inl (fun _ => 0)))] := hD
  refine va_putF (D := D) (ci := 8) (v := .ref q1) (ty := .array .int) (C := RX4) (T := TX4) (N := 7) hx hb hgw in_X4 tyX4 tyX4_ok nmX4 hown hK hP hD hS 0 rfl rfl 2 (by decide) (hgw _ m_3_4) (fun _ h9 => h9) rfl hnm rfl (by decide +kernel) rfl rfl (Nat.le_of_ble_eq_true rfl) dX4_init_9 (fun H locs hP hD hS => ?_)
  have hP : va_P D vwCl [(h0, .inr (8, [.null, .null, .ref q1, .null, .null, .null, .null])), (q1, .inl (dA 0, 40, .inl (fun _ => 0)))] H := hP
  have hD : va_D A [(h0, .inr (8, [.null, .null, .ref q1, .null, .null, .null, .null])), (q1, .inl (dA 0, 40, .inl (fun _ => 0)))] := hD
  refine lv_aload_n hx hb dX4_init_12 rfl (lv_at hl 0 rfl) ?_
  refine lv_bipush (v := 40) hx hb dX4_init_13 (by decide +kernel) ?_
  refine kq_newa hx hb 0 rfl rfl hgw m_1_136 hK hP hD hS hA (N' := 40) (a0 := (40, .inl (fun _ => 0))) (fun _ => rfl) (by decide +kernel) (by decide +kernel) (Nat.le_of_ble_eq_true rfl) (Nat.le_of_ble_eq_true rfl) (Nat.le_of_ble_eq_true rfl) dX4_init_15 (fun q2 H hP hD hS => ?_)
  have hP : va_P D vwCl [(h0, .inr (8, [.null, .null, .ref q1, .null, .null, .null, .null])), (q1, .inl (dA 0, 40, .inl (fun _ => 0))), (q2, .inl (dA 0, 40, .inl (fun _ => 0)))] H := hP
  have hD : va_D A [(h0, .inr (8, [.null, .null, .ref q1, .null, .null, .null, .null])), (q1, .inl (dA 0, 40, .inl (fun _ => 0))), (q2, .inl (dA 0, 40, .inl (fun _ => 0)))] := hD
  refine va_putF (D := D) (ci := 8) (v := .ref q2) (ty := .array .int) (C := RX4) (T := TX4) (N := 7) hx hb hgw in_X4 tyX4 tyX4_ok nmX4 hown hK hP hD hS 0 rfl rfl 3 (by decide) (hgw _ m_3_5) (fun _ h9 => h9) rfl hnm rfl (by decide +kernel) rfl rfl (Nat.le_of_ble_eq_true rfl) dX4_init_17 (fun H locs hP hD hS => ?_)
  have hP : va_P D vwCl [(h0, .inr (8, [.null, .null, .ref q1, .ref q2, .null, .null, .null])), (q1, .inl (dA 0, 40, .inl (fun _ => 0))), (q2, .inl (dA 0, 40, .inl (fun _ => 0)))] H := hP
  have hD : va_D A [(h0, .inr (8, [.null, .null, .ref q1, .ref q2, .null, .null, .null])), (q1, .inl (dA 0, 40, .inl (fun _ => 0))), (q2, .inl (dA 0, 40, .inl (fun _ => 0)))] := hD
  refine lv_aload_n hx hb dX4_init_20 rfl (lv_at hl 0 rfl) ?_
  refine lv_bipush (v := 40) hx hb dX4_init_21 (by decide +kernel) ?_
  refine kq_newa hx hb 0 rfl rfl hgw m_1_136 hK hP hD hS hA (N' := 40) (a0 := (40, .inl (fun _ => 0))) (fun _ => rfl) (by decide +kernel) (by decide +kernel) (Nat.le_of_ble_eq_true rfl) (Nat.le_of_ble_eq_true rfl) (Nat.le_of_ble_eq_true rfl) dX4_init_23 (fun q3 H hP hD hS => ?_)
  have hP : va_P D vwCl [(h0, .inr (8, [.null, .null, .ref q1, .ref q2, .null, .null, .null])), (q1, .inl (dA 0, 40, .inl (fun _ => 0))), (q2, .inl (dA 0, 40, .inl (fun _ => 0))), (q3, .inl (dA 0, 40, .inl (fun _ => 0)))] H := hP
  have hD : va_D A [(h0, .inr (8, [.null, .null, .ref q1, .ref q2, .null, .null, .null])), (q1, .inl (dA 0, 40, .inl (fun _ => 0))), (q2, .inl (dA 0, 40, .inl (fun _ => 0))), (q3, .inl (dA 0, 40, .inl (fun _ => 0)))] := hD
  refine va_putF (D := D) (ci := 8) (v := .ref q3) (ty := .array .int) (C := RX4) (T := TX4) (N := 7) hx hb hgw in_X4 tyX4 tyX4_ok nmX4 hown hK hP hD hS 0 rfl rfl 4 (by decide) (hgw _ m_3_6) (fun _ h9 => h9) rfl hnm rfl (by decide +kernel) rfl rfl (Nat.le_of_ble_eq_true rfl) dX4_init_25 (fun H locs hP hD hS => ?_)
  have hP : va_P D vwCl [(h0, .inr (8, [.null, .null, .ref q1, .ref q2, .ref q3, .null, .null])), (q1, .inl (dA 0, 40, .inl (fun _ => 0))), (q2, .inl (dA 0, 40, .inl (fun _ => 0))), (q3, .inl (dA 0, 40, .inl (fun _ => 0)))] H := hP
  have hD : va_D A [(h0, .inr (8, [.null, .null, .ref q1, .ref q2, .ref q3, .null, .null])), (q1, .inl (dA 0, 40, .inl (fun _ => 0))), (q2, .inl (dA 0, 40, .inl (fun _ => 0))), (q3, .inl (dA 0, 40, .inl (fun _ => 0)))] := hD
  refine lv_aload_n hx hb dX4_init_28 rfl (lv_at hl 0 rfl) ?_
  refine lv_bipush (v := 40) hx hb dX4_init_29 (by decide +kernel) ?_
  refine kq_newa hx hb 0 rfl rfl hgw m_1_136 hK hP hD hS hA (N' := 40) (a0 := (40, .inl (fun _ => 0))) (fun _ => rfl) (by decide +kernel) (by decide +kernel) (Nat.le_of_ble_eq_true rfl) (Nat.le_of_ble_eq_true rfl) (Nat.le_of_ble_eq_true rfl) dX4_init_31 (fun q4 H hP hD hS => ?_)
  have hP : va_P D vwCl [(h0, .inr (8, [.null, .null, .ref q1, .ref q2, .ref q3, .null, .null])), (q1, .inl (dA 0, 40, .inl (fun _ => 0))), (q2, .inl (dA 0, 40, .inl (fun _ => 0))), (q3, .inl (dA 0, 40, .inl (fun _ => 0))), (q4, .inl (dA 0, 40, .inl (fun _ => 0)))] H := hP
  have hD : va_D A [(h0, .inr (8, [.null, .null, .ref q1, .ref q2, .ref q3, .null, .null])), (q1, .inl (dA 0, 40, .inl (fun _ => 0))), (q2, .inl (dA 0, 40, .inl (fun _ => 0))), (q3, .inl (dA 0, 40, .inl (fun _ => 0))), (q4, .inl (dA 0, 40, .inl (fun _ => 0)))] := hD
  refine va_putF (D := D) (ci := 8) (v := .ref q4) (ty := .array .int) (C := RX4) (T := TX4) (N := 7) hx hb hgw in_X4 tyX4 tyX4_ok nmX4 hown hK hP hD hS 0 rfl rfl 5 (by decide) (hgw _ m_3_7) (fun _ h9 => h9) rfl hnm rfl (by decide +kernel) rfl rfl (Nat.le_of_ble_eq_true rfl) dX4_init_33 (fun H locs hP hD hS => ?_)
  have hP : va_P D vwCl [(h0, .inr (8, [.null, .null, .ref q1, .ref q2, .ref q3, .ref q4, .null])), (q1, .inl (dA 0, 40, .inl (fun _ => 0))), (q2, .inl (dA 0, 40, .inl (fun _ => 0))), (q3, .inl (dA 0, 40, .inl (fun _ => 0))), (q4, .inl (dA 0, 40, .inl (fun _ => 0)))] H := hP
  have hD : va_D A [(h0, .inr (8, [.null, .null, .ref q1, .ref q2, .ref q3, .ref q4, .null])), (q1, .inl (dA 0, 40, .inl (fun _ => 0))), (q2, .inl (dA 0, 40, .inl (fun _ => 0))), (q3, .inl (dA 0, 40, .inl (fun _ => 0))), (q4, .inl (dA 0, 40, .inl (fun _ => 0)))] := hD
  refine lv_aload_n hx hb dX4_init_36 rfl (lv_at hl 0 rfl) ?_
  refine lv_bipush (v := 40) hx hb dX4_init_37 (by decide +kernel) ?_
  refine kq_newa hx hb 1 rfl rfl hgw m_2_140 hK hP hD hS hA (N' := 40) (a0 := (40, .inl (fun _ => 0))) (fun _ => rfl) (by decide +kernel) (by decide +kernel) (Nat.le_of_ble_eq_true rfl) (Nat.le_of_ble_eq_true rfl) (Nat.le_of_ble_eq_true rfl) dX4_init_39 (fun q5 H hP hD hS => ?_)
  have hP : va_P D vwCl [(h0, .inr (8, [.null, .null, .ref q1, .ref q2, .ref q3, .ref q4, .null])), (q1, .inl (dA 0, 40, .inl (fun _ => 0))), (q2, .inl (dA 0, 40, .inl (fun _ => 0))), (q3, .inl (dA 0, 40, .inl (fun _ => 0))), (q4, .inl (dA 0, 40, .inl (fun _ => 0))), (q5, .inl (dA 1, 40, .inl (fun _ => 0)))] H := hP
  have hD : va_D A [(h0, .inr (8, [.null, .null, .ref q1, .ref q2, .ref q3, .ref q4, .null])), (q1, .inl (dA 0, 40, .inl (fun _ => 0))), (q2, .inl (dA 0, 40, .inl (fun _ => 0))), (q3, .inl (dA 0, 40, .inl (fun _ => 0))), (q4, .inl (dA 0, 40, .inl (fun _ => 0))), (q5, .inl (dA 1, 40, .inl (fun _ => 0)))] := hD
  refine va_putF (D := D) (ci := 8) (v := .ref q5) (ty := .array .boolean) (C := RX4) (T := TX4) (N := 7) hx hb hgw in_X4 tyX4 tyX4_ok nmX4 hown hK hP hD hS 0 rfl rfl 6 (by decide) (hgw _ m_3_8) (fun _ h9 => h9) rfl hnm rfl (by decide +kernel) rfl rfl (Nat.le_of_ble_eq_true rfl) dX4_init_41 (fun H locs hP hD hS => ?_)
  have hP : va_P D vwCl [(h0, .inr (8, [.null, .null, .ref q1, .ref q2, .ref q3, .ref q4, .ref q5])), (q1, .inl (dA 0, 40, .inl (fun _ => 0))), (q2, .inl (dA 0, 40, .inl (fun _ => 0))), (q3, .inl (dA 0, 40, .inl (fun _ => 0))), (q4, .inl (dA 0, 40, .inl (fun _ => 0))), (q5, .inl (dA 1, 40, .inl (fun _ => 0)))] H := hP
  have hD : va_D A [(h0, .inr (8, [.null, .null, .ref q1, .ref q2, .ref q3, .ref q4, .ref q5])), (q1, .inl (dA 0, 40, .inl (fun _ => 0))), (q2, .inl (dA 0, 40, .inl (fun _ => 0))), (q3, .inl (dA 0, 40, .inl (fun _ => 0))), (q4, .inl (dA 0, 40, .inl (fun _ => 0))), (q5, .inl (dA 1, 40, .inl (fun _ => 0)))] := hD
  refine lv_aload_n hx hb dX4_init_44 rfl (lv_at hl 0 rfl) ?_
  refine lv_aload_n hx hb dX4_init_45 rfl (lv_at hl 1 rfl) ?_
  refine va_putF (D := D) (ci := 8) (v := .ref h1) (ty := .object "Blazonry$Kin") (C := RX4) (T := TX4) (N := 7) hx hb hgw in_X4 tyX4 tyX4_ok nmX4 hown hK hP hD hS 0 rfl rfl 0 (by decide) (hgw _ m_3_2) (fun _ h9 => h9) rfl hnm rfl (by decide +kernel) rfl rfl (Nat.le_of_ble_eq_true rfl) dX4_init_46 (fun H locs hP hD hS => ?_)
  have hP : va_P D vwCl [(h0, .inr (8, [.ref h1, .null, .ref q1, .ref q2, .ref q3, .ref q4, .ref q5])), (q1, .inl (dA 0, 40, .inl (fun _ => 0))), (q2, .inl (dA 0, 40, .inl (fun _ => 0))), (q3, .inl (dA 0, 40, .inl (fun _ => 0))), (q4, .inl (dA 0, 40, .inl (fun _ => 0))), (q5, .inl (dA 1, 40, .inl (fun _ => 0)))] H := hP
  have hD : va_D A [(h0, .inr (8, [.ref h1, .null, .ref q1, .ref q2, .ref q3, .ref q4, .ref q5])), (q1, .inl (dA 0, 40, .inl (fun _ => 0))), (q2, .inl (dA 0, 40, .inl (fun _ => 0))), (q3, .inl (dA 0, 40, .inl (fun _ => 0))), (q4, .inl (dA 0, 40, .inl (fun _ => 0))), (q5, .inl (dA 1, 40, .inl (fun _ => 0)))] := hD
  refine lv_aload_n hx hb dX4_init_49 rfl (lv_at hl 0 rfl) ?_
  refine lv_aload_n hx hb dX4_init_50 rfl (lv_at hl 2 rfl) ?_
  refine va_putF (D := D) (ci := 8) (v := .ref h2) (ty := .object "Blazonry$Bearing") (C := RX4) (T := TX4) (N := 7) hx hb hgw in_X4 tyX4 tyX4_ok nmX4 hown hK hP hD hS 0 rfl rfl 1 (by decide) (hgw _ m_3_3) (fun _ h9 => h9) rfl hnm rfl (by decide +kernel) rfl rfl (Nat.le_of_ble_eq_true rfl) dX4_init_51 (fun H locs hP hD hS => ?_)
  have hP : va_P D vwCl [(h0, .inr (8, [.ref h1, .ref h2, .ref q1, .ref q2, .ref q3, .ref q4, .ref q5])), (q1, .inl (dA 0, 40, .inl (fun _ => 0))), (q2, .inl (dA 0, 40, .inl (fun _ => 0))), (q3, .inl (dA 0, 40, .inl (fun _ => 0))), (q4, .inl (dA 0, 40, .inl (fun _ => 0))), (q5, .inl (dA 1, 40, .inl (fun _ => 0)))] H := hP
  have hD : va_D A [(h0, .inr (8, [.ref h1, .ref h2, .ref q1, .ref q2, .ref q3, .ref q4, .ref q5])), (q1, .inl (dA 0, 40, .inl (fun _ => 0))), (q2, .inl (dA 0, 40, .inl (fun _ => 0))), (q3, .inl (dA 0, 40, .inl (fun _ => 0))), (q4, .inl (dA 0, 40, .inl (fun _ => 0))), (q5, .inl (dA 1, 40, .inl (fun _ => 0)))] := hD
  have hP9 := hP.sub (ws' := [(h0, .inr (8, [.ref h1, .ref h2, .ref q1, .ref q2, .ref q3, .ref q4, .ref q5]))]) [0] rfl
  have hD9 := hD.sub (ws' := [(h0, .inr (8, [.ref h1, .ref h2, .ref q1, .ref q2, .ref q3, .ref q4, .ref q5]))]) [0] (by decide) rfl
  exact (kq_vret hx hb hr hlocks hS ⟨q1, q2, q3, q4, q5, rfl, rfl⟩ hP9 hD9 (Nat.le_of_ble_eq_true rfl) (Nat.le_of_ble_eq_true rfl) dX4_init_54)
set_option maxHeartbeats 4000000 in
set_option maxRecDepth 100000 in
theorem c_X6_init (l : Launch) (hfl : l.stackTraces = false) (D : va_G) (dA : Nat → ClassId) (tE tC : Nat) (h0 : Nat) (h1 : Nat) (h2 : Nat) (h3 : Nat) (h4 : Nat) (h5 : Nat) : Ct l D dA tE tC yX6_init (Cond.code yX6_init cX6_init 6 none :: gW) ({ frames := 2, cells := 91, slots := 866, locals := 32 } : Room) [.ref h0, .ref h1, .ref h2, .ref h3, .ref h4, .ref h5] [(h0, .inr (10, [.null, .null, .null, .null, .null, .null, .null, .null, .null, .null]))] (fun v w1 => (∃ (q5 : Nat), ∃ (q1 : Nat), ∃ (q3 : Nat), ∃ (q6 : Nat), ∃ (q10 : Nat), v = none ∧ w1 = [(h0, .inr (10, [.ref h1, .ref h2, .ref h3, .ref h4, .ref h5, .ref q1, .ref q3, .ref q5, .ref q6, .ref q10])), (q5, .inl (dA 0, 40, .inl (fun _ => 0)))])) 91 866 := by
  refine Ct_of (by decide) (Nat.le_of_ble_eq_true rfl) ?_
  intro p e s m below meth c hx hb hr hml hown hnm hlocks hgw hK A hG hA hP hD ls hl
  have hl : lv_has ls 6 [(0, .ref h0), (1, .ref h1), (2, .ref h2), (3, .ref h3), (4, .ref h4), (5, .ref h5)] := hl
  have hS : va_S A s.heap s.heap [] := va_S.rf
  refine lv_aload_n hx hb dX6_init_0 rfl (lv_at hl 0 rfl) ?_
  refine W.objInit hx hb hown (hgw _ m_3_29) (hgw _ m_1_49) (hgw _ m_1_50) rfl (hl.1.trans hml.symm) rfl dX6_init_1 (Nat.le_of_ble_eq_true rfl) (Nat.le_of_ble_eq_true rfl) ?_
  refine W.eq (g2 := F0 m 4 ls []) rfl ?_
  refine lv_aload_n hx hb dX6_init_4 rfl (lv_at hl 0 rfl) ?_
  refine lv_bipush (v := 40) hx hb dX6_init_5 (by decide +kernel) ?_
  refine lv_bipush (v := 8) hx hb dX6_init_7 (by decide +kernel) ?_
  refine kq_mnaI hx hb hown hgw m_3_30 m_1_136 hG hK hP hD hS hA (N' := 40) (K' := 8) (by decide +kernel) (by decide +kernel) (by decide +kernel) (by decide +kernel) (Nat.le_of_ble_eq_true rfl) (Nat.le_of_ble_eq_true rfl) (Nat.le_of_ble_eq_true rfl) (Nat.le_of_ble_eq_true rfl) (Nat.le_of_ble_eq_true rfl) dX6_init_9 (fun q1 g2 H hP hD hS => ?_)
  have hP : va_P D vwCl [(h0, .inr (10, [.null, .null, .null, .null, .null, .null, .null, .null, .null, .null])), (q1, .inl (dA 5, 40, .inr (.inr (.inr (.inr g2)))))] H := hP
  have hD : va_D A [(h0, .inr (10, [.null, .null, .null, .null, .null, .null, .null, .null, .null, .null])), (q1, .inl (dA 5, 40, .inr (.inr (.inr (.inr g2)))))] := hD
  refine va_putF (D := D) (ci := 10) (v := .ref q1) (ty := .array (.array .int)) (C := RX6) (T := TX6) (N := 10) hx hb hgw in_X6 tyX6 tyX6_ok nmX6 hown hK hP hD hS 0 rfl rfl 5 (by decide) (hgw _ m_3_38) (fun _ h9 => h9) rfl hnm rfl (by decide +kernel) rfl rfl (Nat.le_of_ble_eq_true rfl) dX6_init_13 (fun H locs hP hD hS => ?_)
  have hP : va_P D vwCl [(h0, .inr (10, [.null, .null, .null, .null, .null, .ref q1, .null, .null, .null, .null])), (q1, .inl (dA 5, 40, .inr (.inr (.inr (.inr g2)))))] H := hP
  have hD : va_D A [(h0, .inr (10, [.null, .null, .null, .null, .null, .ref q1, .null, .null, .null, .null])), (q1, .inl (dA 5, 40, .inr (.inr (.inr (.inr g2)))))] := hD
  refine lv_aload_n hx hb dX6_init_16 rfl (lv_at hl 0 rfl) ?_
  refine lv_bipush (v := 40) hx hb dX6_init_17 (by decide +kernel) ?_
  refine lv_bipush (v := 8) hx hb dX6_init_19 (by decide +kernel) ?_
  refine kq_mnaI hx hb hown hgw m_3_30 m_1_136 hG hK hP hD hS hA (N' := 40) (K' := 8) (by decide +kernel) (by decide +kernel) (by decide +kernel) (by decide +kernel) (Nat.le_of_ble_eq_true rfl) (Nat.le_of_ble_eq_true rfl) (Nat.le_of_ble_eq_true rfl) (Nat.le_of_ble_eq_true rfl) (Nat.le_of_ble_eq_true rfl) dX6_init_21 (fun q3 g4 H hP hD hS => ?_)
  have hP : va_P D vwCl [(h0, .inr (10, [.null, .null, .null, .null, .null, .ref q1, .null, .null, .null, .null])), (q1, .inl (dA 5, 40, .inr (.inr (.inr (.inr g2))))), (q3, .inl (dA 5, 40, .inr (.inr (.inr (.inr g4)))))] H := hP
  have hD : va_D A [(h0, .inr (10, [.null, .null, .null, .null, .null, .ref q1, .null, .null, .null, .null])), (q1, .inl (dA 5, 40, .inr (.inr (.inr (.inr g2))))), (q3, .inl (dA 5, 40, .inr (.inr (.inr (.inr g4)))))] := hD
  refine va_putF (D := D) (ci := 10) (v := .ref q3) (ty := .array (.array .int)) (C := RX6) (T := TX6) (N := 10) hx hb hgw in_X6 tyX6 tyX6_ok nmX6 hown hK hP hD hS 0 rfl rfl 6 (by decide) (hgw _ m_3_39) (fun _ h9 => h9) rfl hnm rfl (by decide +kernel) rfl rfl (Nat.le_of_ble_eq_true rfl) dX6_init_25 (fun H locs hP hD hS => ?_)
  have hP : va_P D vwCl [(h0, .inr (10, [.null, .null, .null, .null, .null, .ref q1, .ref q3, .null, .null, .null])), (q1, .inl (dA 5, 40, .inr (.inr (.inr (.inr g2))))), (q3, .inl (dA 5, 40, .inr (.inr (.inr (.inr g4)))))] H := hP
  have hD : va_D A [(h0, .inr (10, [.null, .null, .null, .null, .null, .ref q1, .ref q3, .null, .null, .null])), (q1, .inl (dA 5, 40, .inr (.inr (.inr (.inr g2))))), (q3, .inl (dA 5, 40, .inr (.inr (.inr (.inr g4)))))] := hD
  refine lv_aload_n hx hb dX6_init_28 rfl (lv_at hl 0 rfl) ?_
  refine lv_bipush (v := 40) hx hb dX6_init_29 (by decide +kernel) ?_
  refine kq_newa hx hb 0 rfl rfl hgw m_1_136 hK hP hD hS hA (N' := 40) (a0 := (40, .inl (fun _ => 0))) (fun _ => rfl) (by decide +kernel) (by decide +kernel) (Nat.le_of_ble_eq_true rfl) (Nat.le_of_ble_eq_true rfl) (Nat.le_of_ble_eq_true rfl) dX6_init_31 (fun q5 H hP hD hS => ?_)
  have hP : va_P D vwCl [(h0, .inr (10, [.null, .null, .null, .null, .null, .ref q1, .ref q3, .null, .null, .null])), (q1, .inl (dA 5, 40, .inr (.inr (.inr (.inr g2))))), (q3, .inl (dA 5, 40, .inr (.inr (.inr (.inr g4))))), (q5, .inl (dA 0, 40, .inl (fun _ => 0)))] H := hP
  have hD : va_D A [(h0, .inr (10, [.null, .null, .null, .null, .null, .ref q1, .ref q3, .null, .null, .null])), (q1, .inl (dA 5, 40, .inr (.inr (.inr (.inr g2))))), (q3, .inl (dA 5, 40, .inr (.inr (.inr (.inr g4))))), (q5, .inl (dA 0, 40, .inl (fun _ => 0)))] := hD
  refine va_putF (D := D) (ci := 10) (v := .ref q5) (ty := .array .int) (C := RX6) (T := TX6) (N := 10) hx hb hgw in_X6 tyX6 tyX6_ok nmX6 hown hK hP hD hS 0 rfl rfl 7 (by decide) (hgw _ m_3_40) (fun _ h9 => h9) rfl hnm rfl (by decide +kernel) rfl rfl (Nat.le_of_ble_eq_true rfl) dX6_init_33 (fun H locs hP hD hS => ?_)
  have hP : va_P D vwCl [(h0, .inr (10, [.null, .null, .null, .null, .null, .ref q1, .ref q3, .ref q5, .null, .null])), (q1, .inl (dA 5, 40, .inr (.inr (.inr (.inr g2))))), (q3, .inl (dA 5, 40, .inr (.inr (.inr (.inr g4))))), (q5, .inl (dA 0, 40, .inl (fun _ => 0)))] H := hP
  have hD : va_D A [(h0, .inr (10, [.null, .null, .null, .null, .null, .ref q1, .ref q3, .ref q5, .null, .null])), (q1, .inl (dA 5, 40, .inr (.inr (.inr (.inr g2))))), (q3, .inl (dA 5, 40, .inr (.inr (.inr (.inr g4))))), (q5, .inl (dA 0, 40, .inl (fun _ => 0)))] := hD
  refine lv_aload_n hx hb dX6_init_36 rfl (lv_at hl 0 rfl) ?_
  refine va_new (ci := 12) (fs := [.null, .null, .null, .int 0, .int 0]) (C := RX8) (T := TX8) (N := 5) hx hb hgw in_X8 tyX8 tyX8_ok hown (hgw _ m_3_31) (hgw _ m_1_138) (hgw _ m_1_4) hK hP hD hS hA rfl dv_X8 (Nat.le_of_ble_eq_true rfl) (Nat.le_of_ble_eq_true rfl) dX6_init_37 (fun q6 H hP hD hS => ?_)
  have hP : va_P D vwCl [(h0, .inr (10, [.null, .null, .null, .null, .null, .ref q1, .ref q3, .ref q5, .null, .null])), (q1, .inl (dA 5, 40, .inr (.inr (.inr (.inr g2))))), (q3, .inl (dA 5, 40, .inr (.inr (.inr (.inr g4))))), (q5, .inl (dA 0, 40, .inl (fun _ => 0))), (q6, .inr (12, [.null, .null, .null, .int 0, .int 0]))] H := hP
  have hD : va_D A [(h0, .inr (10, [.null, .null, .null, .null, .null, .ref q1, .ref q3, .ref q5, .null, .null])), (q1, .inl (dA 5, 40, .inr (.inr (.inr (.inr g2))))), (q3, .inl (dA 5, 40, .inr (.inr (.inr (.inr g4))))), (q5, .inl (dA 0, 40, .inl (fun _ => 0))), (q6, .inr (12, [.null, .null, .null, .int 0, .int 0]))] := hD
  refine lv_dup hx hb dX6_init_40 rfl ?_
  refine kq_IN (As := []) (rest := [.ref q6, .ref h0]) (wr := [(h0, .inr (10, [.null, .null, .null, .null, .null, .ref q1, .ref q3, .ref q5, .null, .null])), (q1, .inl (dA 5, 40, .inr (.inr (.inr (.inr g2))))), (q3, .inl (dA 5, 40, .inr (.inr (.inr (.inr g4))))), (q5, .inl (dA 0, 40, .inl (fun _ => 0)))]) hx hb hml hown hgw hK hG hA hP hD hS (c_X8_init l hfl D dA tE tC q6) n_m8 m_1_140 m_1_4 m_1_141 rfl hd_X8_init rfl rfl ⟨(Nat.le_of_ble_eq_true rfl), (Nat.le_of_ble_eq_true rfl)⟩ [4] [0, 1, 2, 3] rfl rfl rfl rfl (by decide) hl.1 rfl (Nat.le_of_ble_eq_true rfl) dX6_init_41 ⟨(Nat.le_of_ble_eq_true rfl), (Nat.le_of_ble_eq_true rfl)⟩ (fun v w1 H locs hQ hP hD hS => ?_)
  obtain ⟨q7, q8, q9, rfl, rfl⟩ := hQ
  refine W.eq (g2 := F0 m 44 ls [.ref q6, .ref h0]) rfl ?_
  have hP : va_P D vwCl [(h0, .inr (10, [.null, .null, .null, .null, .null, .ref q1, .ref q3, .ref q5, .null, .null])), (q1, .inl (dA 5, 40, .inr (.inr (.inr (.inr g2))))), (q3, .inl (dA 5, 40, .inr (.inr (.inr (.inr g4))))), (q5, .inl (dA 0, 40, .inl (fun _ => 0))), (q6, .inr (12, [.ref q7, .ref q8, .ref q9, .int 0, .int 0]))] H := hP
  have hD : va_D A [(h0, .inr (10, [.null, .null, .null, .null, .null, .ref q1, .ref q3, .ref q5, .null, .null])), (q1, .inl (dA 5, 40, .inr (.inr (.inr (.inr g2))))), (q3, .inl (dA 5, 40, .inr (.inr (.inr (.inr g4))))), (q5, .inl (dA 0, 40, .inl (fun _ => 0))), (q6, .inr (12, [.ref q7, .ref q8, .ref q9, .int 0, .int 0]))] := hD
  refine va_putF (D := D) (ci := 10) (v := .ref q6) (ty := .object "Blazonry$Picture") (C := RX6) (T := TX6) (N := 10) hx hb hgw in_X6 tyX6 tyX6_ok nmX6 hown hK hP hD hS 0 rfl rfl 8 (by decide) (hgw _ m_3_41) (fun _ h9 => h9) rfl hnm rfl (by decide +kernel) rfl rfl (Nat.le_of_ble_eq_true rfl) dX6_init_44 (fun H locs hP hD hS => ?_)
  have hP : va_P D vwCl [(h0, .inr (10, [.null, .null, .null, .null, .null, .ref q1, .ref q3, .ref q5, .ref q6, .null])), (q1, .inl (dA 5, 40, .inr (.inr (.inr (.inr g2))))), (q3, .inl (dA 5, 40, .inr (.inr (.inr (.inr g4))))), (q5, .inl (dA 0, 40, .inl (fun _ => 0))), (q6, .inr (12, [.ref q7, .ref q8, .ref q9, .int 0, .int 0]))] H := hP
  have hD : va_D A [(h0, .inr (10, [.null, .null, .null, .null, .null, .ref q1, .ref q3, .ref q5, .ref q6, .null])), (q1, .inl (dA 5, 40, .inr (.inr (.inr (.inr g2))))), (q3, .inl (dA 5, 40, .inr (.inr (.inr (.inr g4))))), (q5, .inl (dA 0, 40, .inl (fun _ => 0))), (q6, .inr (12, [.ref q7, .ref q8, .ref q9, .int 0, .int 0]))] := hD
  refine lv_aload_n hx hb dX6_init_47 rfl (lv_at hl 0 rfl) ?_
  refine va_new (ci := 12) (fs := [.null, .null, .null, .int 0, .int 0]) (C := RX8) (T := TX8) (N := 5) hx hb hgw in_X8 tyX8 tyX8_ok hown (hgw _ m_3_31) (hgw _ m_1_138) (hgw _ m_1_4) hK hP hD hS hA rfl dv_X8 (Nat.le_of_ble_eq_true rfl) (Nat.le_of_ble_eq_true rfl) dX6_init_48 (fun q10 H hP hD hS => ?_)
  have hP : va_P D vwCl [(h0, .inr (10, [.null, .null, .null, .null, .null, .ref q1, .ref q3, .ref q5, .ref q6, .null])), (q1, .inl (dA 5, 40, .inr (.inr (.inr (.inr g2))))), (q3, .inl (dA 5, 40, .inr (.inr (.inr (.inr g4))))), (q5, .inl (dA 0, 40, .inl (fun _ => 0))), (q6, .inr (12, [.ref q7, .ref q8, .ref q9, .int 0, .int 0])), (q10, .inr (12, [.null, .null, .null, .int 0, .int 0]))] H := hP
  have hD : va_D A [(h0, .inr (10, [.null, .null, .null, .null, .null, .ref q1, .ref q3, .ref q5, .ref q6, .null])), (q1, .inl (dA 5, 40, .inr (.inr (.inr (.inr g2))))), (q3, .inl (dA 5, 40, .inr (.inr (.inr (.inr g4))))), (q5, .inl (dA 0, 40, .inl (fun _ => 0))), (q6, .inr (12, [.ref q7, .ref q8, .ref q9, .int 0, .int 0])), (q10, .inr (12, [.null, .null, .null, .int 0, .int 0]))] := hD
  refine lv_dup hx hb dX6_init_51 rfl ?_
  refine kq_IN (As := []) (rest := [.ref q10, .ref h0]) (wr := [(h0, .inr (10, [.null, .null, .null, .null, .null, .ref q1, .ref q3, .ref q5, .ref q6, .null])), (q1, .inl (dA 5, 40, .inr (.inr (.inr (.inr g2))))), (q3, .inl (dA 5, 40, .inr (.inr (.inr (.inr g4))))), (q5, .inl (dA 0, 40, .inl (fun _ => 0))), (q6, .inr (12, [.ref q7, .ref q8, .ref q9, .int 0, .int 0]))]) hx hb hml hown hgw hK hG hA hP hD hS (c_X8_init l hfl D dA tE tC q10) n_m8 m_1_140 m_1_4 m_1_141 rfl hd_X8_init rfl rfl ⟨(Nat.le_of_ble_eq_true rfl), (Nat.le_of_ble_eq_true rfl)⟩ [5] [0, 1, 2, 3, 4] rfl rfl rfl rfl (by decide) hl.1 rfl (Nat.le_of_ble_eq_true rfl) dX6_init_52 ⟨(Nat.le_of_ble_eq_true rfl), (Nat.le_of_ble_eq_true rfl)⟩ (fun v w1 H locs hQ hP hD hS => ?_)
  obtain ⟨q11, q12, q13, rfl, rfl⟩ := hQ
  refine W.eq (g2 := F0 m 55 ls [.ref q10, .ref h0]) rfl ?_
  have hP : va_P D vwCl [(h0, .inr (10, [.null, .null, .null, .null, .null, .ref q1, .ref q3, .ref q5, .ref q6, .null])), (q1, .inl (dA 5, 40, .inr (.inr (.inr (.inr g2))))), (q3, .inl (dA 5, 40, .inr (.inr (.inr (.inr g4))))), (q5, .inl (dA 0, 40, .inl (fun _ => 0))), (q6, .inr (12, [.ref q7, .ref q8, .ref q9, .int 0, .int 0])), (q10, .inr (12, [.ref q11, .ref q12, .ref q13, .int 0, .int 0]))] H := hP
  have hD : va_D A [(h0, .inr (10, [.null, .null, .null, .null, .null, .ref q1, .ref q3, .ref q5, .ref q6, .null])), (q1, .inl (dA 5, 40, .inr (.inr (.inr (.inr g2))))), (q3, .inl (dA 5, 40, .inr (.inr (.inr (.inr g4))))), (q5, .inl (dA 0, 40, .inl (fun _ => 0))), (q6, .inr (12, [.ref q7, .ref q8, .ref q9, .int 0, .int 0])), (q10, .inr (12, [.ref q11, .ref q12, .ref q13, .int 0, .int 0]))] := hD
  refine va_putF (D := D) (ci := 10) (v := .ref q10) (ty := .object "Blazonry$Picture") (C := RX6) (T := TX6) (N := 10) hx hb hgw in_X6 tyX6 tyX6_ok nmX6 hown hK hP hD hS 0 rfl rfl 9 (by decide) (hgw _ m_3_42) (fun _ h9 => h9) rfl hnm rfl (by decide +kernel) rfl rfl (Nat.le_of_ble_eq_true rfl) dX6_init_55 (fun H locs hP hD hS => ?_)
  have hP : va_P D vwCl [(h0, .inr (10, [.null, .null, .null, .null, .null, .ref q1, .ref q3, .ref q5, .ref q6, .ref q10])), (q1, .inl (dA 5, 40, .inr (.inr (.inr (.inr g2))))), (q3, .inl (dA 5, 40, .inr (.inr (.inr (.inr g4))))), (q5, .inl (dA 0, 40, .inl (fun _ => 0))), (q6, .inr (12, [.ref q7, .ref q8, .ref q9, .int 0, .int 0])), (q10, .inr (12, [.ref q11, .ref q12, .ref q13, .int 0, .int 0]))] H := hP
  have hD : va_D A [(h0, .inr (10, [.null, .null, .null, .null, .null, .ref q1, .ref q3, .ref q5, .ref q6, .ref q10])), (q1, .inl (dA 5, 40, .inr (.inr (.inr (.inr g2))))), (q3, .inl (dA 5, 40, .inr (.inr (.inr (.inr g4))))), (q5, .inl (dA 0, 40, .inl (fun _ => 0))), (q6, .inr (12, [.ref q7, .ref q8, .ref q9, .int 0, .int 0])), (q10, .inr (12, [.ref q11, .ref q12, .ref q13, .int 0, .int 0]))] := hD
  refine lv_aload_n hx hb dX6_init_58 rfl (lv_at hl 0 rfl) ?_
  refine lv_aload_n hx hb dX6_init_59 rfl (lv_at hl 1 rfl) ?_
  refine va_putF (D := D) (ci := 10) (v := .ref h1) (ty := .object "Blazonry$Kin") (C := RX6) (T := TX6) (N := 10) hx hb hgw in_X6 tyX6 tyX6_ok nmX6 hown hK hP hD hS 0 rfl rfl 0 (by decide) (hgw _ m_3_33) (fun _ h9 => h9) rfl hnm rfl (by decide +kernel) rfl rfl (Nat.le_of_ble_eq_true rfl) dX6_init_60 (fun H locs hP hD hS => ?_)
  have hP : va_P D vwCl [(h0, .inr (10, [.ref h1, .null, .null, .null, .null, .ref q1, .ref q3, .ref q5, .ref q6, .ref q10])), (q1, .inl (dA 5, 40, .inr (.inr (.inr (.inr g2))))), (q3, .inl (dA 5, 40, .inr (.inr (.inr (.inr g4))))), (q5, .inl (dA 0, 40, .inl (fun _ => 0))), (q6, .inr (12, [.ref q7, .ref q8, .ref q9, .int 0, .int 0])), (q10, .inr (12, [.ref q11, .ref q12, .ref q13, .int 0, .int 0]))] H := hP
  have hD : va_D A [(h0, .inr (10, [.ref h1, .null, .null, .null, .null, .ref q1, .ref q3, .ref q5, .ref q6, .ref q10])), (q1, .inl (dA 5, 40, .inr (.inr (.inr (.inr g2))))), (q3, .inl (dA 5, 40, .inr (.inr (.inr (.inr g4))))), (q5, .inl (dA 0, 40, .inl (fun _ => 0))), (q6, .inr (12, [.ref q7, .ref q8, .ref q9, .int 0, .int 0])), (q10, .inr (12, [.ref q11, .ref q12, .ref q13, .int 0, .int 0]))] := hD
  refine lv_aload_n hx hb dX6_init_63 rfl (lv_at hl 0 rfl) ?_
  refine lv_aload_n hx hb dX6_init_64 rfl (lv_at hl 2 rfl) ?_
  refine va_putF (D := D) (ci := 10) (v := .ref h2) (ty := .object "Blazonry$Roll") (C := RX6) (T := TX6) (N := 10) hx hb hgw in_X6 tyX6 tyX6_ok nmX6 hown hK hP hD hS 0 rfl rfl 1 (by decide) (hgw _ m_3_34) (fun _ h9 => h9) rfl hnm rfl (by decide +kernel) rfl rfl (Nat.le_of_ble_eq_true rfl) dX6_init_65 (fun H locs hP hD hS => ?_)
  have hP : va_P D vwCl [(h0, .inr (10, [.ref h1, .ref h2, .null, .null, .null, .ref q1, .ref q3, .ref q5, .ref q6, .ref q10])), (q1, .inl (dA 5, 40, .inr (.inr (.inr (.inr g2))))), (q3, .inl (dA 5, 40, .inr (.inr (.inr (.inr g4))))), (q5, .inl (dA 0, 40, .inl (fun _ => 0))), (q6, .inr (12, [.ref q7, .ref q8, .ref q9, .int 0, .int 0])), (q10, .inr (12, [.ref q11, .ref q12, .ref q13, .int 0, .int 0]))] H := hP
  have hD : va_D A [(h0, .inr (10, [.ref h1, .ref h2, .null, .null, .null, .ref q1, .ref q3, .ref q5, .ref q6, .ref q10])), (q1, .inl (dA 5, 40, .inr (.inr (.inr (.inr g2))))), (q3, .inl (dA 5, 40, .inr (.inr (.inr (.inr g4))))), (q5, .inl (dA 0, 40, .inl (fun _ => 0))), (q6, .inr (12, [.ref q7, .ref q8, .ref q9, .int 0, .int 0])), (q10, .inr (12, [.ref q11, .ref q12, .ref q13, .int 0, .int 0]))] := hD
  refine lv_aload_n hx hb dX6_init_68 rfl (lv_at hl 0 rfl) ?_
  refine lv_aload_n hx hb dX6_init_69 rfl (lv_at hl 3 rfl) ?_
  refine va_putF (D := D) (ci := 10) (v := .ref h3) (ty := .object "Blazonry$Bearing") (C := RX6) (T := TX6) (N := 10) hx hb hgw in_X6 tyX6 tyX6_ok nmX6 hown hK hP hD hS 0 rfl rfl 2 (by decide) (hgw _ m_3_35) (fun _ h9 => h9) rfl hnm rfl (by decide +kernel) rfl rfl (Nat.le_of_ble_eq_true rfl) dX6_init_70 (fun H locs hP hD hS => ?_)
  have hP : va_P D vwCl [(h0, .inr (10, [.ref h1, .ref h2, .ref h3, .null, .null, .ref q1, .ref q3, .ref q5, .ref q6, .ref q10])), (q1, .inl (dA 5, 40, .inr (.inr (.inr (.inr g2))))), (q3, .inl (dA 5, 40, .inr (.inr (.inr (.inr g4))))), (q5, .inl (dA 0, 40, .inl (fun _ => 0))), (q6, .inr (12, [.ref q7, .ref q8, .ref q9, .int 0, .int 0])), (q10, .inr (12, [.ref q11, .ref q12, .ref q13, .int 0, .int 0]))] H := hP
  have hD : va_D A [(h0, .inr (10, [.ref h1, .ref h2, .ref h3, .null, .null, .ref q1, .ref q3, .ref q5, .ref q6, .ref q10])), (q1, .inl (dA 5, 40, .inr (.inr (.inr (.inr g2))))), (q3, .inl (dA 5, 40, .inr (.inr (.inr (.inr g4))))), (q5, .inl (dA 0, 40, .inl (fun _ => 0))), (q6, .inr (12, [.ref q7, .ref q8, .ref q9, .int 0, .int 0])), (q10, .inr (12, [.ref q11, .ref q12, .ref q13, .int 0, .int 0]))] := hD
  refine lv_aload_n hx hb dX6_init_73 rfl (lv_at hl 0 rfl) ?_
  refine lv_aload hx hb dX6_init_74 (lv_at hl 4 rfl) ?_
  refine va_putF (D := D) (ci := 10) (v := .ref h4) (ty := .object "Blazonry$Honours") (C := RX6) (T := TX6) (N := 10) hx hb hgw in_X6 tyX6 tyX6_ok nmX6 hown hK hP hD hS 0 rfl rfl 3 (by decide) (hgw _ m_3_36) (fun _ h9 => h9) rfl hnm rfl (by decide +kernel) rfl rfl (Nat.le_of_ble_eq_true rfl) dX6_init_76 (fun H locs hP hD hS => ?_)
  have hP : va_P D vwCl [(h0, .inr (10, [.ref h1, .ref h2, .ref h3, .ref h4, .null, .ref q1, .ref q3, .ref q5, .ref q6, .ref q10])), (q1, .inl (dA 5, 40, .inr (.inr (.inr (.inr g2))))), (q3, .inl (dA 5, 40, .inr (.inr (.inr (.inr g4))))), (q5, .inl (dA 0, 40, .inl (fun _ => 0))), (q6, .inr (12, [.ref q7, .ref q8, .ref q9, .int 0, .int 0])), (q10, .inr (12, [.ref q11, .ref q12, .ref q13, .int 0, .int 0]))] H := hP
  have hD : va_D A [(h0, .inr (10, [.ref h1, .ref h2, .ref h3, .ref h4, .null, .ref q1, .ref q3, .ref q5, .ref q6, .ref q10])), (q1, .inl (dA 5, 40, .inr (.inr (.inr (.inr g2))))), (q3, .inl (dA 5, 40, .inr (.inr (.inr (.inr g4))))), (q5, .inl (dA 0, 40, .inl (fun _ => 0))), (q6, .inr (12, [.ref q7, .ref q8, .ref q9, .int 0, .int 0])), (q10, .inr (12, [.ref q11, .ref q12, .ref q13, .int 0, .int 0]))] := hD
  refine lv_aload_n hx hb dX6_init_79 rfl (lv_at hl 0 rfl) ?_
  refine lv_aload hx hb dX6_init_80 (lv_at hl 5 rfl) ?_
  refine va_putF (D := D) (ci := 10) (v := .ref h5) (ty := .object "Blazonry$Painter") (C := RX6) (T := TX6) (N := 10) hx hb hgw in_X6 tyX6 tyX6_ok nmX6 hown hK hP hD hS 0 rfl rfl 4 (by decide) (hgw _ m_3_37) (fun _ h9 => h9) rfl hnm rfl (by decide +kernel) rfl rfl (Nat.le_of_ble_eq_true rfl) dX6_init_82 (fun H locs hP hD hS => ?_)
  have hP : va_P D vwCl [(h0, .inr (10, [.ref h1, .ref h2, .ref h3, .ref h4, .ref h5, .ref q1, .ref q3, .ref q5, .ref q6, .ref q10])), (q1, .inl (dA 5, 40, .inr (.inr (.inr (.inr g2))))), (q3, .inl (dA 5, 40, .inr (.inr (.inr (.inr g4))))), (q5, .inl (dA 0, 40, .inl (fun _ => 0))), (q6, .inr (12, [.ref q7, .ref q8, .ref q9, .int 0, .int 0])), (q10, .inr (12, [.ref q11, .ref q12, .ref q13, .int 0, .int 0]))] H := hP
  have hD : va_D A [(h0, .inr (10, [.ref h1, .ref h2, .ref h3, .ref h4, .ref h5, .ref q1, .ref q3, .ref q5, .ref q6, .ref q10])), (q1, .inl (dA 5, 40, .inr (.inr (.inr (.inr g2))))), (q3, .inl (dA 5, 40, .inr (.inr (.inr (.inr g4))))), (q5, .inl (dA 0, 40, .inl (fun _ => 0))), (q6, .inr (12, [.ref q7, .ref q8, .ref q9, .int 0, .int 0])), (q10, .inr (12, [.ref q11, .ref q12, .ref q13, .int 0, .int 0]))] := hD
  have hP9 := hP.sub (ws' := [(h0, .inr (10, [.ref h1, .ref h2, .ref h3, .ref h4, .ref h5, .ref q1, .ref q3, .ref q5, .ref q6, .ref q10])), (q5, .inl (dA 0, 40, .inl (fun _ => 0)))]) [0, 3] rfl
  have hD9 := hD.sub (ws' := [(h0, .inr (10, [.ref h1, .ref h2, .ref h3, .ref h4, .ref h5, .ref q1, .ref q3, .ref q5, .ref q6, .ref q10])), (q5, .inl (dA 0, 40, .inl (fun _ => 0)))]) [0, 3] (by decide) rfl
  exact (kq_vret hx hb hr hlocks hS ⟨q5, q1, q3, q6, q10, rfl, rfl⟩ hP9 hD9 (Nat.le_of_ble_eq_true rfl) (Nat.le_of_ble_eq_true rfl) dX6_init_85)
set_option maxHeartbeats 4000000 in
set_option maxRecDepth 100000 in
theorem c_X2_init (l : Launch) (hfl : l.stackTraces = false) (D : va_G) (dA : Nat → ClassId) (tE tC : Nat) (h0 : Nat) (h1 : Nat) (h2 : Nat) : Ct l D dA tE tC yX2_init (Cond.code yX2_init cX2_init 3 none :: gW) ({ frames := 1, cells := 9, slots := 180, locals := 12 } : Room) [.ref h0, .ref h1, .ref h2] [(h0, .inr (6, [.null, .null, .null, .null, .null, .null, .null, .null, .null, .null, .null, .int 0, .int 0]))] (fun v w1 => (∃ (q1 : Nat), ∃ (q2 : Nat), ∃ (q3 : Nat), ∃ (q4 : Nat), ∃ (q5 : Nat), ∃ (q6 : Nat), ∃ (q7 : Nat), ∃ (q8 : Nat), ∃ (q9 : Nat), v = none ∧ w1 = [(h0, .inr (6, [.ref h1, .ref h2, .ref q1, .ref q2, .ref q3, .ref q4, .ref q5, .ref q6, .ref q7, .ref q8, .ref q9, .int 0, .int 0]))])) 9 180 := by
  refine Ct_of (by decide) (Nat.le_of_ble_eq_true rfl) ?_
  intro p e s m below meth c hx hb hr hml hown hnm hlocks hgw hK A hG hA hP hD ls hl
  have hl : lv_has ls 3 [(0, .ref h0), (1, .ref h1), (2, .ref h2)] := hl
  have hS : va_S A s.heap s.heap [] := va_S.rf
  refine lv_aload_n hx hb dX2_init_0 rfl (lv_at hl 0 rfl) ?_
  refine W.objInit hx hb hown (hgw _ m_3_69) (hgw _ m_1_49) (hgw _ m_1_50) rfl (hl.1.trans hml.symm) rfl dX2_init_1 (Nat.le_of_ble_eq_true rfl) (Nat.le_of_ble_eq_true rfl) ?_
  refine W.eq (g2 := F0 m 4 ls []) rfl ?_
  refine lv_aload_n hx hb dX2_init_4 rfl (lv_at hl 0 rfl) ?_
  refine lv_bipush (v := 20) hx hb dX2_init_5 (by decide +kernel) ?_
  refine kq_newa hx hb 0 rfl rfl hgw m_1_136 hK hP hD hS hA (N' := 20) (a0 := (20, .inl (fun _ => 0))) (fun _ => rfl) (by decide +kernel) (by decide +kernel) (Nat.le_of_ble_eq_true rfl) (Nat.le_of_ble_eq_true rfl) (Nat.le_of_ble_eq_true rfl) dX2_init_7 (fun q1 H hP hD hS => ?_)
  have hP : va_P D vwCl [(h0, .inr (6, [.null, .null, .null, .null, .null, .null, .null, .null, .null, .null, .null, .int 0, .int 0])), (q1, .inl (dA 0, 20, .inl (fun _ => 0)))] H := hP
  have hD : va_D A [(h0, .inr (6, [.null, .null, .null, .null, .null, .null, .null, .null, .null, .null, .null, .int 0, .int 0])), (q1, .inl (dA 0, 20, .inl (fun _ => 0)))] := hD
  refine va_putF (D := D) (ci := 6) (v := .ref q1) (ty := .array .int) (C := RX2) (T := TX2) (N := 13) hx hb hgw in_X2 tyX2 tyX2_ok nmX2 hown hK hP hD hS 0 rfl rfl 2 (by decide) (hgw _ m_3_72) (fun _ h9 => h9) rfl hnm rfl (by decide +kernel) rfl rfl (Nat.le_of_ble_eq_true rfl) dX2_init_9 (fun H locs hP hD hS => ?_)
  have hP : va_P D vwCl [(h0, .inr (6, [.null, .null, .ref q1, .null, .null, .null, .null, .null, .null, .null, .null, .int 0, .int 0])), (q1, .inl (dA 0, 20, .inl (fun _ => 0)))] H := hP
  have hD : va_D A [(h0, .inr (6, [.null, .null, .ref q1, .null, .null, .null, .null, .null, .null, .null, .null, .int 0, .int 0])), (q1, .inl (dA 0, 20, .inl (fun _ => 0)))] := hD
  refine lv_aload_n hx hb dX2_init_12 rfl (lv_at hl 0 rfl) ?_
  refine lv_bipush (v := 20) hx hb dX2_init_13 (by decide +kernel) ?_
  refine kq_newa hx hb 0 rfl rfl hgw m_1_136 hK hP hD hS hA (N' := 20) (a0 := (20, .inl (fun _ => 0))) (fun _ => rfl) (by decide +kernel) (by decide +kernel) (Nat.le_of_ble_eq_true rfl) (Nat.le_of_ble_eq_true rfl) (Nat.le_of_ble_eq_true rfl) dX2_init_15 (fun q2 H hP hD hS => ?_)
  have hP : va_P D vwCl [(h0, .inr (6, [.null, .null, .ref q1, .null, .null, .null, .null, .null, .null, .null, .null, .int 0, .int 0])), (q1, .inl (dA 0, 20, .inl (fun _ => 0))), (q2, .inl (dA 0, 20, .inl (fun _ => 0)))] H := hP
  have hD : va_D A [(h0, .inr (6, [.null, .null, .ref q1, .null, .null, .null, .null, .null, .null, .null, .null, .int 0, .int 0])), (q1, .inl (dA 0, 20, .inl (fun _ => 0))), (q2, .inl (dA 0, 20, .inl (fun _ => 0)))] := hD
  refine va_putF (D := D) (ci := 6) (v := .ref q2) (ty := .array .int) (C := RX2) (T := TX2) (N := 13) hx hb hgw in_X2 tyX2 tyX2_ok nmX2 hown hK hP hD hS 0 rfl rfl 3 (by decide) (hgw _ m_3_73) (fun _ h9 => h9) rfl hnm rfl (by decide +kernel) rfl rfl (Nat.le_of_ble_eq_true rfl) dX2_init_17 (fun H locs hP hD hS => ?_)
  have hP : va_P D vwCl [(h0, .inr (6, [.null, .null, .ref q1, .ref q2, .null, .null, .null, .null, .null, .null, .null, .int 0, .int 0])), (q1, .inl (dA 0, 20, .inl (fun _ => 0))), (q2, .inl (dA 0, 20, .inl (fun _ => 0)))] H := hP
  have hD : va_D A [(h0, .inr (6, [.null, .null, .ref q1, .ref q2, .null, .null, .null, .null, .null, .null, .null, .int 0, .int 0])), (q1, .inl (dA 0, 20, .inl (fun _ => 0))), (q2, .inl (dA 0, 20, .inl (fun _ => 0)))] := hD
  refine lv_aload_n hx hb dX2_init_20 rfl (lv_at hl 0 rfl) ?_
  refine lv_bipush (v := 20) hx hb dX2_init_21 (by decide +kernel) ?_
  refine kq_newa hx hb 0 rfl rfl hgw m_1_136 hK hP hD hS hA (N' := 20) (a0 := (20, .inl (fun _ => 0))) (fun _ => rfl) (by decide +kernel) (by decide +kernel) (Nat.le_of_ble_eq_true rfl) (Nat.le_of_ble_eq_true rfl) (Nat.le_of_ble_eq_true rfl) dX2_init_23 (fun q3 H hP hD hS => ?_)
  have hP : va_P D vwCl [(h0, .inr (6, [.null, .null, .ref q1, .ref q2, .null, .null, .null, .null, .null, .null, .null, .int 0, .int 0])), (q1, .inl (dA 0, 20, .inl (fun _ => 0))), (q2, .inl (dA 0, 20, .inl (fun _ => 0))), (q3, .inl (dA 0, 20, .inl (fun _ => 0)))] H := hP
  have hD : va_D A [(h0, .inr (6, [.null, .null, .ref q1, .ref q2, .null, .null, .null, .null, .null, .null, .null, .int 0, .int 0])), (q1, .inl (dA 0, 20, .inl (fun _ => 0))), (q2, .inl (dA 0, 20, .inl (fun _ => 0))), (q3, .inl (dA 0, 20, .inl (fun _ => 0)))] := hD
  refine va_putF (D := D) (ci := 6) (v := .ref q3) (ty := .array .int) (C := RX2) (T := TX2) (N := 13) hx hb hgw in_X2 tyX2 tyX2_ok nmX2 hown hK hP hD hS 0 rfl rfl 4 (by decide) (hgw _ m_3_74) (fun _ h9 => h9) rfl hnm rfl (by decide +kernel) rfl rfl (Nat.le_of_ble_eq_true rfl) dX2_init_25 (fun H locs hP hD hS => ?_)
  have hP : va_P D vwCl [(h0, .inr (6, [.null, .null, .ref q1, .ref q2, .ref q3, .null, .null, .null, .null, .null, .null, .int 0, .int 0])), (q1, .inl (dA 0, 20, .inl (fun _ => 0))), (q2, .inl (dA 0, 20, .inl (fun _ => 0))), (q3, .inl (dA 0, 20, .inl (fun _ => 0)))] H := hP
  have hD : va_D A [(h0, .inr (6, [.null, .null, .ref q1, .ref q2, .ref q3, .null, .null, .null, .null, .null, .null, .int 0, .int 0])), (q1, .inl (dA 0, 20, .inl (fun _ => 0))), (q2, .inl (dA 0, 20, .inl (fun _ => 0))), (q3, .inl (dA 0, 20, .inl (fun _ => 0)))] := hD
  refine lv_aload_n hx hb dX2_init_28 rfl (lv_at hl 0 rfl) ?_
  refine lv_bipush (v := 20) hx hb dX2_init_29 (by decide +kernel) ?_
  refine kq_newa hx hb 0 rfl rfl hgw m_1_136 hK hP hD hS hA (N' := 20) (a0 := (20, .inl (fun _ => 0))) (fun _ => rfl) (by decide +kernel) (by decide +kernel) (Nat.le_of_ble_eq_true rfl) (Nat.le_of_ble_eq_true rfl) (Nat.le_of_ble_eq_true rfl) dX2_init_31 (fun q4 H hP hD hS => ?_)
  have hP : va_P D vwCl [(h0, .inr (6, [.null, .null, .ref q1, .ref q2, .ref q3, .null, .null, .null, .null, .null, .null, .int 0, .int 0])), (q1, .inl (dA 0, 20, .inl (fun _ => 0))), (q2, .inl (dA 0, 20, .inl (fun _ => 0))), (q3, .inl (dA 0, 20, .inl (fun _ => 0))), (q4, .inl (dA 0, 20, .inl (fun _ => 0)))] H := hP
  have hD : va_D A [(h0, .inr (6, [.null, .null, .ref q1, .ref q2, .ref q3, .null, .null, .null, .null, .null, .null, .int 0, .int 0])), (q1, .inl (dA 0, 20, .inl (fun _ => 0))), (q2, .inl (dA 0, 20, .inl (fun _ => 0))), (q3, .inl (dA 0, 20, .inl (fun _ => 0))), (q4, .inl (dA 0, 20, .inl (fun _ => 0)))] := hD
  refine va_putF (D := D) (ci := 6) (v := .ref q4) (ty := .array .int) (C := RX2) (T := TX2) (N := 13) hx hb hgw in_X2 tyX2 tyX2_ok nmX2 hown hK hP hD hS 0 rfl rfl 5 (by decide) (hgw _ m_3_75) (fun _ h9 => h9) rfl hnm rfl (by decide +kernel) rfl rfl (Nat.le_of_ble_eq_true rfl) dX2_init_33 (fun H locs hP hD hS => ?_)
  have hP : va_P D vwCl [(h0, .inr (6, [.null, .null, .ref q1, .ref q2, .ref q3, .ref q4, .null, .null, .null, .null, .null, .int 0, .int 0])), (q1, .inl (dA 0, 20, .inl (fun _ => 0))), (q2, .inl (dA 0, 20, .inl (fun _ => 0))), (q3, .inl (dA 0, 20, .inl (fun _ => 0))), (q4, .inl (dA 0, 20, .inl (fun _ => 0)))] H := hP
  have hD : va_D A [(h0, .inr (6, [.null, .null, .ref q1, .ref q2, .ref q3, .ref q4, .null, .null, .null, .null, .null, .int 0, .int 0])), (q1, .inl (dA 0, 20, .inl (fun _ => 0))), (q2, .inl (dA 0, 20, .inl (fun _ => 0))), (q3, .inl (dA 0, 20, .inl (fun _ => 0))), (q4, .inl (dA 0, 20, .inl (fun _ => 0)))] := hD
  refine lv_aload_n hx hb dX2_init_36 rfl (lv_at hl 0 rfl) ?_
  refine lv_bipush (v := 20) hx hb dX2_init_37 (by decide +kernel) ?_
  refine kq_newa hx hb 0 rfl rfl hgw m_1_136 hK hP hD hS hA (N' := 20) (a0 := (20, .inl (fun _ => 0))) (fun _ => rfl) (by decide +kernel) (by decide +kernel) (Nat.le_of_ble_eq_true rfl) (Nat.le_of_ble_eq_true rfl) (Nat.le_of_ble_eq_true rfl) dX2_init_39 (fun q5 H hP hD hS => ?_)
  have hP : va_P D vwCl [(h0, .inr (6, [.null, .null, .ref q1, .ref q2, .ref q3, .ref q4, .null, .null, .null, .null, .null, .int 0, .int 0])), (q1, .inl (dA 0, 20, .inl (fun _ => 0))), (q2, .inl (dA 0, 20, .inl (fun _ => 0))), (q3, .inl (dA 0, 20, .inl (fun _ => 0))), (q4, .inl (dA 0, 20, .inl (fun _ => 0))), (q5, .inl (dA 0, 20, .inl (fun _ => 0)))] H := hP
  have hD : va_D A [(h0, .inr (6, [.null, .null, .ref q1, .ref q2, .ref q3, .ref q4, .null, .null, .null, .null, .null, .int 0, .int 0])), (q1, .inl (dA 0, 20, .inl (fun _ => 0))), (q2, .inl (dA 0, 20, .inl (fun _ => 0))), (q3, .inl (dA 0, 20, .inl (fun _ => 0))), (q4, .inl (dA 0, 20, .inl (fun _ => 0))), (q5, .inl (dA 0, 20, .inl (fun _ => 0)))] := hD
  refine va_putF (D := D) (ci := 6) (v := .ref q5) (ty := .array .int) (C := RX2) (T := TX2) (N := 13) hx hb hgw in_X2 tyX2 tyX2_ok nmX2 hown hK hP hD hS 0 rfl rfl 6 (by decide) (hgw _ m_3_76) (fun _ h9 => h9) rfl hnm rfl (by decide +kernel) rfl rfl (Nat.le_of_ble_eq_true rfl) dX2_init_41 (fun H locs hP hD hS => ?_)
  have hP : va_P D vwCl [(h0, .inr (6, [.null, .null, .ref q1, .ref q2, .ref q3, .ref q4, .ref q5, .null, .null, .null, .null, .int 0, .int 0])), (q1, .inl (dA 0, 20, .inl (fun _ => 0))), (q2, .inl (dA 0, 20, .inl (fun _ => 0))), (q3, .inl (dA 0, 20, .inl (fun _ => 0))), (q4, .inl (dA 0, 20, .inl (fun _ => 0))), (q5, .inl (dA 0, 20, .inl (fun _ => 0)))] H := hP
  have hD : va_D A [(h0, .inr (6, [.null, .null, .ref q1, .ref q2, .ref q3, .ref q4, .ref q5, .null, .null, .null, .null, .int 0, .int 0])), (q1, .inl (dA 0, 20, .inl (fun _ => 0))), (q2, .inl (dA 0, 20, .inl (fun _ => 0))), (q3, .inl (dA 0, 20, .inl (fun _ => 0))), (q4, .inl (dA 0, 20, .inl (fun _ => 0))), (q5, .inl (dA 0, 20, .inl (fun _ => 0)))] := hD
  refine lv_aload_n hx hb dX2_init_44 rfl (lv_at hl 0 rfl) ?_
  refine lv_bipush (v := 20) hx hb dX2_init_45 (by decide +kernel) ?_
  refine kq_newa hx hb 2 rfl rfl hgw m_2_194 hK hP hD hS hA (N' := 20) (a0 := (20, .inl (fun _ => 0))) (fun _ => rfl) (by decide +kernel) (by decide +kernel) (Nat.le_of_ble_eq_true rfl) (Nat.le_of_ble_eq_true rfl) (Nat.le_of_ble_eq_true rfl) dX2_init_47 (fun q6 H hP hD hS => ?_)
  have hP : va_P D vwCl [(h0, .inr (6, [.null, .null, .ref q1, .ref q2, .ref q3, .ref q4, .ref q5, .null, .null, .null, .null, .int 0, .int 0])), (q1, .inl (dA 0, 20, .inl (fun _ => 0))), (q2, .inl (dA 0, 20, .inl (fun _ => 0))), (q3, .inl (dA 0, 20, .inl (fun _ => 0))), (q4, .inl (dA 0, 20, .inl (fun _ => 0))), (q5, .inl (dA 0, 20, .inl (fun _ => 0))), (q6, .inl (dA 2, 20, .inl (fun _ => 0)))] H := hP
  have hD : va_D A [(h0, .inr (6, [.null, .null, .ref q1, .ref q2, .ref q3, .ref q4, .ref q5, .null, .null, .null, .null, .int 0, .int 0])), (q1, .inl (dA 0, 20, .inl (fun _ => 0))), (q2, .inl (dA 0, 20, .inl (fun _ => 0))), (q3, .inl (dA 0, 20, .inl (fun _ => 0))), (q4, .inl (dA 0, 20, .inl (fun _ => 0))), (q5, .inl (dA 0, 20, .inl (fun _ => 0))), (q6, .inl (dA 2, 20, .inl (fun _ => 0)))] := hD
  refine va_putF (D := D) (ci := 6) (v := .ref q6) (ty := .array .char) (C := RX2) (T := TX2) (N := 13) hx hb hgw in_X2 tyX2 tyX2_ok nmX2 hown hK hP hD hS 0 rfl rfl 7 (by decide) (hgw _ m_3_77) (fun _ h9 => h9) rfl hnm rfl (by decide +kernel) rfl rfl (Nat.le_of_ble_eq_true rfl) dX2_init_49 (fun H locs hP hD hS => ?_)
  have hP : va_P D vwCl [(h0, .inr (6, [.null, .null, .ref q1, .ref q2, .ref q3, .ref q4, .ref q5, .ref q6, .null, .null, .null, .int 0, .int 0])), (q1, .inl (dA 0, 20, .inl (fun _ => 0))), (q2, .inl (dA 0, 20, .inl (fun _ => 0))), (q3, .inl (dA 0, 20, .inl (fun _ => 0))), (q4, .inl (dA 0, 20, .inl (fun _ => 0))), (q5, .inl (dA 0, 20, .inl (fun _ => 0))), (q6, .inl (dA 2, 20, .inl (fun _ => 0)))] H := hP
  have hD : va_D A [(h0, .inr (6, [.null, .null, .ref q1, .ref q2, .ref q3, .ref q4, .ref q5, .ref q6, .null, .null, .null, .int 0, .int 0])), (q1, .inl (dA 0, 20, .inl (fun _ => 0))), (q2, .inl (dA 0, 20, .inl (fun _ => 0))), (q3, .inl (dA 0, 20, .inl (fun _ => 0))), (q4, .inl (dA 0, 20, .inl (fun _ => 0))), (q5, .inl (dA 0, 20, .inl (fun _ => 0))), (q6, .inl (dA 2, 20, .inl (fun _ => 0)))] := hD
  refine lv_aload_n hx hb dX2_init_52 rfl (lv_at hl 0 rfl) ?_
  refine lv_bipush (v := 20) hx hb dX2_init_53 (by decide +kernel) ?_
  refine kq_newa hx hb 2 rfl rfl hgw m_2_194 hK hP hD hS hA (N' := 20) (a0 := (20, .inl (fun _ => 0))) (fun _ => rfl) (by decide +kernel) (by decide +kernel) (Nat.le_of_ble_eq_true rfl) (Nat.le_of_ble_eq_true rfl) (Nat.le_of_ble_eq_true rfl) dX2_init_55 (fun q7 H hP hD hS => ?_)
  have hP : va_P D vwCl [(h0, .inr (6, [.null, .null, .ref q1, .ref q2, .ref q3, .ref q4, .ref q5, .ref q6, .null, .null, .null, .int 0, .int 0])), (q1, .inl (dA 0, 20, .inl (fun _ => 0))), (q2, .inl (dA 0, 20, .inl (fun _ => 0))), (q3, .inl (dA 0, 20, .inl (fun _ => 0))), (q4, .inl (dA 0, 20, .inl (fun _ => 0))), (q5, .inl (dA 0, 20, .inl (fun _ => 0))), (q6, .inl (dA 2, 20, .inl (fun _ => 0))), (q7, .inl (dA 2, 20, .inl (fun _ => 0)))] H := hP
  have hD : va_D A [(h0, .inr (6, [.null, .null, .ref q1, .ref q2, .ref q3, .ref q4, .ref q5, .ref q6, .null, .null, .null, .int 0, .int 0])), (q1, .inl (dA 0, 20, .inl (fun _ => 0))), (q2, .inl (dA 0, 20, .inl (fun _ => 0))), (q3, .inl (dA 0, 20, .inl (fun _ => 0))), (q4, .inl (dA 0, 20, .inl (fun _ => 0))), (q5, .inl (dA 0, 20, .inl (fun _ => 0))), (q6, .inl (dA 2, 20, .inl (fun _ => 0))), (q7, .inl (dA 2, 20, .inl (fun _ => 0)))] := hD
  refine va_putF (D := D) (ci := 6) (v := .ref q7) (ty := .array .char) (C := RX2) (T := TX2) (N := 13) hx hb hgw in_X2 tyX2 tyX2_ok nmX2 hown hK hP hD hS 0 rfl rfl 8 (by decide) (hgw _ m_3_78) (fun _ h9 => h9) rfl hnm rfl (by decide +kernel) rfl rfl (Nat.le_of_ble_eq_true rfl) dX2_init_57 (fun H locs hP hD hS => ?_)
  have hP : va_P D vwCl [(h0, .inr (6, [.null, .null, .ref q1, .ref q2, .ref q3, .ref q4, .ref q5, .ref q6, .ref q7, .null, .null, .int 0, .int 0])), (q1, .inl (dA 0, 20, .inl (fun _ => 0))), (q2, .inl (dA 0, 20, .inl (fun _ => 0))), (q3, .inl (dA 0, 20, .inl (fun _ => 0))), (q4, .inl (dA 0, 20, .inl (fun _ => 0))), (q5, .inl (dA 0, 20, .inl (fun _ => 0))), (q6, .inl (dA 2, 20, .inl (fun _ => 0))), (q7, .inl (dA 2, 20, .inl (fun _ => 0)))] H := hP
  have hD : va_D A [(h0, .inr (6, [.null, .null, .ref q1, .ref q2, .ref q3, .ref q4, .ref q5, .ref q6, .ref q7, .null, .null, .int 0, .int 0])), (q1, .inl (dA 0, 20, .inl (fun _ => 0))), (q2, .inl (dA 0, 20, .inl (fun _ => 0))), (q3, .inl (dA 0, 20, .inl (fun _ => 0))), (q4, .inl (dA 0, 20, .inl (fun _ => 0))), (q5, .inl (dA 0, 20, .inl (fun _ => 0))), (q6, .inl (dA 2, 20, .inl (fun _ => 0))), (q7, .inl (dA 2, 20, .inl (fun _ => 0)))] := hD
  refine lv_aload_n hx hb dX2_init_60 rfl (lv_at hl 0 rfl) ?_
  refine lv_bipush (v := 20) hx hb dX2_init_61 (by decide +kernel) ?_
  refine kq_newa hx hb 1 rfl rfl hgw m_2_140 hK hP hD hS hA (N' := 20) (a0 := (20, .inl (fun _ => 0))) (fun _ => rfl) (by decide +kernel) (by decide +kernel) (Nat.le_of_ble_eq_true rfl) (Nat.le_of_ble_eq_true rfl) (Nat.le_of_ble_eq_true rfl) dX2_init_63 (fun q8 H hP hD hS => ?_)
  have hP : va_P D vwCl [(h0, .inr (6, [.null, .null, .ref q1, .ref q2, .ref q3, .ref q4, .ref q5, .ref q6, .ref q7, .null, .null, .int 0, .int 0])), (q1, .inl (dA 0, 20, .inl (fun _ => 0))), (q2, .inl (dA 0, 20, .inl (fun _ => 0))), (q3, .inl (dA 0, 20, .inl (fun _ => 0))), (q4, .inl (dA 0, 20, .inl (fun _ => 0))), (q5, .inl (dA 0, 20, .inl (fun _ => 0))), (q6, .inl (dA 2, 20, .inl (fun _ => 0))), (q7, .inl (dA 2, 20, .inl (fun _ => 0))), (q8, .inl (dA 1, 20, .inl (fun _ => 0)))] H := hP
  have hD : va_D A [(h0, .inr (6, [.null, .null, .ref q1, .ref q2, .ref q3, .ref q4, .ref q5, .ref q6, .ref q7, .null, .null, .int 0, .int 0])), (q1, .inl (dA 0, 20, .inl (fun _ => 0))), (q2, .inl (dA 0, 20, .inl (fun _ => 0))), (q3, .inl (dA 0, 20, .inl (fun _ => 0))), (q4, .inl (dA 0, 20, .inl (fun _ => 0))), (q5, .inl (dA 0, 20, .inl (fun _ => 0))), (q6, .inl (dA 2, 20, .inl (fun _ => 0))), (q7, .inl (dA 2, 20, .inl (fun _ => 0))), (q8, .inl (dA 1, 20, .inl (fun _ => 0)))] := hD
  refine va_putF (D := D) (ci := 6) (v := .ref q8) (ty := .array .boolean) (C := RX2) (T := TX2) (N := 13) hx hb hgw in_X2 tyX2 tyX2_ok nmX2 hown hK hP hD hS 0 rfl rfl 9 (by decide) (hgw _ m_3_79) (fun _ h9 => h9) rfl hnm rfl (by decide +kernel) rfl rfl (Nat.le_of_ble_eq_true rfl) dX2_init_65 (fun H locs hP hD hS => ?_)
  have hP : va_P D vwCl [(h0, .inr (6, [.null, .null, .ref q1, .ref q2, .ref q3, .ref q4, .ref q5, .ref q6, .ref q7, .ref q8, .null, .int 0, .int 0])), (q1, .inl (dA 0, 20, .inl (fun _ => 0))), (q2, .inl (dA 0, 20, .inl (fun _ => 0))), (q3, .inl (dA 0, 20, .inl (fun _ => 0))), (q4, .inl (dA 0, 20, .inl (fun _ => 0))), (q5, .inl (dA 0, 20, .inl (fun _ => 0))), (q6, .inl (dA 2, 20, .inl (fun _ => 0))), (q7, .inl (dA 2, 20, .inl (fun _ => 0))), (q8, .inl (dA 1, 20, .inl (fun _ => 0)))] H := hP
  have hD : va_D A [(h0, .inr (6, [.null, .null, .ref q1, .ref q2, .ref q3, .ref q4, .ref q5, .ref q6, .ref q7, .ref q8, .null, .int 0, .int 0])), (q1, .inl (dA 0, 20, .inl (fun _ => 0))), (q2, .inl (dA 0, 20, .inl (fun _ => 0))), (q3, .inl (dA 0, 20, .inl (fun _ => 0))), (q4, .inl (dA 0, 20, .inl (fun _ => 0))), (q5, .inl (dA 0, 20, .inl (fun _ => 0))), (q6, .inl (dA 2, 20, .inl (fun _ => 0))), (q7, .inl (dA 2, 20, .inl (fun _ => 0))), (q8, .inl (dA 1, 20, .inl (fun _ => 0)))] := hD
  refine lv_aload_n hx hb dX2_init_68 rfl (lv_at hl 0 rfl) ?_
  refine lv_bipush (v := 20) hx hb dX2_init_69 (by decide +kernel) ?_
  refine kq_newa hx hb 1 rfl rfl hgw m_2_140 hK hP hD hS hA (N' := 20) (a0 := (20, .inl (fun _ => 0))) (fun _ => rfl) (by decide +kernel) (by decide +kernel) (Nat.le_of_ble_eq_true rfl) (Nat.le_of_ble_eq_true rfl) (Nat.le_of_ble_eq_true rfl) dX2_init_71 (fun q9 H hP hD hS => ?_)
  have hP : va_P D vwCl [(h0, .inr (6, [.null, .null, .ref q1, .ref q2, .ref q3, .ref q4, .ref q5, .ref q6, .ref q7, .ref q8, .null, .int 0, .int 0])), (q1, .inl (dA 0, 20, .inl (fun _ => 0))), (q2, .inl (dA 0, 20, .inl (fun _ => 0))), (q3, .inl (dA 0, 20, .inl (fun _ => 0))), (q4, .inl (dA 0, 20, .inl (fun _ => 0))), (q5, .inl (dA 0, 20, .inl (fun _ => 0))), (q6, .inl (dA 2, 20, .inl (fun _ => 0))), (q7, .inl (dA 2, 20, .inl (fun _ => 0))), (q8, .inl (dA 1, 20, .inl (fun _ => 0))), (q9, .inl (dA 1, 20, .inl (fun _ => 0)))] H := hP
  have hD : va_D A [(h0, .inr (6, [.null, .null, .ref q1, .ref q2, .ref q3, .ref q4, .ref q5, .ref q6, .ref q7, .ref q8, .null, .int 0, .int 0])), (q1, .inl (dA 0, 20, .inl (fun _ => 0))), (q2, .inl (dA 0, 20, .inl (fun _ => 0))), (q3, .inl (dA 0, 20, .inl (fun _ => 0))), (q4, .inl (dA 0, 20, .inl (fun _ => 0))), (q5, .inl (dA 0, 20, .inl (fun _ => 0))), (q6, .inl (dA 2, 20, .inl (fun _ => 0))), (q7, .inl (dA 2, 20, .inl (fun _ => 0))), (q8, .inl (dA 1, 20, .inl (fun _ => 0))), (q9, .inl (dA 1, 20, .inl (fun _ => 0)))] := hD
  refine va_putF (D := D) (ci := 6) (v := .ref q9) (ty := .array .boolean) (C := RX2) (T := TX2) (N := 13) hx hb hgw in_X2 tyX2 tyX2_ok nmX2 hown hK hP hD hS 0 rfl rfl 10 (by decide) (hgw _ m_3_80) (fun _ h9 => h9) rfl hnm rfl (by decide +kernel) rfl rfl (Nat.le_of_ble_eq_true rfl) dX2_init_73 (fun H locs hP hD hS => ?_)
  have hP : va_P D vwCl [(h0, .inr (6, [.null, .null, .ref q1, .ref q2, .ref q3, .ref q4, .ref q5, .ref q6, .ref q7, .ref q8, .ref q9, .int 0, .int 0])), (q1, .inl (dA 0, 20, .inl (fun _ => 0))), (q2, .inl (dA 0, 20, .inl (fun _ => 0))), (q3, .inl (dA 0, 20, .inl (fun _ => 0))), (q4, .inl (dA 0, 20, .inl (fun _ => 0))), (q5, .inl (dA 0, 20, .inl (fun _ => 0))), (q6, .inl (dA 2, 20, .inl (fun _ => 0))), (q7, .inl (dA 2, 20, .inl (fun _ => 0))), (q8, .inl (dA 1, 20, .inl (fun _ => 0))), (q9, .inl (dA 1, 20, .inl (fun _ => 0)))] H := hP
  have hD : va_D A [(h0, .inr (6, [.null, .null, .ref q1, .ref q2, .ref q3, .ref q4, .ref q5, .ref q6, .ref q7, .ref q8, .ref q9, .int 0, .int 0])), (q1, .inl (dA 0, 20, .inl (fun _ => 0))), (q2, .inl (dA 0, 20, .inl (fun _ => 0))), (q3, .inl (dA 0, 20, .inl (fun _ => 0))), (q4, .inl (dA 0, 20, .inl (fun _ => 0))), (q5, .inl (dA 0, 20, .inl (fun _ => 0))), (q6, .inl (dA 2, 20, .inl (fun _ => 0))), (q7, .inl (dA 2, 20, .inl (fun _ => 0))), (q8, .inl (dA 1, 20, .inl (fun _ => 0))), (q9, .inl (dA 1, 20, .inl (fun _ => 0)))] := hD
  refine lv_aload_n hx hb dX2_init_76 rfl (lv_at hl 0 rfl) ?_
  refine lv_aload_n hx hb dX2_init_77 rfl (lv_at hl 1 rfl) ?_
  refine va_putF (D := D) (ci := 6) (v := .ref h1) (ty := .object "Blazonry$Roll") (C := RX2) (T := TX2) (N := 13) hx hb hgw in_X2 tyX2 tyX2_ok nmX2 hown hK hP hD hS 0 rfl rfl 0 (by decide) (hgw _ m_3_70) (fun _ h9 => h9) rfl hnm rfl (by decide +kernel) rfl rfl (Nat.le_of_ble_eq_true rfl) dX2_init_78 (fun H locs hP hD hS => ?_)
  have hP : va_P D vwCl [(h0, .inr (6, [.ref h1, .null, .ref q1, .ref q2, .ref q3, .ref q4, .ref q5, .ref q6, .ref q7, .ref q8, .ref q9, .int 0, .int 0])), (q1, .inl (dA 0, 20, .inl (fun _ => 0))), (q2, .inl (dA 0, 20, .inl (fun _ => 0))), (q3, .inl (dA 0, 20, .inl (fun _ => 0))), (q4, .inl (dA 0, 20, .inl (fun _ => 0))), (q5, .inl (dA 0, 20, .inl (fun _ => 0))), (q6, .inl (dA 2, 20, .inl (fun _ => 0))), (q7, .inl (dA 2, 20, .inl (fun _ => 0))), (q8, .inl (dA 1, 20, .inl (fun _ => 0))), (q9, .inl (dA 1, 20, .inl (fun _ => 0)))] H := hP
  have hD : va_D A [(h0, .inr (6, [.ref h1, .null, .ref q1, .ref q2, .ref q3, .ref q4, .ref q5, .ref q6, .ref q7, .ref q8, .ref q9, .int 0, .int 0])), (q1, .inl (dA 0, 20, .inl (fun _ => 0))), (q2, .inl (dA 0, 20, .inl (fun _ => 0))), (q3, .inl (dA 0, 20, .inl (fun _ => 0))), (q4, .inl (dA 0, 20, .inl (fun _ => 0))), (q5, .inl (dA 0, 20, .inl (fun _ => 0))), (q6, .inl (dA 2, 20, .inl (fun _ => 0))), (q7, .inl (dA 2, 20, .inl (fun _ => 0))), (q8, .inl (dA 1, 20, .inl (fun _ => 0))), (q9, .inl (dA 1, 20, .inl (fun _ => 0)))] := hD
  refine lv_aload_n hx hb dX2_init_81 rfl (lv_at hl 0 rfl) ?_
  refine lv_aload_n hx hb dX2_init_82 rfl (lv_at hl 2 rfl) ?_
  refine va_putF (D := D) (ci := 6) (v := .ref h2) (ty := .object "Blazonry$Bearing") (C := RX2) (T := TX2) (N := 13) hx hb hgw in_X2 tyX2 tyX2_ok nmX2 hown hK hP hD hS 0 rfl rfl 1 (by decide) (hgw _ m_3_71) (fun _ h9 => h9) rfl hnm rfl (by decide +kernel) rfl rfl (Nat.le_of_ble_eq_true rfl) dX2_init_83 (fun H locs hP hD hS => ?_)
  have hP : va_P D vwCl [(h0, .inr (6, [.ref h1, .ref h2, .ref q1, .ref q2, .ref q3, .ref q4, .ref q5, .ref q6, .ref q7, .ref q8, .ref q9, .int 0, .int 0])), (q1, .inl (dA 0, 20, .inl (fun _ => 0))), (q2, .inl (dA 0, 20, .inl (fun _ => 0))), (q3, .inl (dA 0, 20, .inl (fun _ => 0))), (q4, .inl (dA 0, 20, .inl (fun _ => 0))), (q5, .inl (dA 0, 20, .inl (fun _ => 0))), (q6, .inl (dA 2, 20, .inl (fun _ => 0))), (q7, .inl (dA 2, 20, .inl (fun _ => 0))), (q8, .inl (dA 1, 20, .inl (fun _ => 0))), (q9, .inl (dA 1, 20, .inl (fun _ => 0)))] H := hP
  have hD : va_D A [(h0, .inr (6, [.ref h1, .ref h2, .ref q1, .ref q2, .ref q3, .ref q4, .ref q5, .ref q6, .ref q7, .ref q8, .ref q9, .int 0, .int 0])), (q1, .inl (dA 0, 20, .inl (fun _ => 0))), (q2, .inl (dA 0, 20, .inl (fun _ => 0))), (q3, .inl (dA 0, 20, .inl (fun _ => 0))), (q4, .inl (dA 0, 20, .inl (fun _ => 0))), (q5, .inl (dA 0, 20, .inl (fun _ => 0))), (q6, .inl (dA 2, 20, .inl (fun _ => 0))), (q7, .inl (dA 2, 20, .inl (fun _ => 0))), (q8, .inl (dA 1, 20, .inl (fun _ => 0))), (q9, .inl (dA 1, 20, .inl (fun _ => 0)))] := hD
  have hP9 := hP.sub (ws' := [(h0, .inr (6, [.ref h1, .ref h2, .ref q1, .ref q2, .ref q3, .ref q4, .ref q5, .ref q6, .ref q7, .ref q8, .ref q9, .int 0, .int 0]))]) [0] rfl
  have hD9 := hD.sub (ws' := [(h0, .inr (6, [.ref h1, .ref h2, .ref q1, .ref q2, .ref q3, .ref q4, .ref q5, .ref q6, .ref q7, .ref q8, .ref q9, .int 0, .int 0]))]) [0] (by decide) rfl
  exact (kq_vret hx hb hr hlocks hS ⟨q1, q2, q3, q4, q5, q6, q7, q8, q9, rfl, rfl⟩ hP9 hD9 (Nat.le_of_ble_eq_true rfl) (Nat.le_of_ble_eq_true rfl) dX2_init_86)
set_option maxHeartbeats 4000000 in
set_option maxRecDepth 100000 in
theorem c_J7_fill_53178 (l : Launch) (hfl : l.stackTraces = false) (D : va_G) (dA : Nat → ClassId) (tE tC : Nat) (h0 : Nat) : Ct l D dA tE tC yJ7_fill_53178 (Cond.code yJ7_fill_53178 cJ7_fill_53178 4 none :: gW) ({ frames := 0, cells := 0, slots := 0, locals := 0 } : Room) [.ref h0, .int 0] [(h0, .inl (dA 0, 24, .inl (fun _ => 0)))] (fun v w1 => (∃ (g8 : Nat → Int32), v = none ∧ w1 = [(h0, .inl (dA 0, 24, .inl g8))])) 0 0 := by
  refine Ct_of (by decide) (Nat.le_of_ble_eq_true rfl) ?_
  intro p e s m below meth c hx hb hr hml hown hnm hlocks hgw hK A hG hA hP hD ls hl
  have hl : lv_has ls 4 [(0, .ref h0), (1, .int 0)] := hl
  have hS : va_S A s.heap s.heap [] := va_S.rf
  refine lv_iconst (v := 0) hx hb dJ7_fill_53178_0 (by decide) ?_
  refine lv_istore_n (lv' := [(2, .int 0), (0, .ref h0), (1, .int 0)]) hx hb dJ7_fill_53178_1 rfl hl (by decide) rfl (fun ls hl => ?_)
  refine lv_aload_n hx hb dJ7_fill_53178_2 rfl (lv_at hl 1 rfl) ?_
  refine va_alen (v := 24) hx hb hK hP 0 0 rfl rfl (by show Int32.ofNat 24 = 24; decide +kernel) dJ7_fill_53178_3 ?_
  refine lv_istore_n (lv' := [(3, .int 24), (2, .int 0), (0, .ref h0), (1, .int 0)]) hx hb dJ7_fill_53178_4 rfl hl (by decide) rfl (fun ls hl => ?_)
  refine lv_iload_n hx hb dJ7_fill_53178_5 rfl (lv_at hl 1 rfl) ?_
  refine lv_iload_n hx hb dJ7_fill_53178_6 rfl (lv_at hl 0 rfl) ?_
  refine lv_icmp_ge (tgt := 20) hx hb dJ7_fill_53178_7 (by decide) (fun h => absurd h (by decide +kernel)) (fun _ => ?_)
  refine lv_aload_n hx hb dJ7_fill_53178_10 rfl (lv_at hl 2 rfl) ?_
  refine lv_iload_n hx hb dJ7_fill_53178_11 rfl (lv_at hl 1 rfl) ?_
  refine lv_iload_n hx hb dJ7_fill_53178_12 rfl (lv_at hl 3 rfl) ?_
  refine kq_iast (k := 0) hx hb hK hP hD hS 0 0 rfl rfl (kq_in (by decide +kernel)) (by decide +kernel) dJ7_fill_53178_13 (fun H locs hP hD hS => ?_)
  have hP : va_P D vwCl [(h0, .inl (dA 0, 24, .inl (upd (fun _ => 0) 0 0)))] H := hP
  have hD : va_D A [(h0, .inl (dA 0, 24, .inl (upd (fun _ => 0) 0 0)))] := hD
  refine lv_iinc (v := 1) (lv' := [(2, .int 1), (3, .int 24), (0, .ref h0), (1, .int 0)]) hx hb dJ7_fill_53178_14 hl (k := 1) rfl (by decide +kernel) (by decide) rfl (fun ls hl => ?_)
  refine lv_goto (tgt := 5) hx hb dJ7_fill_53178_17 (by decide) ?_
  refine lv_iload_n hx hb dJ7_fill_53178_5 rfl (lv_at hl 0 rfl) ?_
  refine lv_iload_n hx hb dJ7_fill_53178_6 rfl (lv_at hl 1 rfl) ?_
  refine lv_icmp_ge (tgt := 20) hx hb dJ7_fill_53178_7 (by decide) (fun h => absurd h (by decide +kernel)) (fun _ => ?_)
  refine lv_aload_n hx hb dJ7_fill_53178_10 rfl (lv_at hl 2 rfl) ?_
  refine lv_iload_n hx hb dJ7_fill_53178_11 rfl (lv_at hl 0 rfl) ?_
  refine lv_iload_n hx hb dJ7_fill_53178_12 rfl (lv_at hl 3 rfl) ?_
  refine kq_iast (k := 1) hx hb hK hP hD hS 0 0 rfl rfl (kq_in (by decide +kernel)) (by decide +kernel) dJ7_fill_53178_13 (fun H locs hP hD hS => ?_)
  have hP : va_P D vwCl [(h0, .inl (dA 0, 24, .inl (upd (upd (fun _ => 0) 0 0) 1 0)))] H := hP
  have hD : va_D A [(h0, .inl (dA 0, 24, .inl (upd (upd (fun _ => 0) 0 0) 1 0)))] := hD
  refine lv_iinc (v := 2) (lv' := [(2, .int 2), (3, .int 24), (0, .ref h0), (1, .int 0)]) hx hb dJ7_fill_53178_14 hl (k := 0) rfl (by decide +kernel) (by decide) rfl (fun ls hl => ?_)
  refine lv_goto (tgt := 5) hx hb dJ7_fill_53178_17 (by decide) ?_
  refine lv_iload_n hx hb dJ7_fill_53178_5 rfl (lv_at hl 0 rfl) ?_
  refine lv_iload_n hx hb dJ7_fill_53178_6 rfl (lv_at hl 1 rfl) ?_
  refine lv_icmp_ge (tgt := 20) hx hb dJ7_fill_53178_7 (by decide) (fun h => absurd h (by decide +kernel)) (fun _ => ?_)
  refine lv_aload_n hx hb dJ7_fill_53178_10 rfl (lv_at hl 2 rfl) ?_
  refine lv_iload_n hx hb dJ7_fill_53178_11 rfl (lv_at hl 0 rfl) ?_
  refine lv_iload_n hx hb dJ7_fill_53178_12 rfl (lv_at hl 3 rfl) ?_
  refine kq_iast (k := 2) hx hb hK hP hD hS 0 0 rfl rfl (kq_in (by decide +kernel)) (by decide +kernel) dJ7_fill_53178_13 (fun H locs hP hD hS => ?_)
  obtain ⟨g1, hP, hD⟩ : ∃ g1 : Nat → Int32, va_P D vwCl [(h0, .inl (dA 0, 24, .inl g1))] H ∧ va_D A [(h0, .inl (dA 0, 24, .inl g1))] := ⟨(upd (upd (upd (fun _ => 0) 0 0) 1 0) 2 0), hP, hD⟩
  refine lv_iinc (v := 3) (lv' := [(2, .int 3), (3, .int 24), (0, .ref h0), (1, .int 0)]) hx hb dJ7_fill_53178_14 hl (k := 0) rfl (by decide +kernel) (by decide) rfl (fun ls hl => ?_)
  refine lv_goto (tgt := 5) hx hb dJ7_fill_53178_17 (by decide) ?_
  refine lv_iload_n hx hb dJ7_fill_53178_5 rfl (lv_at hl 0 rfl) ?_
  refine lv_iload_n hx hb dJ7_fill_53178_6 rfl (lv_at hl 1 rfl) ?_
  refine lv_icmp_ge (tgt := 20) hx hb dJ7_fill_53178_7 (by decide) (fun h => absurd h (by decide +kernel)) (fun _ => ?_)
  refine lv_aload_n hx hb dJ7_fill_53178_10 rfl (lv_at hl 2 rfl) ?_
  refine lv_iload_n hx hb dJ7_fill_53178_11 rfl (lv_at hl 0 rfl) ?_
  refine lv_iload_n hx hb dJ7_fill_53178_12 rfl (lv_at hl 3 rfl) ?_
  refine kq_iast (k := 3) hx hb hK hP hD hS 0 0 rfl rfl (kq_in (by decide +kernel)) (by decide +kernel) dJ7_fill_53178_13 (fun H locs hP hD hS => ?_)
  have hP : va_P D vwCl [(h0, .inl (dA 0, 24, .inl (upd g1 3 0)))] H := hP
  have hD : va_D A [(h0, .inl (dA 0, 24, .inl (upd g1 3 0)))] := hD
  refine lv_iinc (v := 4) (lv' := [(2, .int 4), (3, .int 24), (0, .ref h0), (1, .int 0)]) hx hb dJ7_fill_53178_14 hl (k := 0) rfl (by decide +kernel) (by decide) rfl (fun ls hl => ?_)
  refine lv_goto (tgt := 5) hx hb dJ7_fill_53178_17 (by decide) ?_
  refine lv_iload_n hx hb dJ7_fill_53178_5 rfl (lv_at hl 0 rfl) ?_
  refine lv_iload_n hx hb dJ7_fill_53178_6 rfl (lv_at hl 1 rfl) ?_
  refine lv_icmp_ge (tgt := 20) hx hb dJ7_fill_53178_7 (by decide) (fun h => absurd h (by decide +kernel)) (fun _ => ?_)
  refine lv_aload_n hx hb dJ7_fill_53178_10 rfl (lv_at hl 2 rfl) ?_
  refine lv_iload_n hx hb dJ7_fill_53178_11 rfl (lv_at hl 0 rfl) ?_
  refine lv_iload_n hx hb dJ7_fill_53178_12 rfl (lv_at hl 3 rfl) ?_
  refine kq_iast (k := 4) hx hb hK hP hD hS 0 0 rfl rfl (kq_in (by decide +kernel)) (by decide +kernel) dJ7_fill_53178_13 (fun H locs hP hD hS => ?_)
  have hP : va_P D vwCl [(h0, .inl (dA 0, 24, .inl (upd (upd g1 3 0) 4 0)))] H := hP
  have hD : va_D A [(h0, .inl (dA 0, 24, .inl (upd (upd g1 3 0) 4 0)))] := hD
  refine lv_iinc (v := 5) (lv' := [(2, .int 5), (3, .int 24), (0, .ref h0), (1, .int 0)]) hx hb dJ7_fill_53178_14 hl (k := 0) rfl (by decide +kernel) (by decide) rfl (fun ls hl => ?_)
  refine lv_goto (tgt := 5) hx hb dJ7_fill_53178_17 (by decide) ?_
  refine lv_iload_n hx hb dJ7_fill_53178_5 rfl (lv_at hl 0 rfl) ?_
  refine lv_iload_n hx hb dJ7_fill_53178_6 rfl (lv_at hl 1 rfl) ?_
  refine lv_icmp_ge (tgt := 20) hx hb dJ7_fill_53178_7 (by decide) (fun h => absurd h (by decide +kernel)) (fun _ => ?_)
  refine lv_aload_n hx hb dJ7_fill_53178_10 rfl (lv_at hl 2 rfl) ?_
  refine lv_iload_n hx hb dJ7_fill_53178_11 rfl (lv_at hl 0 rfl) ?_
  refine lv_iload_n hx hb dJ7_fill_53178_12 rfl (lv_at hl 3 rfl) ?_
  refine kq_iast (k := 5) hx hb hK hP hD hS 0 0 rfl rfl (kq_in (by decide +kernel)) (by decide +kernel) dJ7_fill_53178_13 (fun H locs hP hD hS => ?_)
  obtain ⟨g2, hP, hD⟩ : ∃ g2 : Nat → Int32, va_P D vwCl [(h0, .inl (dA 0, 24, .inl g2))] H ∧ va_D A [(h0, .inl (dA 0, 24, .inl g2))] := ⟨(upd (upd (upd g1 3 0) 4 0) 5 0), hP, hD⟩
  refine lv_iinc (v := 6) (lv' := [(2, .int 6), (3, .int 24), (0, .ref h0), (1, .int 0)]) hx hb dJ7_fill_53178_14 hl (k := 0) rfl (by decide +kernel) (by decide) rfl (fun ls hl => ?_)
  refine lv_goto (tgt := 5) hx hb dJ7_fill_53178_17 (by decide) ?_
  refine lv_iload_n hx hb dJ7_fill_53178_5 rfl (lv_at hl 0 rfl) ?_
  refine lv_iload_n hx hb dJ7_fill_53178_6 rfl (lv_at hl 1 rfl) ?_
  refine lv_icmp_ge (tgt := 20) hx hb dJ7_fill_53178_7 (by decide) (fun h => absurd h (by decide +kernel)) (fun _ => ?_)
  refine lv_aload_n hx hb dJ7_fill_53178_10 rfl (lv_at hl 2 rfl) ?_
  refine lv_iload_n hx hb dJ7_fill_53178_11 rfl (lv_at hl 0 rfl) ?_
  refine lv_iload_n hx hb dJ7_fill_53178_12 rfl (lv_at hl 3 rfl) ?_
  refine kq_iast (k := 6) hx hb hK hP hD hS 0 0 rfl rfl (kq_in (by decide +kernel)) (by decide +kernel) dJ7_fill_53178_13 (fun H locs hP hD hS => ?_)
  have hP : va_P D vwCl [(h0, .inl (dA 0, 24, .inl (upd g2 6 0)))] H := hP
  have hD : va_D A [(h0, .inl (dA 0, 24, .inl (upd g2 6 0)))] := hD
  refine lv_iinc (v := 7) (lv' := [(2, .int 7), (3, .int 24), (0, .ref h0), (1, .int 0)]) hx hb dJ7_fill_53178_14 hl (k := 0) rfl (by decide +kernel) (by decide) rfl (fun ls hl => ?_)
  refine lv_goto (tgt := 5) hx hb dJ7_fill_53178_17 (by decide) ?_
  refine lv_iload_n hx hb dJ7_fill_53178_5 rfl (lv_at hl 0 rfl) ?_
  refine lv_iload_n hx hb dJ7_fill_53178_6 rfl (lv_at hl 1 rfl) ?_
  refine lv_icmp_ge (tgt := 20) hx hb dJ7_fill_53178_7 (by decide) (fun h => absurd h (by decide +kernel)) (fun _ => ?_)
  refine lv_aload_n hx hb dJ7_fill_53178_10 rfl (lv_at hl 2 rfl) ?_
  refine lv_iload_n hx hb dJ7_fill_53178_11 rfl (lv_at hl 0 rfl) ?_
  refine lv_iload_n hx hb dJ7_fill_53178_12 rfl (lv_at hl 3 rfl) ?_
  refine kq_iast (k := 7) hx hb hK hP hD hS 0 0 rfl rfl (kq_in (by decide +kernel)) (by decide +kernel) dJ7_fill_53178_13 (fun H locs hP hD hS => ?_)
  have hP : va_P D vwCl [(h0, .inl (dA 0, 24, .inl (upd (upd g2 6 0) 7 0)))] H := hP
  have hD : va_D A [(h0, .inl (dA 0, 24, .inl (upd (upd g2 6 0) 7 0)))] := hD
  refine lv_iinc (v := 8) (lv' := [(2, .int 8), (3, .int 24), (0, .ref h0), (1, .int 0)]) hx hb dJ7_fill_53178_14 hl (k := 0) rfl (by decide +kernel) (by decide) rfl (fun ls hl => ?_)
  refine lv_goto (tgt := 5) hx hb dJ7_fill_53178_17 (by decide) ?_
  refine lv_iload_n hx hb dJ7_fill_53178_5 rfl (lv_at hl 0 rfl) ?_
  refine lv_iload_n hx hb dJ7_fill_53178_6 rfl (lv_at hl 1 rfl) ?_
  refine lv_icmp_ge (tgt := 20) hx hb dJ7_fill_53178_7 (by decide) (fun h => absurd h (by decide +kernel)) (fun _ => ?_)
  refine lv_aload_n hx hb dJ7_fill_53178_10 rfl (lv_at hl 2 rfl) ?_
  refine lv_iload_n hx hb dJ7_fill_53178_11 rfl (lv_at hl 0 rfl) ?_
  refine lv_iload_n hx hb dJ7_fill_53178_12 rfl (lv_at hl 3 rfl) ?_
  refine kq_iast (k := 8) hx hb hK hP hD hS 0 0 rfl rfl (kq_in (by decide +kernel)) (by decide +kernel) dJ7_fill_53178_13 (fun H locs hP hD hS => ?_)
  obtain ⟨g3, hP, hD⟩ : ∃ g3 : Nat → Int32, va_P D vwCl [(h0, .inl (dA 0, 24, .inl g3))] H ∧ va_D A [(h0, .inl (dA 0, 24, .inl g3))] := ⟨(upd (upd (upd g2 6 0) 7 0) 8 0), hP, hD⟩
  refine lv_iinc (v := 9) (lv' := [(2, .int 9), (3, .int 24), (0, .ref h0), (1, .int 0)]) hx hb dJ7_fill_53178_14 hl (k := 0) rfl (by decide +kernel) (by decide) rfl (fun ls hl => ?_)
  refine lv_goto (tgt := 5) hx hb dJ7_fill_53178_17 (by decide) ?_
  refine lv_iload_n hx hb dJ7_fill_53178_5 rfl (lv_at hl 0 rfl) ?_
  refine lv_iload_n hx hb dJ7_fill_53178_6 rfl (lv_at hl 1 rfl) ?_
  refine lv_icmp_ge (tgt := 20) hx hb dJ7_fill_53178_7 (by decide) (fun h => absurd h (by decide +kernel)) (fun _ => ?_)
  refine lv_aload_n hx hb dJ7_fill_53178_10 rfl (lv_at hl 2 rfl) ?_
  refine lv_iload_n hx hb dJ7_fill_53178_11 rfl (lv_at hl 0 rfl) ?_
  refine lv_iload_n hx hb dJ7_fill_53178_12 rfl (lv_at hl 3 rfl) ?_
  refine kq_iast (k := 9) hx hb hK hP hD hS 0 0 rfl rfl (kq_in (by decide +kernel)) (by decide +kernel) dJ7_fill_53178_13 (fun H locs hP hD hS => ?_)
  have hP : va_P D vwCl [(h0, .inl (dA 0, 24, .inl (upd g3 9 0)))] H := hP
  have hD : va_D A [(h0, .inl (dA 0, 24, .inl (upd g3 9 0)))] := hD
  refine lv_iinc (v := 10) (lv' := [(2, .int 10), (3, .int 24), (0, .ref h0), (1, .int 0)]) hx hb dJ7_fill_53178_14 hl (k := 0) rfl (by decide +kernel) (by decide) rfl (fun ls hl => ?_)
  refine lv_goto (tgt := 5) hx hb dJ7_fill_53178_17 (by decide) ?_
  refine lv_iload_n hx hb dJ7_fill_53178_5 rfl (lv_at hl 0 rfl) ?_
  refine lv_iload_n hx hb dJ7_fill_53178_6 rfl (lv_at hl 1 rfl) ?_
  refine lv_icmp_ge (tgt := 20) hx hb dJ7_fill_53178_7 (by decide) (fun h => absurd h (by decide +kernel)) (fun _ => ?_)
  refine lv_aload_n hx hb dJ7_fill_53178_10 rfl (lv_at hl 2 rfl) ?_
  refine lv_iload_n hx hb dJ7_fill_53178_11 rfl (lv_at hl 0 rfl) ?_
  refine lv_iload_n hx hb dJ7_fill_53178_12 rfl (lv_at hl 3 rfl) ?_
  refine kq_iast (k := 10) hx hb hK hP hD hS 0 0 rfl rfl (kq_in (by decide +kernel)) (by decide +kernel) dJ7_fill_53178_13 (fun H locs hP hD hS => ?_)
  have hP : va_P D vwCl [(h0, .inl (dA 0, 24, .inl (upd (upd g3 9 0) 10 0)))] H := hP
  have hD : va_D A [(h0, .inl (dA 0, 24, .inl (upd (upd g3 9 0) 10 0)))] := hD
  refine lv_iinc (v := 11) (lv' := [(2, .int 11), (3, .int 24), (0, .ref h0), (1, .int 0)]) hx hb dJ7_fill_53178_14 hl (k := 0) rfl (by decide +kernel) (by decide) rfl (fun ls hl => ?_)
  refine lv_goto (tgt := 5) hx hb dJ7_fill_53178_17 (by decide) ?_
  refine lv_iload_n hx hb dJ7_fill_53178_5 rfl (lv_at hl 0 rfl) ?_
  refine lv_iload_n hx hb dJ7_fill_53178_6 rfl (lv_at hl 1 rfl) ?_
  refine lv_icmp_ge (tgt := 20) hx hb dJ7_fill_53178_7 (by decide) (fun h => absurd h (by decide +kernel)) (fun _ => ?_)
  refine lv_aload_n hx hb dJ7_fill_53178_10 rfl (lv_at hl 2 rfl) ?_
  refine lv_iload_n hx hb dJ7_fill_53178_11 rfl (lv_at hl 0 rfl) ?_
  refine lv_iload_n hx hb dJ7_fill_53178_12 rfl (lv_at hl 3 rfl) ?_
  refine kq_iast (k := 11) hx hb hK hP hD hS 0 0 rfl rfl (kq_in (by decide +kernel)) (by decide +kernel) dJ7_fill_53178_13 (fun H locs hP hD hS => ?_)
  obtain ⟨g4, hP, hD⟩ : ∃ g4 : Nat → Int32, va_P D vwCl [(h0, .inl (dA 0, 24, .inl g4))] H ∧ va_D A [(h0, .inl (dA 0, 24, .inl g4))] := ⟨(upd (upd (upd g3 9 0) 10 0) 11 0), hP, hD⟩
  refine lv_iinc (v := 12) (lv' := [(2, .int 12), (3, .int 24), (0, .ref h0), (1, .int 0)]) hx hb dJ7_fill_53178_14 hl (k := 0) rfl (by decide +kernel) (by decide) rfl (fun ls hl => ?_)
  refine lv_goto (tgt := 5) hx hb dJ7_fill_53178_17 (by decide) ?_
  refine lv_iload_n hx hb dJ7_fill_53178_5 rfl (lv_at hl 0 rfl) ?_
  refine lv_iload_n hx hb dJ7_fill_53178_6 rfl (lv_at hl 1 rfl) ?_
  refine lv_icmp_ge (tgt := 20) hx hb dJ7_fill_53178_7 (by decide) (fun h => absurd h (by decide +kernel)) (fun _ => ?_)
  refine lv_aload_n hx hb dJ7_fill_53178_10 rfl (lv_at hl 2 rfl) ?_
  refine lv_iload_n hx hb dJ7_fill_53178_11 rfl (lv_at hl 0 rfl) ?_
  refine lv_iload_n hx hb dJ7_fill_53178_12 rfl (lv_at hl 3 rfl) ?_
  refine kq_iast (k := 12) hx hb hK hP hD hS 0 0 rfl rfl (kq_in (by decide +kernel)) (by decide +kernel) dJ7_fill_53178_13 (fun H locs hP hD hS => ?_)
  have hP : va_P D vwCl [(h0, .inl (dA 0, 24, .inl (upd g4 12 0)))] H := hP
  have hD : va_D A [(h0, .inl (dA 0, 24, .inl (upd g4 12 0)))] := hD
  refine lv_iinc (v := 13) (lv' := [(2, .int 13), (3, .int 24), (0, .ref h0), (1, .int 0)]) hx hb dJ7_fill_53178_14 hl (k := 0) rfl (by decide +kernel) (by decide) rfl (fun ls hl => ?_)
  refine lv_goto (tgt := 5) hx hb dJ7_fill_53178_17 (by decide) ?_
  refine lv_iload_n hx hb dJ7_fill_53178_5 rfl (lv_at hl 0 rfl) ?_
  refine lv_iload_n hx hb dJ7_fill_53178_6 rfl (lv_at hl 1 rfl) ?_
  refine lv_icmp_ge (tgt := 20) hx hb dJ7_fill_53178_7 (by decide) (fun h => absurd h (by decide +kernel)) (fun _ => ?_)
  refine lv_aload_n hx hb dJ7_fill_53178_10 rfl (lv_at hl 2 rfl) ?_
  refine lv_iload_n hx hb dJ7_fill_53178_11 rfl (lv_at hl 0 rfl) ?_
  refine lv_iload_n hx hb dJ7_fill_53178_12 rfl (lv_at hl 3 rfl) ?_
  refine kq_iast (k := 13) hx hb hK hP hD hS 0 0 rfl rfl (kq_in (by decide +kernel)) (by decide +kernel) dJ7_fill_53178_13 (fun H locs hP hD hS => ?_)
  have hP : va_P D vwCl [(h0, .inl (dA 0, 24, .inl (upd (upd g4 12 0) 13 0)))] H := hP
  have hD : va_D A [(h0, .inl (dA 0, 24, .inl (upd (upd g4 12 0) 13 0)))] := hD
  refine lv_iinc (v := 14) (lv' := [(2, .int 14), (3, .int 24), (0, .ref h0), (1, .int 0)]) hx hb dJ7_fill_53178_14 hl (k := 0) rfl (by decide +kernel) (by decide) rfl (fun ls hl => ?_)
  refine lv_goto (tgt := 5) hx hb dJ7_fill_53178_17 (by decide) ?_
  refine lv_iload_n hx hb dJ7_fill_53178_5 rfl (lv_at hl 0 rfl) ?_
  refine lv_iload_n hx hb dJ7_fill_53178_6 rfl (lv_at hl 1 rfl) ?_
  refine lv_icmp_ge (tgt := 20) hx hb dJ7_fill_53178_7 (by decide) (fun h => absurd h (by decide +kernel)) (fun _ => ?_)
  refine lv_aload_n hx hb dJ7_fill_53178_10 rfl (lv_at hl 2 rfl) ?_
  refine lv_iload_n hx hb dJ7_fill_53178_11 rfl (lv_at hl 0 rfl) ?_
  refine lv_iload_n hx hb dJ7_fill_53178_12 rfl (lv_at hl 3 rfl) ?_
  refine kq_iast (k := 14) hx hb hK hP hD hS 0 0 rfl rfl (kq_in (by decide +kernel)) (by decide +kernel) dJ7_fill_53178_13 (fun H locs hP hD hS => ?_)
  obtain ⟨g5, hP, hD⟩ : ∃ g5 : Nat → Int32, va_P D vwCl [(h0, .inl (dA 0, 24, .inl g5))] H ∧ va_D A [(h0, .inl (dA 0, 24, .inl g5))] := ⟨(upd (upd (upd g4 12 0) 13 0) 14 0), hP, hD⟩
  refine lv_iinc (v := 15) (lv' := [(2, .int 15), (3, .int 24), (0, .ref h0), (1, .int 0)]) hx hb dJ7_fill_53178_14 hl (k := 0) rfl (by decide +kernel) (by decide) rfl (fun ls hl => ?_)
  refine lv_goto (tgt := 5) hx hb dJ7_fill_53178_17 (by decide) ?_
  refine lv_iload_n hx hb dJ7_fill_53178_5 rfl (lv_at hl 0 rfl) ?_
  refine lv_iload_n hx hb dJ7_fill_53178_6 rfl (lv_at hl 1 rfl) ?_
  refine lv_icmp_ge (tgt := 20) hx hb dJ7_fill_53178_7 (by decide) (fun h => absurd h (by decide +kernel)) (fun _ => ?_)
  refine lv_aload_n hx hb dJ7_fill_53178_10 rfl (lv_at hl 2 rfl) ?_
  refine lv_iload_n hx hb dJ7_fill_53178_11 rfl (lv_at hl 0 rfl) ?_
  refine lv_iload_n hx hb dJ7_fill_53178_12 rfl (lv_at hl 3 rfl) ?_
  refine kq_iast (k := 15) hx hb hK hP hD hS 0 0 rfl rfl (kq_in (by decide +kernel)) (by decide +kernel) dJ7_fill_53178_13 (fun H locs hP hD hS => ?_)
  have hP : va_P D vwCl [(h0, .inl (dA 0, 24, .inl (upd g5 15 0)))] H := hP
  have hD : va_D A [(h0, .inl (dA 0, 24, .inl (upd g5 15 0)))] := hD
  refine lv_iinc (v := 16) (lv' := [(2, .int 16), (3, .int 24), (0, .ref h0), (1, .int 0)]) hx hb dJ7_fill_53178_14 hl (k := 0) rfl (by decide +kernel) (by decide) rfl (fun ls hl => ?_)
  refine lv_goto (tgt := 5) hx hb dJ7_fill_53178_17 (by decide) ?_
  refine lv_iload_n hx hb dJ7_fill_53178_5 rfl (lv_at hl 0 rfl) ?_
  refine lv_iload_n hx hb dJ7_fill_53178_6 rfl (lv_at hl 1 rfl) ?_
  refine lv_icmp_ge (tgt := 20) hx hb dJ7_fill_53178_7 (by decide) (fun h => absurd h (by decide +kernel)) (fun _ => ?_)
  refine lv_aload_n hx hb dJ7_fill_53178_10 rfl (lv_at hl 2 rfl) ?_
  refine lv_iload_n hx hb dJ7_fill_53178_11 rfl (lv_at hl 0 rfl) ?_
  refine lv_iload_n hx hb dJ7_fill_53178_12 rfl (lv_at hl 3 rfl) ?_
  refine kq_iast (k := 16) hx hb hK hP hD hS 0 0 rfl rfl (kq_in (by decide +kernel)) (by decide +kernel) dJ7_fill_53178_13 (fun H locs hP hD hS => ?_)
  have hP : va_P D vwCl [(h0, .inl (dA 0, 24, .inl (upd (upd g5 15 0) 16 0)))] H := hP
  have hD : va_D A [(h0, .inl (dA 0, 24, .inl (upd (upd g5 15 0) 16 0)))] := hD
  refine lv_iinc (v := 17) (lv' := [(2, .int 17), (3, .int 24), (0, .ref h0), (1, .int 0)]) hx hb dJ7_fill_53178_14 hl (k := 0) rfl (by decide +kernel) (by decide) rfl (fun ls hl => ?_)
  refine lv_goto (tgt := 5) hx hb dJ7_fill_53178_17 (by decide) ?_
  refine lv_iload_n hx hb dJ7_fill_53178_5 rfl (lv_at hl 0 rfl) ?_
  refine lv_iload_n hx hb dJ7_fill_53178_6 rfl (lv_at hl 1 rfl) ?_
  refine lv_icmp_ge (tgt := 20) hx hb dJ7_fill_53178_7 (by decide) (fun h => absurd h (by decide +kernel)) (fun _ => ?_)
  refine lv_aload_n hx hb dJ7_fill_53178_10 rfl (lv_at hl 2 rfl) ?_
  refine lv_iload_n hx hb dJ7_fill_53178_11 rfl (lv_at hl 0 rfl) ?_
  refine lv_iload_n hx hb dJ7_fill_53178_12 rfl (lv_at hl 3 rfl) ?_
  refine kq_iast (k := 17) hx hb hK hP hD hS 0 0 rfl rfl (kq_in (by decide +kernel)) (by decide +kernel) dJ7_fill_53178_13 (fun H locs hP hD hS => ?_)
  obtain ⟨g6, hP, hD⟩ : ∃ g6 : Nat → Int32, va_P D vwCl [(h0, .inl (dA 0, 24, .inl g6))] H ∧ va_D A [(h0, .inl (dA 0, 24, .inl g6))] := ⟨(upd (upd (upd g5 15 0) 16 0) 17 0), hP, hD⟩
  refine lv_iinc (v := 18) (lv' := [(2, .int 18), (3, .int 24), (0, .ref h0), (1, .int 0)]) hx hb dJ7_fill_53178_14 hl (k := 0) rfl (by decide +kernel) (by decide) rfl (fun ls hl => ?_)
  refine lv_goto (tgt := 5) hx hb dJ7_fill_53178_17 (by decide) ?_
  refine lv_iload_n hx hb dJ7_fill_53178_5 rfl (lv_at hl 0 rfl) ?_
  refine lv_iload_n hx hb dJ7_fill_53178_6 rfl (lv_at hl 1 rfl) ?_
  refine lv_icmp_ge (tgt := 20) hx hb dJ7_fill_53178_7 (by decide) (fun h => absurd h (by decide +kernel)) (fun _ => ?_)
  refine lv_aload_n hx hb dJ7_fill_53178_10 rfl (lv_at hl 2 rfl) ?_
  refine lv_iload_n hx hb dJ7_fill_53178_11 rfl (lv_at hl 0 rfl) ?_
  refine lv_iload_n hx hb dJ7_fill_53178_12 rfl (lv_at hl 3 rfl) ?_
  refine kq_iast (k := 18) hx hb hK hP hD hS 0 0 rfl rfl (kq_in (by decide +kernel)) (by decide +kernel) dJ7_fill_53178_13 (fun H locs hP hD hS => ?_)
  have hP : va_P D vwCl [(h0, .inl (dA 0, 24, .inl (upd g6 18 0)))] H := hP
  have hD : va_D A [(h0, .inl (dA 0, 24, .inl (upd g6 18 0)))] := hD
  refine lv_iinc (v := 19) (lv' := [(2, .int 19), (3, .int 24), (0, .ref h0), (1, .int 0)]) hx hb dJ7_fill_53178_14 hl (k := 0) rfl (by decide +kernel) (by decide) rfl (fun ls hl => ?_)
  refine lv_goto (tgt := 5) hx hb dJ7_fill_53178_17 (by decide) ?_
  refine lv_iload_n hx hb dJ7_fill_53178_5 rfl (lv_at hl 0 rfl) ?_
  refine lv_iload_n hx hb dJ7_fill_53178_6 rfl (lv_at hl 1 rfl) ?_
  refine lv_icmp_ge (tgt := 20) hx hb dJ7_fill_53178_7 (by decide) (fun h => absurd h (by decide +kernel)) (fun _ => ?_)
  refine lv_aload_n hx hb dJ7_fill_53178_10 rfl (lv_at hl 2 rfl) ?_
  refine lv_iload_n hx hb dJ7_fill_53178_11 rfl (lv_at hl 0 rfl) ?_
  refine lv_iload_n hx hb dJ7_fill_53178_12 rfl (lv_at hl 3 rfl) ?_
  refine kq_iast (k := 19) hx hb hK hP hD hS 0 0 rfl rfl (kq_in (by decide +kernel)) (by decide +kernel) dJ7_fill_53178_13 (fun H locs hP hD hS => ?_)
  have hP : va_P D vwCl [(h0, .inl (dA 0, 24, .inl (upd (upd g6 18 0) 19 0)))] H := hP
  have hD : va_D A [(h0, .inl (dA 0, 24, .inl (upd (upd g6 18 0) 19 0)))] := hD
  refine lv_iinc (v := 20) (lv' := [(2, .int 20), (3, .int 24), (0, .ref h0), (1, .int 0)]) hx hb dJ7_fill_53178_14 hl (k := 0) rfl (by decide +kernel) (by decide) rfl (fun ls hl => ?_)
  refine lv_goto (tgt := 5) hx hb dJ7_fill_53178_17 (by decide) ?_
  refine lv_iload_n hx hb dJ7_fill_53178_5 rfl (lv_at hl 0 rfl) ?_
  refine lv_iload_n hx hb dJ7_fill_53178_6 rfl (lv_at hl 1 rfl) ?_
  refine lv_icmp_ge (tgt := 20) hx hb dJ7_fill_53178_7 (by decide) (fun h => absurd h (by decide +kernel)) (fun _ => ?_)
  refine lv_aload_n hx hb dJ7_fill_53178_10 rfl (lv_at hl 2 rfl) ?_
  refine lv_iload_n hx hb dJ7_fill_53178_11 rfl (lv_at hl 0 rfl) ?_
  refine lv_iload_n hx hb dJ7_fill_53178_12 rfl (lv_at hl 3 rfl) ?_
  refine kq_iast (k := 20) hx hb hK hP hD hS 0 0 rfl rfl (kq_in (by decide +kernel)) (by decide +kernel) dJ7_fill_53178_13 (fun H locs hP hD hS => ?_)
  obtain ⟨g7, hP, hD⟩ : ∃ g7 : Nat → Int32, va_P D vwCl [(h0, .inl (dA 0, 24, .inl g7))] H ∧ va_D A [(h0, .inl (dA 0, 24, .inl g7))] := ⟨(upd (upd (upd g6 18 0) 19 0) 20 0), hP, hD⟩
  refine lv_iinc (v := 21) (lv' := [(2, .int 21), (3, .int 24), (0, .ref h0), (1, .int 0)]) hx hb dJ7_fill_53178_14 hl (k := 0) rfl (by decide +kernel) (by decide) rfl (fun ls hl => ?_)
  refine lv_goto (tgt := 5) hx hb dJ7_fill_53178_17 (by decide) ?_
  refine lv_iload_n hx hb dJ7_fill_53178_5 rfl (lv_at hl 0 rfl) ?_
  refine lv_iload_n hx hb dJ7_fill_53178_6 rfl (lv_at hl 1 rfl) ?_
  refine lv_icmp_ge (tgt := 20) hx hb dJ7_fill_53178_7 (by decide) (fun h => absurd h (by decide +kernel)) (fun _ => ?_)
  refine lv_aload_n hx hb dJ7_fill_53178_10 rfl (lv_at hl 2 rfl) ?_
  refine lv_iload_n hx hb dJ7_fill_53178_11 rfl (lv_at hl 0 rfl) ?_
  refine lv_iload_n hx hb dJ7_fill_53178_12 rfl (lv_at hl 3 rfl) ?_
  refine kq_iast (k := 21) hx hb hK hP hD hS 0 0 rfl rfl (kq_in (by decide +kernel)) (by decide +kernel) dJ7_fill_53178_13 (fun H locs hP hD hS => ?_)
  have hP : va_P D vwCl [(h0, .inl (dA 0, 24, .inl (upd g7 21 0)))] H := hP
  have hD : va_D A [(h0, .inl (dA 0, 24, .inl (upd g7 21 0)))] := hD
  refine lv_iinc (v := 22) (lv' := [(2, .int 22), (3, .int 24), (0, .ref h0), (1, .int 0)]) hx hb dJ7_fill_53178_14 hl (k := 0) rfl (by decide +kernel) (by decide) rfl (fun ls hl => ?_)
  refine lv_goto (tgt := 5) hx hb dJ7_fill_53178_17 (by decide) ?_
  refine lv_iload_n hx hb dJ7_fill_53178_5 rfl (lv_at hl 0 rfl) ?_
  refine lv_iload_n hx hb dJ7_fill_53178_6 rfl (lv_at hl 1 rfl) ?_
  refine lv_icmp_ge (tgt := 20) hx hb dJ7_fill_53178_7 (by decide) (fun h => absurd h (by decide +kernel)) (fun _ => ?_)
  refine lv_aload_n hx hb dJ7_fill_53178_10 rfl (lv_at hl 2 rfl) ?_
  refine lv_iload_n hx hb dJ7_fill_53178_11 rfl (lv_at hl 0 rfl) ?_
  refine lv_iload_n hx hb dJ7_fill_53178_12 rfl (lv_at hl 3 rfl) ?_
  refine kq_iast (k := 22) hx hb hK hP hD hS 0 0 rfl rfl (kq_in (by decide +kernel)) (by decide +kernel) dJ7_fill_53178_13 (fun H locs hP hD hS => ?_)
  have hP : va_P D vwCl [(h0, .inl (dA 0, 24, .inl (upd (upd g7 21 0) 22 0)))] H := hP
  have hD : va_D A [(h0, .inl (dA 0, 24, .inl (upd (upd g7 21 0) 22 0)))] := hD
  refine lv_iinc (v := 23) (lv' := [(2, .int 23), (3, .int 24), (0, .ref h0), (1, .int 0)]) hx hb dJ7_fill_53178_14 hl (k := 0) rfl (by decide +kernel) (by decide) rfl (fun ls hl => ?_)
  refine lv_goto (tgt := 5) hx hb dJ7_fill_53178_17 (by decide) ?_
  refine lv_iload_n hx hb dJ7_fill_53178_5 rfl (lv_at hl 0 rfl) ?_
  refine lv_iload_n hx hb dJ7_fill_53178_6 rfl (lv_at hl 1 rfl) ?_
  refine lv_icmp_ge (tgt := 20) hx hb dJ7_fill_53178_7 (by decide) (fun h => absurd h (by decide +kernel)) (fun _ => ?_)
  refine lv_aload_n hx hb dJ7_fill_53178_10 rfl (lv_at hl 2 rfl) ?_
  refine lv_iload_n hx hb dJ7_fill_53178_11 rfl (lv_at hl 0 rfl) ?_
  refine lv_iload_n hx hb dJ7_fill_53178_12 rfl (lv_at hl 3 rfl) ?_
  refine kq_iast (k := 23) hx hb hK hP hD hS 0 0 rfl rfl (kq_in (by decide +kernel)) (by decide +kernel) dJ7_fill_53178_13 (fun H locs hP hD hS => ?_)
  obtain ⟨g8, hP, hD⟩ : ∃ g8 : Nat → Int32, va_P D vwCl [(h0, .inl (dA 0, 24, .inl g8))] H ∧ va_D A [(h0, .inl (dA 0, 24, .inl g8))] := ⟨(upd (upd (upd g7 21 0) 22 0) 23 0), hP, hD⟩
  refine lv_iinc (v := 24) (lv' := [(2, .int 24), (3, .int 24), (0, .ref h0), (1, .int 0)]) hx hb dJ7_fill_53178_14 hl (k := 0) rfl (by decide +kernel) (by decide) rfl (fun ls hl => ?_)
  refine lv_goto (tgt := 5) hx hb dJ7_fill_53178_17 (by decide) ?_
  refine lv_iload_n hx hb dJ7_fill_53178_5 rfl (lv_at hl 0 rfl) ?_
  refine lv_iload_n hx hb dJ7_fill_53178_6 rfl (lv_at hl 1 rfl) ?_
  refine lv_icmp_ge (tgt := 20) hx hb dJ7_fill_53178_7 (by decide) (fun _ => ?_) (fun h => absurd (by decide +kernel) h)
  have hP9 := hP.sub (ws' := [(h0, .inl (dA 0, 24, .inl g8))]) [0] rfl
  have hD9 := hD.sub (ws' := [(h0, .inl (dA 0, 24, .inl g8))]) [0] (by decide) rfl
  exact (kq_vret hx hb hr hlocks hS ⟨g8, rfl, rfl⟩ hP9 hD9 (Nat.le_of_ble_eq_true rfl) (Nat.le_of_ble_eq_true rfl) dJ7_fill_53178_20)
set_option maxHeartbeats 4000000 in
set_option maxRecDepth 100000 in
theorem c_X1_wordAt (l : Launch) (hfl : l.stackTraces = false) (D : va_G) (dA : Nat → ClassId) (tE tC : Nat) (h0 : Nat) (h1 : Nat) (h2 : Nat) (h3 : Nat) : Ct l D dA tE tC yX1_wordAt (Cond.code yX1_wordAt cX1_wordAt 2 (some .int) :: gW) ({ frames := 0, cells := 0, slots := 0, locals := 0 } : Room) [.ref h0, .int 0] [(h0, .inr (5, [.ref h1, .ref h2, .ref h3, .int 0, .int 0, .int 0, .int (-1), .int 0, .int 0, .int 0, .int 0, .int 0]))] (fun v w1 => (v = some (.int 0) ∧ w1 = [(h0, .inr (5, [.ref h1, .ref h2, .ref h3, .int 0, .int 0, .int 0, .int (-1), .int 0, .int 0, .int 0, .int 0, .int 0]))])) 0 0 := by
  refine Ct_of (by decide) (Nat.le_of_ble_eq_true rfl) ?_
  intro p e s m below meth c hx hb hr hml hown hnm hlocks hgw hK A hG hA hP hD ls hl
  have hl : lv_has ls 2 [(0, .ref h0), (1, .int 0)] := hl
  have hS : va_S A s.heap s.heap [] := va_S.rf
  refine lv_iload_n hx hb dX1_wordAt_0 rfl (lv_at hl 1 rfl) ?_
  refine lv_if_lt (tgt := 27) hx hb dX1_wordAt_1 (by decide) (fun h => absurd h (by decide +kernel)) (fun _ => ?_)
  refine lv_iload_n hx hb dX1_wordAt_4 rfl (lv_at hl 1 rfl) ?_
  refine lv_aload_n hx hb dX1_wordAt_5 rfl (lv_at hl 0 rfl) ?_
  refine va_get (D := D) (ci := 5) (v := .int 0) (C := RX1) (T := TX1) (N := 12) hx hb hgw in_X1 hown hK hP 0 rfl rfl 5 (by decide) (hgw _ m_2_5) (fun _ h9 => h9) rfl dX1_wordAt_6 ?_
  refine lv_icmp_ge (tgt := 27) hx hb dX1_wordAt_9 (by decide) (fun _ => ?_) (fun h => absurd (by decide +kernel) h)
  refine lv_iconst (v := 0) hx hb dX1_wordAt_27 (by decide) ?_
  have hP9 := hP.sub (ws' := [(h0, .inr (5, [.ref h1, .ref h2, .ref h3, .int 0, .int 0, .int 0, .int (-1), .int 0, .int 0, .int 0, .int 0, .int 0]))]) [0] rfl
  have hD9 := hD.sub (ws' := [(h0, .inr (5, [.ref h1, .ref h2, .ref h3, .int 0, .int 0, .int 0, .int (-1), .int 0, .int 0, .int 0, .int 0, .int 0]))]) [0] (by decide) rfl
  exact (kq_iret (v := 0) hx hb hr hlocks hS rfl ⟨rfl, rfl⟩ hP9 hD9 (Nat.le_of_ble_eq_true rfl) (Nat.le_of_ble_eq_true rfl) dX1_wordAt_28)
set_option maxHeartbeats 4000000 in
set_option maxRecDepth 100000 in
theorem c_X1_meaningOf (l : Launch) (hfl : l.stackTraces = false) (D : va_G) (dA : Nat → ClassId) (tE tC : Nat) (h0 : Nat) (h1 : Nat) (h2 : Nat) (h3 : Nat) : Ct l D dA tE tC yX1_meaningOf (Cond.code yX1_meaningOf cX1_meaningOf 3 (some .int) :: gW) ({ frames := 0, cells := 0, slots := 0, locals := 0 } : Room) [.ref h0, .int 0, .int 0] [(h0, .inr (5, [.ref h1, .ref h2, .ref h3, .int 0, .int 0, .int 0, .int (-1), .int 0, .int 0, .int 0, .int 0, .int 0]))] (fun v w1 => (v = some (.int 0) ∧ w1 = [(h0, .inr (5, [.ref h1, .ref h2, .ref h3, .int 0, .int 0, .int 0, .int (-1), .int 0, .int 0, .int 0, .int 0, .int 0]))])) 0 0 := by
  refine Ct_of (by decide) (Nat.le_of_ble_eq_true rfl) ?_
  intro p e s m below meth c hx hb hr hml hown hnm hlocks hgw hK A hG hA hP hD ls hl
  have hl : lv_has ls 3 [(0, .ref h0), (1, .int 0), (2, .int 0)] := hl
  have hS : va_S A s.heap s.heap [] := va_S.rf
  refine lv_iload_n hx hb dX1_meaningOf_0 rfl (lv_at hl 1 rfl) ?_
  refine lv_iconst (v := 1) hx hb dX1_meaningOf_1 (by decide) ?_
  refine lv_icmp_lt (tgt := 13) hx hb dX1_meaningOf_2 (by decide) (fun _ => ?_) (fun h => absurd (by decide +kernel) h)
  refine lv_iload_n hx hb dX1_meaningOf_13 rfl (lv_at hl 1 rfl) ?_
  refine lv_tableOut (tgt := 101) hx hb dX1_meaningOf_14 (by decide +kernel) (by decide) ?_
  refine lv_iconst (v := 0) hx hb dX1_meaningOf_101 (by decide) ?_
  have hP9 := hP.sub (ws' := [(h0, .inr (5, [.ref h1, .ref h2, .ref h3, .int 0, .int 0, .int 0, .int (-1), .int 0, .int 0, .int 0, .int 0, .int 0]))]) [0] rfl
  have hD9 := hD.sub (ws' := [(h0, .inr (5, [.ref h1, .ref h2, .ref h3, .int 0, .int 0, .int 0, .int (-1), .int 0, .int 0, .int 0, .int 0, .int 0]))]) [0] (by decide) rfl
  exact (kq_iret (v := 0) hx hb hr hlocks hS rfl ⟨rfl, rfl⟩ hP9 hD9 (Nat.le_of_ble_eq_true rfl) (Nat.le_of_ble_eq_true rfl) dX1_meaningOf_102)
set_option maxHeartbeats 4000000 in
set_option maxRecDepth 100000 in
theorem c_X1_takeTincture (l : Launch) (hfl : l.stackTraces = false) (D : va_G) (dA : Nat → ClassId) (tE tC : Nat) (h0 : Nat) (h1 : Nat) (h2 : Nat) (h3 : Nat) : Ct l D dA tE tC yX1_takeTincture (Cond.code yX1_takeTincture cX1_takeTincture 3 (some .int) :: gW) ({ frames := 1, cells := 0, slots := 0, locals := 22 } : Room) [.ref h0, .int 0] [(h0, .inr (5, [.ref h1, .ref h2, .ref h3, .int 0, .int 0, .int 0, .int (-1), .int 0, .int 0, .int 0, .int 0, .int 0]))] (fun v w1 => (v = some (.int 0) ∧ w1 = [(h0, .inr (5, [.ref h1, .ref h2, .ref h3, .int 0, .int 0, .int 0, .int (-1), .int 0, .int 0, .int 0, .int 0, .int 0]))])) 0 0 := by
  refine Ct_of (by decide) (Nat.le_of_ble_eq_true rfl) ?_
  intro p e s m below meth c hx hb hr hml hown hnm hlocks hgw hK A hG hA hP hD ls hl
  have hl : lv_has ls 3 [(0, .ref h0), (1, .int 0)] := hl
  have hS : va_S A s.heap s.heap [] := va_S.rf
  refine lv_aload_n hx hb dX1_takeTincture_0 rfl (lv_at hl 0 rfl) ?_
  refine lv_aload_n hx hb dX1_takeTincture_1 rfl (lv_at hl 0 rfl) ?_
  refine lv_aload_n hx hb dX1_takeTincture_2 rfl (lv_at hl 0 rfl) ?_
  refine va_get (D := D) (ci := 5) (v := .int 0) (C := RX1) (T := TX1) (N := 12) hx hb hgw in_X1 hown hK hP 0 rfl rfl 3 (by decide) (hgw _ m_2_1) (fun _ h9 => h9) rfl dX1_takeTincture_3 ?_
  refine kq_V (q0 := 0) (As := [.int 0]) (rest := [.ref h0]) (wr := []) hx hb hml hown hgw hK hG hA hP hD hS (c_X1_wordAt l hfl D dA tE tC h0 h1 h2 h3) m_3_123 m_3_124 m_3_125 m_1_6 m_3_126 hd_X1_wordAt rfl rfl ⟨(Nat.le_of_ble_eq_true rfl), (Nat.le_of_ble_eq_true rfl)⟩ [0] [] rfl rfl rfl rfl (by decide) rfl rfl rfl hl.1 rfl (Nat.le_of_ble_eq_true rfl) dX1_takeTincture_6 ⟨(Nat.le_of_ble_eq_true rfl), (Nat.le_of_ble_eq_true rfl)⟩ (fun v w1 H locs hQ hP hD hS => ?_)
  obtain ⟨rfl, rfl⟩ := hQ
  refine W.eq (g2 := F0 m 9 ls [.int 0, .ref h0]) rfl ?_
  have hP : va_P D vwCl [(h0, .inr (5, [.ref h1, .ref h2, .ref h3, .int 0, .int 0, .int 0, .int (-1), .int 0, .int 0, .int 0, .int 0, .int 0]))] H := hP
  have hD : va_D A [(h0, .inr (5, [.ref h1, .ref h2, .ref h3, .int 0, .int 0, .int 0, .int (-1), .int 0, .int 0, .int 0, .int 0, .int 0]))] := hD
  refine lv_iload_n hx hb dX1_takeTincture_9 rfl (lv_at hl 1 rfl) ?_
  refine kq_V (q0 := 0) (As := [.int 0, .int 0]) (rest := []) (wr := []) hx hb hml hown hgw hK hG hA hP hD hS (c_X1_meaningOf l hfl D dA tE tC h0 h1 h2 h3) m_3_135 m_3_137 m_s_4 m_1_6 m_3_138 hd_X1_meaningOf rfl rfl ⟨(Nat.le_of_ble_eq_true rfl), (Nat.le_of_ble_eq_true rfl)⟩ [0] [] rfl rfl rfl rfl (by decide) rfl rfl rfl hl.1 rfl (Nat.le_of_ble_eq_true rfl) dX1_takeTincture_10 ⟨(Nat.le_of_ble_eq_true rfl), (Nat.le_of_ble_eq_true rfl)⟩ (fun v w1 H locs hQ hP hD hS => ?_)
  obtain ⟨rfl, rfl⟩ := hQ
  refine W.eq (g2 := F0 m 13 ls [.int 0]) rfl ?_
  have hP : va_P D vwCl [(h0, .inr (5, [.ref h1, .ref h2, .ref h3, .int 0, .int 0, .int 0, .int (-1), .int 0, .int 0, .int 0, .int 0, .int 0]))] H := hP
  have hD : va_D A [(h0, .inr (5, [.ref h1, .ref h2, .ref h3, .int 0, .int 0, .int 0, .int (-1), .int 0, .int 0, .int 0, .int 0, .int 0]))] := hD
  refine lv_istore_n (lv' := [(2, .int 0), (0, .ref h0), (1, .int 0)]) hx hb dX1_takeTincture_13 rfl hl (by decide) rfl (fun ls hl => ?_)
  refine lv_iload_n hx hb dX1_takeTincture_14 rfl (lv_at hl 0 rfl) ?_
  refine lv_if_eq (tgt := 34) hx hb dX1_takeTincture_15 (by decide) (fun _ => ?_) (fun h => absurd (by decide +kernel) h)
  refine lv_iconst (v := 0) hx hb dX1_takeTincture_34 (by decide) ?_
  have hP9 := hP.sub (ws' := [(h0, .inr (5, [.ref h1, .ref h2, .ref h3, .int 0, .int 0, .int 0, .int (-1), .int 0, .int 0, .int 0, .int 0, .int 0]))]) [0] rfl
  have hD9 := hD.sub (ws' := [(h0, .inr (5, [.ref h1, .ref h2, .ref h3, .int 0, .int 0, .int 0, .int (-1), .int 0, .int 0, .int 0, .int 0, .int 0]))]) [0] (by decide) rfl
  exact (kq_iret (v := 0) hx hb hr hlocks hS rfl ⟨rfl, rfl⟩ hP9 hD9 (Nat.le_of_ble_eq_true rfl) (Nat.le_of_ble_eq_true rfl) dX1_takeTincture_35)
set_option maxHeartbeats 4000000 in
set_option maxRecDepth 100000 in
theorem c_X1_readField (l : Launch) (hfl : l.stackTraces = false) (D : va_G) (dA : Nat → ClassId) (tE tC : Nat) (h0 : Nat) (h1 : Nat) (h2 : Nat) (h3 : Nat) : Ct l D dA tE tC yX1_readField (Cond.code yX1_readField cX1_readField 2 (some .boolean) :: gW) ({ frames := 2, cells := 0, slots := 0, locals := 44 } : Room) [.ref h0] [(h0, .inr (5, [.ref h1, .ref h2, .ref h3, .int 0, .int 0, .int 0, .int (-1), .int 0, .int 0, .int 0, .int 0, .int 0]))] (fun v w1 => (v = some (.int 0) ∧ w1 = [(h0, .inr (5, [.ref h1, .ref h2, .ref h3, .int 0, .int 0, .int 0, .int (-1), .int 0, .int 0, .int 0, .int 0, .int 0]))])) 0 0 := by
  refine Ct_of (by decide) (Nat.le_of_ble_eq_true rfl) ?_
  intro p e s m below meth c hx hb hr hml hown hnm hlocks hgw hK A hG hA hP hD ls hl
  have hl : lv_has ls 2 [(0, .ref h0)] := hl
  have hS : va_S A s.heap s.heap [] := va_S.rf
  refine lv_aload_n hx hb dX1_readField_0 rfl (lv_at hl 0 rfl) ?_
  refine lv_aload_n hx hb dX1_readField_1 rfl (lv_at hl 0 rfl) ?_
  refine va_get (D := D) (ci := 5) (v := .int 0) (C := RX1) (T := TX1) (N := 12) hx hb hgw in_X1 hown hK hP 0 rfl rfl 3 (by decide) (hgw _ m_2_1) (fun _ h9 => h9) rfl dX1_readField_2 ?_
  refine kq_V (q0 := 0) (As := [.int 0]) (rest := []) (wr := []) hx hb hml hown hgw hK hG hA hP hD hS (c_X1_wordAt l hfl D dA tE tC h0 h1 h2 h3) m_3_123 m_3_124 m_3_125 m_1_6 m_3_126 hd_X1_wordAt rfl rfl ⟨(Nat.le_of_ble_eq_true rfl), (Nat.le_of_ble_eq_true rfl)⟩ [0] [] rfl rfl rfl rfl (by decide) rfl rfl rfl hl.1 rfl (Nat.le_of_ble_eq_true rfl) dX1_readField_5 ⟨(Nat.le_of_ble_eq_true rfl), (Nat.le_of_ble_eq_true rfl)⟩ (fun v w1 H locs hQ hP hD hS => ?_)
  obtain ⟨rfl, rfl⟩ := hQ
  refine W.eq (g2 := F0 m 8 ls [.int 0]) rfl ?_
  have hP : va_P D vwCl [(h0, .inr (5, [.ref h1, .ref h2, .ref h3, .int 0, .int 0, .int 0, .int (-1), .int 0, .int 0, .int 0, .int 0, .int 0]))] H := hP
  have hD : va_D A [(h0, .inr (5, [.ref h1, .ref h2, .ref h3, .int 0, .int 0, .int 0, .int (-1), .int 0, .int 0, .int 0, .int 0, .int 0]))] := hD
  refine lv_istore_n (lv' := [(1, .int 0), (0, .ref h0)]) hx hb dX1_readField_8 rfl hl (by decide) rfl (fun ls hl => ?_)
  refine lv_iload_n hx hb dX1_readField_9 rfl (lv_at hl 0 rfl) ?_
  refine lv_bipush (v := 11) hx hb dX1_readField_10 (by decide +kernel) ?_
  refine lv_icmp_lt (tgt := 61) hx hb dX1_readField_12 (by decide) (fun _ => ?_) (fun h => absurd (by decide +kernel) h)
  refine lv_aload_n hx hb dX1_readField_61 rfl (lv_at hl 1 rfl) ?_
  refine lv_aload_n hx hb dX1_readField_62 rfl (lv_at hl 1 rfl) ?_
  refine lv_iconst (v := 0) hx hb dX1_readField_63 (by decide) ?_
  refine kq_V (q0 := 0) (As := [.int 0]) (rest := [.ref h0]) (wr := []) hx hb hml hown hgw hK hG hA hP hD hS (c_X1_takeTincture l hfl D dA tE tC h0 h1 h2 h3) m_3_131 m_3_133 m_s_3 m_1_6 m_3_134 hd_X1_takeTincture rfl rfl ⟨(Nat.le_of_ble_eq_true rfl), (Nat.le_of_ble_eq_true rfl)⟩ [0] [] rfl rfl rfl rfl (by decide) rfl rfl rfl hl.1 rfl (Nat.le_of_ble_eq_true rfl) dX1_readField_64 ⟨(Nat.le_of_ble_eq_true rfl), (Nat.le_of_ble_eq_true rfl)⟩ (fun v w1 H locs hQ hP hD hS => ?_)
  obtain ⟨rfl, rfl⟩ := hQ
  refine W.eq (g2 := F0 m 67 ls [.int 0, .ref h0]) rfl ?_
  have hP : va_P D vwCl [(h0, .inr (5, [.ref h1, .ref h2, .ref h3, .int 0, .int 0, .int 0, .int (-1), .int 0, .int 0, .int 0, .int 0, .int 0]))] H := hP
  have hD : va_D A [(h0, .inr (5, [.ref h1, .ref h2, .ref h3, .int 0, .int 0, .int 0, .int (-1), .int 0, .int 0, .int 0, .int 0, .int 0]))] := hD
  refine va_put (D := D) (ci := 5) (v := .int 0) (ty := .int) (C := RX1) (T := TX1) (N := 12) hx hb hgw in_X1 tyX1 tyX1_ok nmX1 hown hK hP hD hS 0 rfl rfl 9 (by decide) (hgw _ m_2_17) (fun _ h9 => h9) rfl (by decide +kernel) rfl rfl (Nat.le_of_ble_eq_true rfl) dX1_readField_67 (fun H locs hP hD hS => ?_)
  have hP : va_P D vwCl [(h0, .inr (5, [.ref h1, .ref h2, .ref h3, .int 0, .int 0, .int 0, .int (-1), .int 0, .int 0, .int 0, .int 0, .int 0]))] H := hP
  have hD : va_D A [(h0, .inr (5, [.ref h1, .ref h2, .ref h3, .int 0, .int 0, .int 0, .int (-1), .int 0, .int 0, .int 0, .int 0, .int 0]))] := hD
  refine lv_aload_n hx hb dX1_readField_70 rfl (lv_at hl 1 rfl) ?_
  refine va_get (D := D) (ci := 5) (v := .int 0) (C := RX1) (T := TX1) (N := 12) hx hb hgw in_X1 hown hK hP 0 rfl rfl 9 (by decide) (hgw _ m_2_17) (fun _ h9 => h9) rfl dX1_readField_71 ?_
  refine lv_if_eq (tgt := 84) hx hb dX1_readField_74 (by decide) (fun _ => ?_) (fun h => absurd (by decide +kernel) h)
  refine lv_aload_n hx hb dX1_readField_84 rfl (lv_at hl 1 rfl) ?_
  refine va_get (D := D) (ci := 5) (v := .int 0) (C := RX1) (T := TX1) (N := 12) hx hb hgw in_X1 hown hK hP 0 rfl rfl 9 (by decide) (hgw _ m_2_17) (fun _ h9 => h9) rfl dX1_readField_85 ?_
  refine lv_if_eq (tgt := 95) hx hb dX1_readField_88 (by decide) (fun _ => ?_) (fun h => absurd (by decide +kernel) h)
  refine lv_iconst (v := 0) hx hb dX1_readField_95 (by decide) ?_
  have hP9 := hP.sub (ws' := [(h0, .inr (5, [.ref h1, .ref h2, .ref h3, .int 0, .int 0, .int 0, .int (-1), .int 0, .int 0, .int 0, .int 0, .int 0]))]) [0] rfl
  have hD9 := hD.sub (ws' := [(h0, .inr (5, [.ref h1, .ref h2, .ref h3, .int 0, .int 0, .int 0, .int (-1), .int 0, .int 0, .int 0, .int 0, .int 0]))]) [0] (by decide) rfl
  exact (kq_iret (v := 0) hx hb hr hlocks hS rfl ⟨rfl, rfl⟩ hP9 hD9 (Nat.le_of_ble_eq_true rfl) (Nat.le_of_ble_eq_true rfl) dX1_readField_96)
set_option maxHeartbeats 4000000 in
set_option maxRecDepth 100000 in
theorem c_X1_read (l : Launch) (hfl : l.stackTraces = false) (D : va_G) (dA : Nat → ClassId) (tE tC : Nat) (h0 : Nat) (h1 : Nat) (h2 : Nat) (h3 : Nat) : Ct l D dA tE tC yX1_read (Cond.code yX1_read cX1_read 2 none :: gW) ({ frames := 3, cells := 0, slots := 0, locals := 65 } : Room) [.ref h0] [(h0, .inr (5, [.ref h1, .ref h2, .ref h3, .int 0, .int 0, .int 0, .int 0, .int 0, .int 0, .int 0, .int 0, .int 0])), (h2, .inl (dA 0, 24, .inl (fun _ => 0)))] (fun v w1 => (∃ (g1 : Nat → Int32), v = none ∧ w1 = [(h2, .inl (dA 0, 24, .inl g1)), (h0, .inr (5, [.ref h1, .ref h2, .ref h3, .int 0, .int 0, .int 0, .int 0, .int 0, .int 0, .int 0, .int 0, .int 0]))])) 0 0 := by
  refine Ct_of (by decide) (Nat.le_of_ble_eq_true rfl) ?_
  intro p e s m below meth c hx hb hr hml hown hnm hlocks hgw hK A hG hA hP hD ls hl
  have hl : lv_has ls 2 [(0, .ref h0)] := hl
  have hS : va_S A s.heap s.heap [] := va_S.rf
  refine lv_aload_n hx hb dX1_read_0 rfl (lv_at hl 0 rfl) ?_
  refine lv_iconst (v := 0) hx hb dX1_read_1 (by decide) ?_
  refine va_put (D := D) (ci := 5) (v := .int 0) (ty := .int) (C := RX1) (T := TX1) (N := 12) hx hb hgw in_X1 tyX1 tyX1_ok nmX1 hown hK hP hD hS 0 rfl rfl 3 (by decide) (hgw _ m_2_1) (fun _ h9 => h9) rfl (by decide +kernel) rfl rfl (Nat.le_of_ble_eq_true rfl) dX1_read_2 (fun H locs hP hD hS => ?_)
  have hP : va_P D vwCl [(h0, .inr (5, [.ref h1, .ref h2, .ref h3, .int 0, .int 0, .int 0, .int 0, .int 0, .int 0, .int 0, .int 0, .int 0])), (h2, .inl (dA 0, 24, .inl (fun _ => 0)))] H := hP
  have hD : va_D A [(h0, .inr (5, [.ref h1, .ref h2, .ref h3, .int 0, .int 0, .int 0, .int 0, .int 0, .int 0, .int 0, .int 0, .int 0])), (h2, .inl (dA 0, 24, .inl (fun _ => 0)))] := hD
  refine lv_aload_n hx hb dX1_read_5 rfl (lv_at hl 0 rfl) ?_
  refine lv_iconst (v := 0) hx hb dX1_read_6 (by decide) ?_
  refine va_put (D := D) (ci := 5) (v := .int 0) (ty := .int) (C := RX1) (T := TX1) (N := 12) hx hb hgw in_X1 tyX1 tyX1_ok nmX1 hown hK hP hD hS 0 rfl rfl 4 (by decide) (hgw _ m_2_2) (fun _ h9 => h9) rfl (by decide +kernel) rfl rfl (Nat.le_of_ble_eq_true rfl) dX1_read_7 (fun H locs hP hD hS => ?_)
  have hP : va_P D vwCl [(h0, .inr (5, [.ref h1, .ref h2, .ref h3, .int 0, .int 0, .int 0, .int 0, .int 0, .int 0, .int 0, .int 0, .int 0])), (h2, .inl (dA 0, 24, .inl (fun _ => 0)))] H := hP
  have hD : va_D A [(h0, .inr (5, [.ref h1, .ref h2, .ref h3, .int 0, .int 0, .int 0, .int 0, .int 0, .int 0, .int 0, .int 0, .int 0])), (h2, .inl (dA 0, 24, .inl (fun _ => 0)))] := hD
  refine lv_aload_n hx hb dX1_read_10 rfl (lv_at hl 0 rfl) ?_
  refine lv_iconst (v := (-1)) hx hb dX1_read_11 (by decide) ?_
  refine va_put (D := D) (ci := 5) (v := .int (-1)) (ty := .int) (C := RX1) (T := TX1) (N := 12) hx hb hgw in_X1 tyX1 tyX1_ok nmX1 hown hK hP hD hS 0 rfl rfl 6 (by decide) (hgw _ m_2_8) (fun _ h9 => h9) rfl (by decide +kernel) rfl rfl (Nat.le_of_ble_eq_true rfl) dX1_read_12 (fun H locs hP hD hS => ?_)
  have hP : va_P D vwCl [(h0, .inr (5, [.ref h1, .ref h2, .ref h3, .int 0, .int 0, .int 0, .int (-1), .int 0, .int 0, .int 0, .int 0, .int 0])), (h2, .inl (dA 0, 24, .inl (fun _ => 0)))] H := hP
  have hD : va_D A [(h0, .inr (5, [.ref h1, .ref h2, .ref h3, .int 0, .int 0, .int 0, .int (-1), .int 0, .int 0, .int 0, .int 0, .int 0])), (h2, .inl (dA 0, 24, .inl (fun _ => 0)))] := hD
  refine lv_aload_n hx hb dX1_read_15 rfl (lv_at hl 0 rfl) ?_
  refine lv_iconst (v := 0) hx hb dX1_read_16 (by decide) ?_
  refine va_put (D := D) (ci := 5) (v := .int 0) (ty := .int) (C := RX1) (T := TX1) (N := 12) hx hb hgw in_X1 tyX1 tyX1_ok nmX1 hown hK hP hD hS 0 rfl rfl 7 (by decide) (hgw _ m_2_10) (fun _ h9 => h9) rfl (by decide +kernel) rfl rfl (Nat.le_of_ble_eq_true rfl) dX1_read_17 (fun H locs hP hD hS => ?_)
  have hP : va_P D vwCl [(h0, .inr (5, [.ref h1, .ref h2, .ref h3, .int 0, .int 0, .int 0, .int (-1), .int 0, .int 0, .int 0, .int 0, .int 0])), (h2, .inl (dA 0, 24, .inl (fun _ => 0)))] H := hP
  have hD : va_D A [(h0, .inr (5, [.ref h1, .ref h2, .ref h3, .int 0, .int 0, .int 0, .int (-1), .int 0, .int 0, .int 0, .int 0, .int 0])), (h2, .inl (dA 0, 24, .inl (fun _ => 0)))] := hD
  refine lv_aload_n hx hb dX1_read_20 rfl (lv_at hl 0 rfl) ?_
  refine lv_iconst (v := 0) hx hb dX1_read_21 (by decide) ?_
  refine va_put (D := D) (ci := 5) (v := .int 0) (ty := .int) (C := RX1) (T := TX1) (N := 12) hx hb hgw in_X1 tyX1 tyX1_ok nmX1 hown hK hP hD hS 0 rfl rfl 8 (by decide) (hgw _ m_2_13) (fun _ h9 => h9) rfl (by decide +kernel) rfl rfl (Nat.le_of_ble_eq_true rfl) dX1_read_22 (fun H locs hP hD hS => ?_)
  have hP : va_P D vwCl [(h0, .inr (5, [.ref h1, .ref h2, .ref h3, .int 0, .int 0, .int 0, .int (-1), .int 0, .int 0, .int 0, .int 0, .int 0])), (h2, .inl (dA 0, 24, .inl (fun _ => 0)))] H := hP
  have hD : va_D A [(h0, .inr (5, [.ref h1, .ref h2, .ref h3, .int 0, .int 0, .int 0, .int (-1), .int 0, .int 0, .int 0, .int 0, .int 0])), (h2, .inl (dA 0, 24, .inl (fun _ => 0)))] := hD
  refine lv_aload_n hx hb dX1_read_25 rfl (lv_at hl 0 rfl) ?_
  refine lv_iconst (v := 0) hx hb dX1_read_26 (by decide) ?_
  refine va_put (D := D) (ci := 5) (v := .int 0) (ty := .int) (C := RX1) (T := TX1) (N := 12) hx hb hgw in_X1 tyX1 tyX1_ok nmX1 hown hK hP hD hS 0 rfl rfl 9 (by decide) (hgw _ m_2_17) (fun _ h9 => h9) rfl (by decide +kernel) rfl rfl (Nat.le_of_ble_eq_true rfl) dX1_read_27 (fun H locs hP hD hS => ?_)
  have hP : va_P D vwCl [(h0, .inr (5, [.ref h1, .ref h2, .ref h3, .int 0, .int 0, .int 0, .int (-1), .int 0, .int 0, .int 0, .int 0, .int 0])), (h2, .inl (dA 0, 24, .inl (fun _ => 0)))] H := hP
  have hD : va_D A [(h0, .inr (5, [.ref h1, .ref h2, .ref h3, .int 0, .int 0, .int 0, .int (-1), .int 0, .int 0, .int 0, .int 0, .int 0])), (h2, .inl (dA 0, 24, .inl (fun _ => 0)))] := hD
  refine lv_aload_n hx hb dX1_read_30 rfl (lv_at hl 0 rfl) ?_
  refine lv_iconst (v := 0) hx hb dX1_read_31 (by decide) ?_
  refine va_put (D := D) (ci := 5) (v := .int 0) (ty := .int) (C := RX1) (T := TX1) (N := 12) hx hb hgw in_X1 tyX1 tyX1_ok nmX1 hown hK hP hD hS 0 rfl rfl 10 (by decide) (hgw _ m_2_22) (fun _ h9 => h9) rfl (by decide +kernel) rfl rfl (Nat.le_of_ble_eq_true rfl) dX1_read_32 (fun H locs hP hD hS => ?_)
  have hP : va_P D vwCl [(h0, .inr (5, [.ref h1, .ref h2, .ref h3, .int 0, .int 0, .int 0, .int (-1), .int 0, .int 0, .int 0, .int 0, .int 0])), (h2, .inl (dA 0, 24, .inl (fun _ => 0)))] H := hP
  have hD : va_D A [(h0, .inr (5, [.ref h1, .ref h2, .ref h3, .int 0, .int 0, .int 0, .int (-1), .int 0, .int 0, .int 0, .int 0, .int 0])), (h2, .inl (dA 0, 24, .inl (fun _ => 0)))] := hD
  refine lv_aload_n hx hb dX1_read_35 rfl (lv_at hl 0 rfl) ?_
  refine lv_iconst (v := 0) hx hb dX1_read_36 (by decide) ?_
  refine va_put (D := D) (ci := 5) (v := .int 0) (ty := .int) (C := RX1) (T := TX1) (N := 12) hx hb hgw in_X1 tyX1 tyX1_ok nmX1 hown hK hP hD hS 0 rfl rfl 11 (by decide) (hgw _ m_2_26) (fun _ h9 => h9) rfl (by decide +kernel) rfl rfl (Nat.le_of_ble_eq_true rfl) dX1_read_37 (fun H locs hP hD hS => ?_)
  have hP : va_P D vwCl [(h0, .inr (5, [.ref h1, .ref h2, .ref h3, .int 0, .int 0, .int 0, .int (-1), .int 0, .int 0, .int 0, .int 0, .int 0])), (h2, .inl (dA 0, 24, .inl (fun _ => 0)))] H := hP
  have hD : va_D A [(h0, .inr (5, [.ref h1, .ref h2, .ref h3, .int 0, .int 0, .int 0, .int (-1), .int 0, .int 0, .int 0, .int 0, .int 0])), (h2, .inl (dA 0, 24, .inl (fun _ => 0)))] := hD
  refine lv_aload_n hx hb dX1_read_40 rfl (lv_at hl 0 rfl) ?_
  refine va_get (D := D) (ci := 5) (v := .ref h2) (C := RX1) (T := TX1) (N := 12) hx hb hgw in_X1 hown hK hP 0 rfl rfl 1 (by decide) (hgw _ m_1_239) (fun _ h9 => h9) rfl dX1_read_41 ?_
  refine lv_iconst (v := 0) hx hb dX1_read_44 (by decide) ?_
  refine kq_S (As := [.ref h2, .int 0]) (rest := []) (wr := [(h0, .inr (5, [.ref h1, .ref h2, .ref h3, .int 0, .int 0, .int 0, .int (-1), .int 0, .int 0, .int 0, .int 0, .int 0]))]) hx hb hml hown hgw hK hG hA hP hD hS (c_J7_fill_53178 l hfl D dA tE tC h2) m_3_116 m_3_117 m_1_14 m_3_118 hd_J7_fill_53178 rfl rfl ⟨(Nat.le_of_ble_eq_true rfl), (Nat.le_of_ble_eq_true rfl)⟩ [1] [0] rfl rfl rfl rfl (by decide) hl.1 rfl (Nat.le_of_ble_eq_true rfl) dX1_read_45 ⟨(Nat.le_of_ble_eq_true rfl), (Nat.le_of_ble_eq_true rfl)⟩ (fun v w1 H locs hQ hP hD hS => ?_)
  obtain ⟨g1, rfl, rfl⟩ := hQ
  refine W.eq (g2 := F0 m 48 ls []) rfl ?_
  have hP : va_P D vwCl [(h0, .inr (5, [.ref h1, .ref h2, .ref h3, .int 0, .int 0, .int 0, .int (-1), .int 0, .int 0, .int 0, .int 0, .int 0])), (h2, .inl (dA 0, 24, .inl g1))] H := hP
  have hD : va_D A [(h0, .inr (5, [.ref h1, .ref h2, .ref h3, .int 0, .int 0, .int 0, .int (-1), .int 0, .int 0, .int 0, .int 0, .int 0])), (h2, .inl (dA 0, 24, .inl g1))] := hD
  refine lv_aload_n hx hb dX1_read_48 rfl (lv_at hl 0 rfl) ?_
  refine kq_V (q0 := 0) (As := []) (rest := []) (wr := [(h2, .inl (dA 0, 24, .inl g1))]) hx hb hml hown hgw hK hG hA hP hD hS (c_X1_readField l hfl D dA tE tC h0 h1 h2 h3) m_3_119 m_3_121 m_s_1 m_1_6 m_3_122 hd_X1_readField rfl rfl ⟨(Nat.le_of_ble_eq_true rfl), (Nat.le_of_ble_eq_true rfl)⟩ [0] [1] rfl rfl rfl rfl (by decide) rfl rfl rfl hl.1 rfl (Nat.le_of_ble_eq_true rfl) dX1_read_49 ⟨(Nat.le_of_ble_eq_true rfl), (Nat.le_of_ble_eq_true rfl)⟩ (fun v w1 H locs hQ hP hD hS => ?_)
  obtain ⟨rfl, rfl⟩ := hQ
  refine W.eq (g2 := F0 m 52 ls [.int 0]) rfl ?_
  have hP : va_P D vwCl [(h2, .inl (dA 0, 24, .inl g1)), (h0, .inr (5, [.ref h1, .ref h2, .ref h3, .int 0, .int 0, .int 0, .int (-1), .int 0, .int 0, .int 0, .int 0, .int 0]))] H := hP
  have hD : va_D A [(h2, .inl (dA 0, 24, .inl g1)), (h0, .inr (5, [.ref h1, .ref h2, .ref h3, .int 0, .int 0, .int 0, .int (-1), .int 0, .int 0, .int 0, .int 0, .int 0]))] := hD
  refine lv_if_ne (tgt := 64) hx hb dX1_read_52 (by decide) (fun h => absurd (by decide +kernel) h) (fun _ => ?_)
  refine lv_aload_n hx hb dX1_read_55 rfl (lv_at hl 0 rfl) ?_
  refine lv_aload_n hx hb dX1_read_56 rfl (lv_at hl 0 rfl) ?_
  refine va_get (D := D) (ci := 5) (v := .int 0) (C := RX1) (T := TX1) (N := 12) hx hb hgw in_X1 hown hK hP 1 rfl rfl 3 (by decide) (hgw _ m_2_1) (fun _ h9 => h9) rfl dX1_read_57 ?_
  refine va_put (D := D) (ci := 5) (v := .int 0) (ty := .int) (C := RX1) (T := TX1) (N := 12) hx hb hgw in_X1 tyX1 tyX1_ok nmX1 hown hK hP hD hS 1 rfl rfl 6 (by decide) (hgw _ m_2_8) (fun _ h9 => h9) rfl (by decide +kernel) rfl rfl (Nat.le_of_ble_eq_true rfl) dX1_read_60 (fun H locs hP hD hS => ?_)
  have hP : va_P D vwCl [(h2, .inl (dA 0, 24, .inl g1)), (h0, .inr (5, [.ref h1, .ref h2, .ref h3, .int 0, .int 0, .int 0, .int 0, .int 0, .int 0, .int 0, .int 0, .int 0]))] H := hP
  have hD : va_D A [(h2, .inl (dA 0, 24, .inl g1)), (h0, .inr (5, [.ref h1, .ref h2, .ref h3, .int 0, .int 0, .int 0, .int 0, .int 0, .int 0, .int 0, .int 0, .int 0]))] := hD
  have hP9 := hP.sub (ws' := [(h2, .inl (dA 0, 24, .inl g1)), (h0, .inr (5, [.ref h1, .ref h2, .ref h3, .int 0, .int 0, .int 0, .int 0, .int 0, .int 0, .int 0, .int 0, .int 0]))]) [0, 1] rfl
  have hD9 := hD.sub (ws' := [(h2, .inl (dA 0, 24, .inl g1)), (h0, .inr (5, [.ref h1, .ref h2, .ref h3, .int 0, .int 0, .int 0, .int 0, .int 0, .int 0, .int 0, .int 0, .int 0]))]) [0, 1] (by decide) rfl
  exact (kq_vret hx hb hr hlocks hS ⟨g1, rfl, rfl⟩ hP9 hD9 (Nat.le_of_ble_eq_true rfl) (Nat.le_of_ble_eq_true rfl) dX1_read_63)
