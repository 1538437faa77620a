set_option maxHeartbeats 4000000 in
set_option maxRecDepth 100000 in
theorem c_X18_init (l : Launch) (hfl : l.stackTraces = false) (D : va_G) (dA : Nat → ClassId) (tE tC : Nat) (h0 : Nat) : Ct l D dA tE tC yX18_init (Cond.code yX18_init cX18_init 1 none :: gW) ({ frames := 4, cells := 21, slots := 2307, locals := 72 } : Room) [.ref h0] [(h0, .inr (22, [.int 0, .null, .int 0, .null, .null, .null, .int 0, .int 0, .int 0, .null, .int 0, .null, .int 0, .int 0, .null, .null, .null, .null, .null, .null, .int 0, .null, .int 0, .null, .null, .null, .null, .null]))] (fun v w1 => (∃ (q1 : Nat), ∃ (q2 : Nat), ∃ (q3 : Nat), ∃ (q4 : Nat), ∃ (q7 : Nat), ∃ (q5 : Nat), ∃ (q8 : Nat), ∃ (q9 : Nat), ∃ (q10 : Nat), ∃ (q11 : Nat), ∃ (q13 : Nat), ∃ (q15 : Nat), ∃ (q16 : Nat), ∃ (q17 : Nat), ∃ (q18 : Nat), ∃ (q19 : Nat), ∃ (q20 : Nat), ∃ (q21 : Nat), v = none ∧ w1 = [(h0, .inr (22, [.int 0, .ref q1, .int 0, .ref q2, .ref q3, .ref q4, .int 0, .int 0, .int 0, .ref q5, .int 0, .ref q7, .int 0, .int 0, .ref q8, .ref q9, .ref q10, .ref q11, .ref q13, .ref q15, .int 0, .ref q16, .int 0, .ref q17, .ref q18, .ref q19, .ref q20, .ref q21])), (q1, .inl (dA 0, 24, .inl (fun _ => 0))), (q2, .inr (3, [.int 0, .ref tE, .int 0])), (q3, .inr (3, [.int 0, .ref tE, .int 0])), (q4, .inr (3, [.int 0, .ref tE, .int 0])), (q7, .inl (dA 0, 24, .inl (fun _ => 0)))])) 21 2307 := by
  refine Ct_of (by decide) (Nat.le_of_ble_eq_true rfl) ?_
  intro p e s m below meth c hx hb hr hml hown hnm hlocks hgw hK A hG hA hP hD ls hl
  have hl : lv_has ls 1 [(0, .ref h0)] := hl
  have hS : va_S A s.heap s.heap [] := va_S.rf
  refine lv_aload_n hx hb dX18_init_0 rfl (lv_at hl 0 rfl) ?_
  refine W.objInit hx hb hown (hgw _ m_9_174) (hgw _ m_1_49) (hgw _ m_1_50) rfl (hl.1.trans hml.symm) rfl dX18_init_1 (Nat.le_of_ble_eq_true rfl) (Nat.le_of_ble_eq_true rfl) ?_
  refine W.eq (g2 := F0 m 4 ls []) rfl ?_
  refine lv_aload_n hx hb dX18_init_4 rfl (lv_at hl 0 rfl) ?_
  refine lv_bipush (v := 24) hx hb dX18_init_5 (by decide +kernel) ?_
  refine kq_newa hx hb 0 rfl rfl hgw m_1_136 hK hP hD hS hA (N' := 24) (a0 := (24, .inl (fun _ => 0))) (fun _ => rfl) (by decide +kernel) (by decide +kernel) (Nat.le_of_ble_eq_true rfl) (Nat.le_of_ble_eq_true rfl) (Nat.le_of_ble_eq_true rfl) dX18_init_7 (fun q1 H hP hD hS => ?_)
  have hP : va_P D vwCl [(h0, .inr (22, [.int 0, .null, .int 0, .null, .null, .null, .int 0, .int 0, .int 0, .null, .int 0, .null, .int 0, .int 0, .null, .null, .null, .null, .null, .null, .int 0, .null, .int 0, .null, .null, .null, .null, .null])), (q1, .inl (dA 0, 24, .inl (fun _ => 0)))] H := hP
  have hD : va_D A [(h0, .inr (22, [.int 0, .null, .int 0, .null, .null, .null, .int 0, .int 0, .int 0, .null, .int 0, .null, .int 0, .int 0, .null, .null, .null, .null, .null, .null, .int 0, .null, .int 0, .null, .null, .null, .null, .null])), (q1, .inl (dA 0, 24, .inl (fun _ => 0)))] := hD
  refine va_putF (D := D) (ci := 22) (v := .ref q1) (ty := .array .int) (C := RX18) (T := TX18) (N := 28) hx hb hgw in_X18 tyX18 tyX18_ok nmX18 hown hK hP hD hS 0 rfl rfl 1 (by decide) (hgw _ m_9_238) (fun _ h9 => h9) rfl hnm rfl (by decide +kernel) rfl rfl (Nat.le_of_ble_eq_true rfl) dX18_init_9 (fun H locs hP hD hS => ?_)
  have hP : va_P D vwCl [(h0, .inr (22, [.int 0, .ref q1, .int 0, .null, .null, .null, .int 0, .int 0, .int 0, .null, .int 0, .null, .int 0, .int 0, .null, .null, .null, .null, .null, .null, .int 0, .null, .int 0, .null, .null, .null, .null, .null])), (q1, .inl (dA 0, 24, .inl (fun _ => 0)))] H := hP
  have hD : va_D A [(h0, .inr (22, [.int 0, .ref q1, .int 0, .null, .null, .null, .int 0, .int 0, .int 0, .null, .int 0, .null, .int 0, .int 0, .null, .null, .null, .null, .null, .null, .int 0, .null, .int 0, .null, .null, .null, .null, .null])), (q1, .inl (dA 0, 24, .inl (fun _ => 0)))] := hD
  refine lv_aload_n hx hb dX18_init_12 rfl (lv_at hl 0 rfl) ?_
  refine va_new (ci := 3) (fs := [.int 0, .null, .int 0]) (C := RJx4a65c) (T := TJx4a65c) (N := 3) hx hb hgw in_Jx4a65c tyJx4a65c tyJx4a65c_ok hown (hgw _ m_9_175) (hgw _ m_9_176) (hgw _ m_1_18) hK hP hD hS hA rfl dv_Jx4a65c (Nat.le_of_ble_eq_true rfl) (Nat.le_of_ble_eq_true rfl) dX18_init_13 (fun q2 H hP hD hS => ?_)
  have hP : va_P D vwCl [(h0, .inr (22, [.int 0, .ref q1, .int 0, .null, .null, .null, .int 0, .int 0, .int 0, .null, .int 0, .null, .int 0, .int 0, .null, .null, .null, .null, .null, .null, .int 0, .null, .int 0, .null, .null, .null, .null, .null])), (q1, .inl (dA 0, 24, .inl (fun _ => 0))), (q2, .inr (3, [.int 0, .null, .int 0]))] H := hP
  have hD : va_D A [(h0, .inr (22, [.int 0, .ref q1, .int 0, .null, .null, .null, .int 0, .int 0, .int 0, .null, .int 0, .null, .int 0, .int 0, .null, .null, .null, .null, .null, .null, .int 0, .null, .int 0, .null, .null, .null, .null, .null])), (q1, .inl (dA 0, 24, .inl (fun _ => 0))), (q2, .inr (3, [.int 0, .null, .int 0]))] := hD
  refine lv_dup hx hb dX18_init_16 rfl ?_
  refine kq_I (As := []) (rest := [.ref q2, .ref h0]) (wr := [(h0, .inr (22, [.int 0, .ref q1, .int 0, .null, .null, .null, .int 0, .int 0, .int 0, .null, .int 0, .null, .int 0, .int 0, .null, .null, .null, .null, .null, .null, .int 0, .null, .int 0, .null, .null, .null, .null, .null])), (q1, .inl (dA 0, 24, .inl (fun _ => 0)))]) hx hb hml hown hgw hK hG hA hP hD hS (c_Jx4a65c_init_da8c8 l hfl D dA tE tC q2) m_9_177 m_9_178 m_1_18 m_9_179 rfl hd_Jx4a65c_init_da8c8 rfl rfl ⟨(Nat.le_of_ble_eq_true rfl), (Nat.le_of_ble_eq_true rfl)⟩ [2] [0, 1] rfl rfl rfl rfl (by decide) hl.1 rfl (Nat.le_of_ble_eq_true rfl) dX18_init_17 ⟨(Nat.le_of_ble_eq_true rfl), (Nat.le_of_ble_eq_true rfl)⟩ (fun v w1 H locs hQ hP hD hS => ?_)
  obtain ⟨rfl, rfl⟩ := hQ
  refine W.eq (g2 := F0 m 20 ls [.ref q2, .ref h0]) rfl ?_
  have hP : va_P D vwCl [(h0, .inr (22, [.int 0, .ref q1, .int 0, .null, .null, .null, .int 0, .int 0, .int 0, .null, .int 0, .null, .int 0, .int 0, .null, .null, .null, .null, .null, .null, .int 0, .null, .int 0, .null, .null, .null, .null, .null])), (q1, .inl (dA 0, 24, .inl (fun _ => 0))), (q2, .inr (3, [.int 0, .ref tE, .int 0]))] H := hP
  have hD : va_D A [(h0, .inr (22, [.int 0, .ref q1, .int 0, .null, .null, .null, .int 0, .int 0, .int 0, .null, .int 0, .null, .int 0, .int 0, .null, .null, .null, .null, .null, .null, .int 0, .null, .int 0, .null, .null, .null, .null, .null])), (q1, .inl (dA 0, 24, .inl (fun _ => 0))), (q2, .inr (3, [.int 0, .ref tE, .int 0]))] := hD
  refine va_putF (D := D) (ci := 22) (v := .ref q2) (ty := .object "java/util/ArrayList") (C := RX18) (T := TX18) (N := 28) hx hb hgw in_X18 tyX18 tyX18_ok nmX18 hown hK hP hD hS 0 rfl rfl 3 (by decide) (hgw _ m_10_0) (fun _ h9 => h9) rfl hnm rfl (by decide +kernel) rfl rfl (Nat.le_of_ble_eq_true rfl) dX18_init_20 (fun H locs hP hD hS => ?_)
  have hP : va_P D vwCl [(h0, .inr (22, [.int 0, .ref q1, .int 0, .ref q2, .null, .null, .int 0, .int 0, .int 0, .null, .int 0, .null, .int 0, .int 0, .null, .null, .null, .null, .null, .null, .int 0, .null, .int 0, .null, .null, .null, .null, .null])), (q1, .inl (dA 0, 24, .inl (fun _ => 0))), (q2, .inr (3, [.int 0, .ref tE, .int 0]))] H := hP
  have hD : va_D A [(h0, .inr (22, [.int 0, .ref q1, .int 0, .ref q2, .null, .null, .int 0, .int 0, .int 0, .null, .int 0, .null, .int 0, .int 0, .null, .null, .null, .null, .null, .null, .int 0, .null, .int 0, .null, .null, .null, .null, .null])), (q1, .inl (dA 0, 24, .inl (fun _ => 0))), (q2, .inr (3, [.int 0, .ref tE, .int 0]))] := hD
  refine lv_aload_n hx hb dX18_init_23 rfl (lv_at hl 0 rfl) ?_
  refine va_new (ci := 3) (fs := [.int 0, .null, .int 0]) (C := RJx4a65c) (T := TJx4a65c) (N := 3) hx hb hgw in_Jx4a65c tyJx4a65c tyJx4a65c_ok hown (hgw _ m_9_175) (hgw _ m_9_176) (hgw _ m_1_18) hK hP hD hS hA rfl dv_Jx4a65c (Nat.le_of_ble_eq_true rfl) (Nat.le_of_ble_eq_true rfl) dX18_init_24 (fun q3 H hP hD hS => ?_)
  have hP : va_P D vwCl [(h0, .inr (22, [.int 0, .ref q1, .int 0, .ref q2, .null, .null, .int 0, .int 0, .int 0, .null, .int 0, .null, .int 0, .int 0, .null, .null, .null, .null, .null, .null, .int 0, .null, .int 0, .null, .null, .null, .null, .null])), (q1, .inl (dA 0, 24, .inl (fun _ => 0))), (q2, .inr (3, [.int 0, .ref tE, .int 0])), (q3, .inr (3, [.int 0, .null, .int 0]))] H := hP
  have hD : va_D A [(h0, .inr (22, [.int 0, .ref q1, .int 0, .ref q2, .null, .null, .int 0, .int 0, .int 0, .null, .int 0, .null, .int 0, .int 0, .null, .null, .null, .null, .null, .null, .int 0, .null, .int 0, .null, .null, .null, .null, .null])), (q1, .inl (dA 0, 24, .inl (fun _ => 0))), (q2, .inr (3, [.int 0, .ref tE, .int 0])), (q3, .inr (3, [.int 0, .null, .int 0]))] := hD
  refine lv_dup hx hb dX18_init_27 rfl ?_
  refine kq_I (As := []) (rest := [.ref q3, .ref h0]) (wr := [(h0, .inr (22, [.int 0, .ref q1, .int 0, .ref q2, .null, .null, .int 0, .int 0, .int 0, .null, .int 0, .null, .int 0, .int 0, .null, .null, .null, .null, .null, .null, .int 0, .null, .int 0, .null, .null, .null, .null, .null])), (q1, .inl (dA 0, 24, .inl (fun _ => 0))), (q2, .inr (3, [.int 0, .ref tE, .int 0]))]) hx hb hml hown hgw hK hG hA hP hD hS (c_Jx4a65c_init_da8c8 l hfl D dA tE tC q3) m_9_177 m_9_178 m_1_18 m_9_179 rfl hd_Jx4a65c_init_da8c8 rfl rfl ⟨(Nat.le_of_ble_eq_true rfl), (Nat.le_of_ble_eq_true rfl)⟩ [3] [0, 1, 2] rfl rfl rfl rfl (by decide) hl.1 rfl (Nat.le_of_ble_eq_true rfl) dX18_init_28 ⟨(Nat.le_of_ble_eq_true rfl), (Nat.le_of_ble_eq_true rfl)⟩ (fun v w1 H locs hQ hP hD hS => ?_)
  obtain ⟨rfl, rfl⟩ := hQ
  refine W.eq (g2 := F0 m 31 ls [.ref q3, .ref h0]) rfl ?_
  have hP : va_P D vwCl [(h0, .inr (22, [.int 0, .ref q1, .int 0, .ref q2, .null, .null, .int 0, .int 0, .int 0, .null, .int 0, .null, .int 0, .int 0, .null, .null, .null, .null, .null, .null, .int 0, .null, .int 0, .null, .null, .null, .null, .null])), (q1, .inl (dA 0, 24, .inl (fun _ => 0))), (q2, .inr (3, [.int 0, .ref tE, .int 0])), (q3, .inr (3, [.int 0, .ref tE, .int 0]))] H := hP
  have hD : va_D A [(h0, .inr (22, [.int 0, .ref q1, .int 0, .ref q2, .null, .null, .int 0, .int 0, .int 0, .null, .int 0, .null, .int 0, .int 0, .null, .null, .null, .null, .null, .null, .int 0, .null, .int 0, .null, .null, .null, .null, .null])), (q1, .inl (dA 0, 24, .inl (fun _ => 0))), (q2, .inr (3, [.int 0, .ref tE, .int 0])), (q3, .inr (3, [.int 0, .ref tE, .int 0]))] := hD
  refine va_putF (D := D) (ci := 22) (v := .ref q3) (ty := .object "java/util/ArrayList") (C := RX18) (T := TX18) (N := 28) hx hb hgw in_X18 tyX18 tyX18_ok nmX18 hown hK hP hD hS 0 rfl rfl 4 (by decide) (hgw _ m_10_1) (fun _ h9 => h9) rfl hnm rfl (by decide +kernel) rfl rfl (Nat.le_of_ble_eq_true rfl) dX18_init_31 (fun H locs hP hD hS => ?_)
  have hP : va_P D vwCl [(h0, .inr (22, [.int 0, .ref q1, .int 0, .ref q2, .ref q3, .null, .int 0, .int 0, .int 0, .null, .int 0, .null, .int 0, .int 0, .null, .null, .null, .null, .null, .null, .int 0, .null, .int 0, .null, .null, .null, .null, .null])), (q1, .inl (dA 0, 24, .inl (fun _ => 0))), (q2, .inr (3, [.int 0, .ref tE, .int 0])), (q3, .inr (3, [.int 0, .ref tE, .int 0]))] H := hP
  have hD : va_D A [(h0, .inr (22, [.int 0, .ref q1, .int 0, .ref q2, .ref q3, .null, .int 0, .int 0, .int 0, .null, .int 0, .null, .int 0, .int 0, .null, .null, .null, .null, .null, .null, .int 0, .null, .int 0, .null, .null, .null, .null, .null])), (q1, .inl (dA 0, 24, .inl (fun _ => 0))), (q2, .inr (3, [.int 0, .ref tE, .int 0])), (q3, .inr (3, [.int 0, .ref tE, .int 0]))] := hD
  refine lv_aload_n hx hb dX18_init_34 rfl (lv_at hl 0 rfl) ?_
  refine va_new (ci := 3) (fs := [.int 0, .null, .int 0]) (C := RJx4a65c) (T := TJx4a65c) (N := 3) hx hb hgw in_Jx4a65c tyJx4a65c tyJx4a65c_ok hown (hgw _ m_9_175) (hgw _ m_9_176) (hgw _ m_1_18) hK hP hD hS hA rfl dv_Jx4a65c (Nat.le_of_ble_eq_true rfl) (Nat.le_of_ble_eq_true rfl) dX18_init_35 (fun q4 H hP hD hS => ?_)
  have hP : va_P D vwCl [(h0, .inr (22, [.int 0, .ref q1, .int 0, .ref q2, .ref q3, .null, .int 0, .int 0, .int 0, .null, .int 0, .null, .int 0, .int 0, .null, .null, .null, .null, .null, .null, .int 0, .null, .int 0, .null, .null, .null, .null, .null])), (q1, .inl (dA 0, 24, .inl (fun _ => 0))), (q2, .inr (3, [.int 0, .ref tE, .int 0])), (q3, .inr (3, [.int 0, .ref tE, .int 0])), (q4, .inr (3, [.int 0, .null, .int 0]))] H := hP
  have hD : va_D A [(h0, .inr (22, [.int 0, .ref q1, .int 0, .ref q2, .ref q3, .null, .int 0, .int 0, .int 0, .null, .int 0, .null, .int 0, .int 0, .null, .null, .null, .null, .null, .null, .int 0, .null, .int 0, .null, .null, .null, .null, .null])), (q1, .inl (dA 0, 24, .inl (fun _ => 0))), (q2, .inr (3, [.int 0, .ref tE, .int 0])), (q3, .inr (3, [.int 0, .ref tE, .int 0])), (q4, .inr (3, [.int 0, .null, .int 0]))] := hD
  refine lv_dup hx hb dX18_init_38 rfl ?_
  refine kq_I (As := []) (rest := [.ref q4, .ref h0]) (wr := [(h0, .inr (22, [.int 0, .ref q1, .int 0, .ref q2, .ref q3, .null, .int 0, .int 0, .int 0, .null, .int 0, .null, .int 0, .int 0, .null, .null, .null, .null, .null, .null, .int 0, .null, .int 0, .null, .null, .null, .null, .null])), (q1, .inl (dA 0, 24, .inl (fun _ => 0))), (q2, .inr (3, [.int 0, .ref tE, .int 0])), (q3, .inr (3, [.int 0, .ref tE, .int 0]))]) hx hb hml hown hgw hK hG hA hP hD hS (c_Jx4a65c_init_da8c8 l hfl D dA tE tC q4) m_9_177 m_9_178 m_1_18 m_9_179 rfl hd_Jx4a65c_init_da8c8 rfl rfl ⟨(Nat.le_of_ble_eq_true rfl), (Nat.le_of_ble_eq_true rfl)⟩ [4] [0, 1, 2, 3] rfl rfl rfl rfl (by decide) hl.1 rfl (Nat.le_of_ble_eq_true rfl) dX18_init_39 ⟨(Nat.le_of_ble_eq_true rfl), (Nat.le_of_ble_eq_true rfl)⟩ (fun v w1 H locs hQ hP hD hS => ?_)
  obtain ⟨rfl, rfl⟩ := hQ
  refine W.eq (g2 := F0 m 42 ls [.ref q4, .ref h0]) rfl ?_
  have hP : va_P D vwCl [(h0, .inr (22, [.int 0, .ref q1, .int 0, .ref q2, .ref q3, .null, .int 0, .int 0, .int 0, .null, .int 0, .null, .int 0, .int 0, .null, .null, .null, .null, .null, .null, .int 0, .null, .int 0, .null, .null, .null, .null, .null])), (q1, .inl (dA 0, 24, .inl (fun _ => 0))), (q2, .inr (3, [.int 0, .ref tE, .int 0])), (q3, .inr (3, [.int 0, .ref tE, .int 0])), (q4, .inr (3, [.int 0, .ref tE, .int 0]))] H := hP
  have hD : va_D A [(h0, .inr (22, [.int 0, .ref q1, .int 0, .ref q2, .ref q3, .null, .int 0, .int 0, .int 0, .null, .int 0, .null, .int 0, .int 0, .null, .null, .null, .null, .null, .null, .int 0, .null, .int 0, .null, .null, .null, .null, .null])), (q1, .inl (dA 0, 24, .inl (fun _ => 0))), (q2, .inr (3, [.int 0, .ref tE, .int 0])), (q3, .inr (3, [.int 0, .ref tE, .int 0])), (q4, .inr (3, [.int 0, .ref tE, .int 0]))] := hD
  refine va_putF (D := D) (ci := 22) (v := .ref q4) (ty := .object "java/util/ArrayList") (C := RX18) (T := TX18) (N := 28) hx hb hgw in_X18 tyX18 tyX18_ok nmX18 hown hK hP hD hS 0 rfl rfl 5 (by decide) (hgw _ m_10_2) (fun _ h9 => h9) rfl hnm rfl (by decide +kernel) rfl rfl (Nat.le_of_ble_eq_true rfl) dX18_init_42 (fun H locs hP hD hS => ?_)
  have hP : va_P D vwCl [(h0, .inr (22, [.int 0, .ref q1, .int 0, .ref q2, .ref q3, .ref q4, .int 0, .int 0, .int 0, .null, .int 0, .null, .int 0, .int 0, .null, .null, .null, .null, .null, .null, .int 0, .null, .int 0, .null, .null, .null, .null, .null])), (q1, .inl (dA 0, 24, .inl (fun _ => 0))), (q2, .inr (3, [.int 0, .ref tE, .int 0])), (q3, .inr (3, [.int 0, .ref tE, .int 0])), (q4, .inr (3, [.int 0, .ref tE, .int 0]))] H := hP
  have hD : va_D A [(h0, .inr (22, [.int 0, .ref q1, .int 0, .ref q2, .ref q3, .ref q4, .int 0, .int 0, .int 0, .null, .int 0, .null, .int 0, .int 0, .null, .null, .null, .null, .null, .null, .int 0, .null, .int 0, .null, .null, .null, .null, .null])), (q1, .inl (dA 0, 24, .inl (fun _ => 0))), (q2, .inr (3, [.int 0, .ref tE, .int 0])), (q3, .inr (3, [.int 0, .ref tE, .int 0])), (q4, .inr (3, [.int 0, .ref tE, .int 0]))] := hD
  refine lv_aload_n hx hb dX18_init_45 rfl (lv_at hl 0 rfl) ?_
  refine va_new (ci := 18) (fs := [.int 0, .int 0, .int 0, .int 0, .int 0, .null]) (C := RX14) (T := TX14) (N := 6) hx hb hgw in_X14 tyX14 tyX14_ok hown (hgw _ m_9_204) (hgw _ m_9_205) (hgw _ m_1_19) hK hP hD hS hA rfl dv_X14 (Nat.le_of_ble_eq_true rfl) (Nat.le_of_ble_eq_true rfl) dX18_init_46 (fun q5 H hP hD hS => ?_)
  have hP : va_P D vwCl [(h0, .inr (22, [.int 0, .ref q1, .int 0, .ref q2, .ref q3, .ref q4, .int 0, .int 0, .int 0, .null, .int 0, .null, .int 0, .int 0, .null, .null, .null, .null, .null, .null, .int 0, .null, .int 0, .null, .null, .null, .null, .null])), (q1, .inl (dA 0, 24, .inl (fun _ => 0))), (q2, .inr (3, [.int 0, .ref tE, .int 0])), (q3, .inr (3, [.int 0, .ref tE, .int 0])), (q4, .inr (3, [.int 0, .ref tE, .int 0])), (q5, .inr (18, [.int 0, .int 0, .int 0, .int 0, .int 0, .null]))] H := hP
  have hD : va_D A [(h0, .inr (22, [.int 0, .ref q1, .int 0, .ref q2, .ref q3, .ref q4, .int 0, .int 0, .int 0, .null, .int 0, .null, .int 0, .int 0, .null, .null, .null, .null, .null, .null, .int 0, .null, .int 0, .null, .null, .null, .null, .null])), (q1, .inl (dA 0, 24, .inl (fun _ => 0))), (q2, .inr (3, [.int 0, .ref tE, .int 0])), (q3, .inr (3, [.int 0, .ref tE, .int 0])), (q4, .inr (3, [.int 0, .ref tE, .int 0])), (q5, .inr (18, [.int 0, .int 0, .int 0, .int 0, .int 0, .null]))] := hD
  refine lv_dup hx hb dX18_init_49 rfl ?_
  refine kq_IN (As := []) (rest := [.ref q5, .ref h0]) (wr := [(h0, .inr (22, [.int 0, .ref q1, .int 0, .ref q2, .ref q3, .ref q4, .int 0, .int 0, .int 0, .null, .int 0, .null, .int 0, .int 0, .null, .null, .null, .null, .null, .null, .int 0, .null, .int 0, .null, .null, .null, .null, .null])), (q1, .inl (dA 0, 24, .inl (fun _ => 0))), (q2, .inr (3, [.int 0, .ref tE, .int 0])), (q3, .inr (3, [.int 0, .ref tE, .int 0])), (q4, .inr (3, [.int 0, .ref tE, .int 0]))]) hx hb hml hown hgw hK hG hA hP hD hS (c_X14_init l hfl D dA tE tC q5) n_m10 m_9_207 m_1_19 m_9_208 rfl hd_X14_init rfl rfl ⟨(Nat.le_of_ble_eq_true rfl), (Nat.le_of_ble_eq_true rfl)⟩ [5] [0, 1, 2, 3, 4] rfl rfl rfl rfl (by decide) hl.1 rfl (Nat.le_of_ble_eq_true rfl) dX18_init_50 ⟨(Nat.le_of_ble_eq_true rfl), (Nat.le_of_ble_eq_true rfl)⟩ (fun v w1 H locs hQ hP hD hS => ?_)
  obtain ⟨q6, rfl, rfl⟩ := hQ
  refine W.eq (g2 := F0 m 53 ls [.ref q5, .ref h0]) rfl ?_
  have hP : va_P D vwCl [(h0, .inr (22, [.int 0, .ref q1, .int 0, .ref q2, .ref q3, .ref q4, .int 0, .int 0, .int 0, .null, .int 0, .null, .int 0, .int 0, .null, .null, .null, .null, .null, .null, .int 0, .null, .int 0, .null, .null, .null, .null, .null])), (q1, .inl (dA 0, 24, .inl (fun _ => 0))), (q2, .inr (3, [.int 0, .ref tE, .int 0])), (q3, .inr (3, [.int 0, .ref tE, .int 0])), (q4, .inr (3, [.int 0, .ref tE, .int 0])), (q5, .inr (18, [.int 0, .int 0, .int 0, .int 0, .int 0, .ref q6]))] H := hP
  have hD : va_D A [(h0, .inr (22, [.int 0, .ref q1, .int 0, .ref q2, .ref q3, .ref q4, .int 0, .int 0, .int 0, .null, .int 0, .null, .int 0, .int 0, .null, .null, .null, .null, .null, .null, .int 0, .null, .int 0, .null, .null, .null, .null, .null])), (q1, .inl (dA 0, 24, .inl (fun _ => 0))), (q2, .inr (3, [.int 0, .ref tE, .int 0])), (q3, .inr (3, [.int 0, .ref tE, .int 0])), (q4, .inr (3, [.int 0, .ref tE, .int 0])), (q5, .inr (18, [.int 0, .int 0, .int 0, .int 0, .int 0, .ref q6]))] := hD
  refine va_put (D := D) (ci := 22) (v := .ref q5) (ty := .object "BlazonryModel$Blazon") (C := RX18) (T := TX18) (N := 28) hx hb hgw in_X18 tyX18 tyX18_ok nmX18 hown hK hP hD hS 0 rfl rfl 9 (by decide) (hgw _ m_10_6) (fun _ h9 => h9) rfl (by decide +kernel) rfl rfl (Nat.le_of_ble_eq_true rfl) dX18_init_53 (fun H locs hP hD hS => ?_)
  have hP : va_P D vwCl [(h0, .inr (22, [.int 0, .ref q1, .int 0, .ref q2, .ref q3, .ref q4, .int 0, .int 0, .int 0, .ref q5, .int 0, .null, .int 0, .int 0, .null, .null, .null, .null, .null, .null, .int 0, .null, .int 0, .null, .null, .null, .null, .null])), (q1, .inl (dA 0, 24, .inl (fun _ => 0))), (q2, .inr (3, [.int 0, .ref tE, .int 0])), (q3, .inr (3, [.int 0, .ref tE, .int 0])), (q4, .inr (3, [.int 0, .ref tE, .int 0])), (q5, .inr (18, [.int 0, .int 0, .int 0, .int 0, .int 0, .ref q6]))] H := hP
  have hD : va_D A [(h0, .inr (22, [.int 0, .ref q1, .int 0, .ref q2, .ref q3, .ref q4, .int 0, .int 0, .int 0, .ref q5, .int 0, .null, .int 0, .int 0, .null, .null, .null, .null, .null, .null, .int 0, .null, .int 0, .null, .null, .null, .null, .null])), (q1, .inl (dA 0, 24, .inl (fun _ => 0))), (q2, .inr (3, [.int 0, .ref tE, .int 0])), (q3, .inr (3, [.int 0, .ref tE, .int 0])), (q4, .inr (3, [.int 0, .ref tE, .int 0])), (q5, .inr (18, [.int 0, .int 0, .int 0, .int 0, .int 0, .ref q6]))] := hD
  refine lv_aload_n hx hb dX18_init_56 rfl (lv_at hl 0 rfl) ?_
  refine lv_bipush (v := 24) hx hb dX18_init_57 (by decide +kernel) ?_
  refine kq_newa hx hb 0 rfl rfl hgw m_1_136 hK hP hD hS hA (N' := 24) (a0 := (24, .inl (fun _ => 0))) (fun _ => rfl) (by decide +kernel) (by decide +kernel) (Nat.le_of_ble_eq_true rfl) (Nat.le_of_ble_eq_true rfl) (Nat.le_of_ble_eq_true rfl) dX18_init_59 (fun q7 H hP hD hS => ?_)
  have hP : va_P D vwCl [(h0, .inr (22, [.int 0, .ref q1, .int 0, .ref q2, .ref q3, .ref q4, .int 0, .int 0, .int 0, .ref q5, .int 0, .null, .int 0, .int 0, .null, .null, .null, .null, .null, .null, .int 0, .null, .int 0, .null, .null, .null, .null, .null])), (q1, .inl (dA 0, 24, .inl (fun _ => 0))), (q2, .inr (3, [.int 0, .ref tE, .int 0])), (q3, .inr (3, [.int 0, .ref tE, .int 0])), (q4, .inr (3, [.int 0, .ref tE, .int 0])), (q5, .inr (18, [.int 0, .int 0, .int 0, .int 0, .int 0, .ref q6])), (q7, .inl (dA 0, 24, .inl (fun _ => 0)))] H := hP
  have hD : va_D A [(h0, .inr (22, [.int 0, .ref q1, .int 0, .ref q2, .ref q3, .ref q4, .int 0, .int 0, .int 0, .ref q5, .int 0, .null, .int 0, .int 0, .null, .null, .null, .null, .null, .null, .int 0, .null, .int 0, .null, .null, .null, .null, .null])), (q1, .inl (dA 0, 24, .inl (fun _ => 0))), (q2, .inr (3, [.int 0, .ref tE, .int 0])), (q3, .inr (3, [.int 0, .ref tE, .int 0])), (q4, .inr (3, [.int 0, .ref tE, .int 0])), (q5, .inr (18, [.int 0, .int 0, .int 0, .int 0, .int 0, .ref q6])), (q7, .inl (dA 0, 24, .inl (fun _ => 0)))] := hD
  refine va_putF (D := D) (ci := 22) (v := .ref q7) (ty := .array .int) (C := RX18) (T := TX18) (N := 28) hx hb hgw in_X18 tyX18 tyX18_ok nmX18 hown hK hP hD hS 0 rfl rfl 11 (by decide) (hgw _ m_10_8) (fun _ h9 => h9) rfl hnm rfl (by decide +kernel) rfl rfl (Nat.le_of_ble_eq_true rfl) dX18_init_61 (fun H locs hP hD hS => ?_)
  have hP : va_P D vwCl [(h0, .inr (22, [.int 0, .ref q1, .int 0, .ref q2, .ref q3, .ref q4, .int 0, .int 0, .int 0, .ref q5, .int 0, .ref q7, .int 0, .int 0, .null, .null, .null, .null, .null, .null, .int 0, .null, .int 0, .null, .null, .null, .null, .null])), (q1, .inl (dA 0, 24, .inl (fun _ => 0))), (q2, .inr (3, [.int 0, .ref tE, .int 0])), (q3, .inr (3, [.int 0, .ref tE, .int 0])), (q4, .inr (3, [.int 0, .ref tE, .int 0])), (q5, .inr (18, [.int 0, .int 0, .int 0, .int 0, .int 0, .ref q6])), (q7, .inl (dA 0, 24, .inl (fun _ => 0)))] H := hP
  have hD : va_D A [(h0, .inr (22, [.int 0, .ref q1, .int 0, .ref q2, .ref q3, .ref q4, .int 0, .int 0, .int 0, .ref q5, .int 0, .ref q7, .int 0, .int 0, .null, .null, .null, .null, .null, .null, .int 0, .null, .int 0, .null, .null, .null, .null, .null])), (q1, .inl (dA 0, 24, .inl (fun _ => 0))), (q2, .inr (3, [.int 0, .ref tE, .int 0])), (q3, .inr (3, [.int 0, .ref tE, .int 0])), (q4, .inr (3, [.int 0, .ref tE, .int 0])), (q5, .inr (18, [.int 0, .int 0, .int 0, .int 0, .int 0, .ref q6])), (q7, .inl (dA 0, 24, .inl (fun _ => 0)))] := hD
  refine lv_aload_n hx hb dX18_init_64 rfl (lv_at hl 0 rfl) ?_
  refine lv_sipush (v := 256) hx hb dX18_init_65 (by decide +kernel) ?_
  refine kq_newa hx hb 1 rfl rfl hgw m_2_140 hK hP hD hS hA (N' := 256) (a0 := (256, .inl (fun _ => 0))) (fun _ => rfl) (by decide +kernel) (by decide +kernel) (Nat.le_of_ble_eq_true rfl) (Nat.le_of_ble_eq_true rfl) (Nat.le_of_ble_eq_true rfl) dX18_init_68 (fun q8 H hP hD hS => ?_)
  have hP : va_P D vwCl [(h0, .inr (22, [.int 0, .ref q1, .int 0, .ref q2, .ref q3, .ref q4, .int 0, .int 0, .int 0, .ref q5, .int 0, .ref q7, .int 0, .int 0, .null, .null, .null, .null, .null, .null, .int 0, .null, .int 0, .null, .null, .null, .null, .null])), (q1, .inl (dA 0, 24, .inl (fun _ => 0))), (q2, .inr (3, [.int 0, .ref tE, .int 0])), (q3, .inr (3, [.int 0, .ref tE, .int 0])), (q4, .inr (3, [.int 0, .ref tE, .int 0])), (q5, .inr (18, [.int 0, .int 0, .int 0, .int 0, .int 0, .ref q6])), (q7, .inl (dA 0, 24, .inl (fun _ => 0))), (q8, .inl (dA 1, 256, .inl (fun _ => 0)))] H := hP
  have hD : va_D A [(h0, .inr (22, [.int 0, .ref q1, .int 0, .ref q2, .ref q3, .ref q4, .int 0, .int 0, .int 0, .ref q5, .int 0, .ref q7, .int 0, .int 0, .null, .null, .null, .null, .null, .null, .int 0, .null, .int 0, .null, .null, .null, .null, .null])), (q1, .inl (dA 0, 24, .inl (fun _ => 0))), (q2, .inr (3, [.int 0, .ref tE, .int 0])), (q3, .inr (3, [.int 0, .ref tE, .int 0])), (q4, .inr (3, [.int 0, .ref tE, .int 0])), (q5, .inr (18, [.int 0, .int 0, .int 0, .int 0, .int 0, .ref q6])), (q7, .inl (dA 0, 24, .inl (fun _ => 0))), (q8, .inl (dA 1, 256, .inl (fun _ => 0)))] := hD
  refine va_putF (D := D) (ci := 22) (v := .ref q8) (ty := .array .boolean) (C := RX18) (T := TX18) (N := 28) hx hb hgw in_X18 tyX18 tyX18_ok nmX18 hown hK hP hD hS 0 rfl rfl 14 (by decide) (hgw _ m_10_11) (fun _ h9 => h9) rfl hnm rfl (by decide +kernel) rfl rfl (Nat.le_of_ble_eq_true rfl) dX18_init_70 (fun H locs hP hD hS => ?_)
  have hP : va_P D vwCl [(h0, .inr (22, [.int 0, .ref q1, .int 0, .ref q2, .ref q3, .ref q4, .int 0, .int 0, .int 0, .ref q5, .int 0, .ref q7, .int 0, .int 0, .ref q8, .null, .null, .null, .null, .null, .int 0, .null, .int 0, .null, .null, .null, .null, .null])), (q1, .inl (dA 0, 24, .inl (fun _ => 0))), (q2, .inr (3, [.int 0, .ref tE, .int 0])), (q3, .inr (3, [.int 0, .ref tE, .int 0])), (q4, .inr (3, [.int 0, .ref tE, .int 0])), (q5, .inr (18, [.int 0, .int 0, .int 0, .int 0, .int 0, .ref q6])), (q7, .inl (dA 0, 24, .inl (fun _ => 0))), (q8, .inl (dA 1, 256, .inl (fun _ => 0)))] H := hP
  have hD : va_D A [(h0, .inr (22, [.int 0, .ref q1, .int 0, .ref q2, .ref q3, .ref q4, .int 0, .int 0, .int 0, .ref q5, .int 0, .ref q7, .int 0, .int 0, .ref q8, .null, .null, .null, .null, .null, .int 0, .null, .int 0, .null, .null, .null, .null, .null])), (q1, .inl (dA 0, 24, .inl (fun _ => 0))), (q2, .inr (3, [.int 0, .ref tE, .int 0])), (q3, .inr (3, [.int 0, .ref tE, .int 0])), (q4, .inr (3, [.int 0, .ref tE, .int 0])), (q5, .inr (18, [.int 0, .int 0, .int 0, .int 0, .int 0, .ref q6])), (q7, .inl (dA 0, 24, .inl (fun _ => 0))), (q8, .inl (dA 1, 256, .inl (fun _ => 0)))] := hD
  refine lv_aload_n hx hb dX18_init_73 rfl (lv_at hl 0 rfl) ?_
  refine lv_sipush (v := 256) hx hb dX18_init_74 (by decide +kernel) ?_
  refine kq_newa hx hb 0 rfl rfl hgw m_1_136 hK hP hD hS hA (N' := 256) (a0 := (256, .inl (fun _ => 0))) (fun _ => rfl) (by decide +kernel) (by decide +kernel) (Nat.le_of_ble_eq_true rfl) (Nat.le_of_ble_eq_true rfl) (Nat.le_of_ble_eq_true rfl) dX18_init_77 (fun q9 H hP hD hS => ?_)
  have hP : va_P D vwCl [(h0, .inr (22, [.int 0, .ref q1, .int 0, .ref q2, .ref q3, .ref q4, .int 0, .int 0, .int 0, .ref q5, .int 0, .ref q7, .int 0, .int 0, .ref q8, .null, .null, .null, .null, .null, .int 0, .null, .int 0, .null, .null, .null, .null, .null])), (q1, .inl (dA 0, 24, .inl (fun _ => 0))), (q2, .inr (3, [.int 0, .ref tE, .int 0])), (q3, .inr (3, [.int 0, .ref tE, .int 0])), (q4, .inr (3, [.int 0, .ref tE, .int 0])), (q5, .inr (18, [.int 0, .int 0, .int 0, .int 0, .int 0, .ref q6])), (q7, .inl (dA 0, 24, .inl (fun _ => 0))), (q8, .inl (dA 1, 256, .inl (fun _ => 0))), (q9, .inl (dA 0, 256, .inl (fun _ => 0)))] H := hP
  have hD : va_D A [(h0, .inr (22, [.int 0, .ref q1, .int 0, .ref q2, .ref q3, .ref q4, .int 0, .int 0, .int 0, .ref q5, .int 0, .ref q7, .int 0, .int 0, .ref q8, .null, .null, .null, .null, .null, .int 0, .null, .int 0, .null, .null, .null, .null, .null])), (q1, .inl (dA 0, 24, .inl (fun _ => 0))), (q2, .inr (3, [.int 0, .ref tE, .int 0])), (q3, .inr (3, [.int 0, .ref tE, .int 0])), (q4, .inr (3, [.int 0, .ref tE, .int 0])), (q5, .inr (18, [.int 0, .int 0, .int 0, .int 0, .int 0, .ref q6])), (q7, .inl (dA 0, 24, .inl (fun _ => 0))), (q8, .inl (dA 1, 256, .inl (fun _ => 0))), (q9, .inl (dA 0, 256, .inl (fun _ => 0)))] := hD
  refine va_putF (D := D) (ci := 22) (v := .ref q9) (ty := .array .int) (C := RX18) (T := TX18) (N := 28) hx hb hgw in_X18 tyX18 tyX18_ok nmX18 hown hK hP hD hS 0 rfl rfl 15 (by decide) (hgw _ m_10_12) (fun _ h9 => h9) rfl hnm rfl (by decide +kernel) rfl rfl (Nat.le_of_ble_eq_true rfl) dX18_init_79 (fun H locs hP hD hS => ?_)
  have hP : va_P D vwCl [(h0, .inr (22, [.int 0, .ref q1, .int 0, .ref q2, .ref q3, .ref q4, .int 0, .int 0, .int 0, .ref q5, .int 0, .ref q7, .int 0, .int 0, .ref q8, .ref q9, .null, .null, .null, .null, .int 0, .null, .int 0, .null, .null, .null, .null, .null])), (q1, .inl (dA 0, 24, .inl (fun _ => 0))), (q2, .inr (3, [.int 0, .ref tE, .int 0])), (q3, .inr (3, [.int 0, .ref tE, .int 0])), (q4, .inr (3, [.int 0, .ref tE, .int 0])), (q5, .inr (18, [.int 0, .int 0, .int 0, .int 0, .int 0, .ref q6])), (q7, .inl (dA 0, 24, .inl (fun _ => 0))), (q8, .inl (dA 1, 256, .inl (fun _ => 0))), (q9, .inl (dA 0, 256, .inl (fun _ => 0)))] H := hP
  have hD : va_D A [(h0, .inr (22, [.int 0, .ref q1, .int 0, .ref q2, .ref q3, .ref q4, .int 0, .int 0, .int 0, .ref q5, .int 0, .ref q7, .int 0, .int 0, .ref q8, .ref q9, .null, .null, .null, .null, .int 0, .null, .int 0, .null, .null, .null, .null, .null])), (q1, .inl (dA 0, 24, .inl (fun _ => 0))), (q2, .inr (3, [.int 0, .ref tE, .int 0])), (q3, .inr (3, [.int 0, .ref tE, .int 0])), (q4, .inr (3, [.int 0, .ref tE, .int 0])), (q5, .inr (18, [.int 0, .int 0, .int 0, .int 0, .int 0, .ref q6])), (q7, .inl (dA 0, 24, .inl (fun _ => 0))), (q8, .inl (dA 1, 256, .inl (fun _ => 0))), (q9, .inl (dA 0, 256, .inl (fun _ => 0)))] := hD
  refine lv_aload_n hx hb dX18_init_82 rfl (lv_at hl 0 rfl) ?_
  refine lv_sipush (v := 256) hx hb dX18_init_83 (by decide +kernel) ?_
  refine kq_newa hx hb 0 rfl rfl hgw m_1_136 hK hP hD hS hA (N' := 256) (a0 := (256, .inl (fun _ => 0))) (fun _ => rfl) (by decide +kernel) (by decide +kernel) (Nat.le_of_ble_eq_true rfl) (Nat.le_of_ble_eq_true rfl) (Nat.le_of_ble_eq_true rfl) dX18_init_86 (fun q10 H hP hD hS => ?_)
  have hP : va_P D vwCl [(h0, .inr (22, [.int 0, .ref q1, .int 0, .ref q2, .ref q3, .ref q4, .int 0, .int 0, .int 0, .ref q5, .int 0, .ref q7, .int 0, .int 0, .ref q8, .ref q9, .null, .null, .null, .null, .int 0, .null, .int 0, .null, .null, .null, .null, .null])), (q1, .inl (dA 0, 24, .inl (fun _ => 0))), (q2, .inr (3, [.int 0, .ref tE, .int 0])), (q3, .inr (3, [.int 0, .ref tE, .int 0])), (q4, .inr (3, [.int 0, .ref tE, .int 0])), (q5, .inr (18, [.int 0, .int 0, .int 0, .int 0, .int 0, .ref q6])), (q7, .inl (dA 0, 24, .inl (fun _ => 0))), (q8, .inl (dA 1, 256, .inl (fun _ => 0))), (q9, .inl (dA 0, 256, .inl (fun _ => 0))), (q10, .inl (dA 0, 256, .inl (fun _ => 0)))] H := hP
  have hD : va_D A [(h0, .inr (22, [.int 0, .ref q1, .int 0, .ref q2, .ref q3, .ref q4, .int 0, .int 0, .int 0, .ref q5, .int 0, .ref q7, .int 0, .int 0, .ref q8, .ref q9, .null, .null, .null, .null, .int 0, .null, .int 0, .null, .null, .null, .null, .null])), (q1, .inl (dA 0, 24, .inl (fun _ => 0))), (q2, .inr (3, [.int 0, .ref tE, .int 0])), (q3, .inr (3, [.int 0, .ref tE, .int 0])), (q4, .inr (3, [.int 0, .ref tE, .int 0])), (q5, .inr (18, [.int 0, .int 0, .int 0, .int 0, .int 0, .ref q6])), (q7, .inl (dA 0, 24, .inl (fun _ => 0))), (q8, .inl (dA 1, 256, .inl (fun _ => 0))), (q9, .inl (dA 0, 256, .inl (fun _ => 0))), (q10, .inl (dA 0, 256, .inl (fun _ => 0)))] := hD
  refine va_putF (D := D) (ci := 22) (v := .ref q10) (ty := .array .int) (C := RX18) (T := TX18) (N := 28) hx hb hgw in_X18 tyX18 tyX18_ok nmX18 hown hK hP hD hS 0 rfl rfl 16 (by decide) (hgw _ m_10_13) (fun _ h9 => h9) rfl hnm rfl (by decide +kernel) rfl rfl (Nat.le_of_ble_eq_true rfl) dX18_init_88 (fun H locs hP hD hS => ?_)
  have hP : va_P D vwCl [(h0, .inr (22, [.int 0, .ref q1, .int 0, .ref q2, .ref q3, .ref q4, .int 0, .int 0, .int 0, .ref q5, .int 0, .ref q7, .int 0, .int 0, .ref q8, .ref q9, .ref q10, .null, .null, .null, .int 0, .null, .int 0, .null, .null, .null, .null, .null])), (q1, .inl (dA 0, 24, .inl (fun _ => 0))), (q2, .inr (3, [.int 0, .ref tE, .int 0])), (q3, .inr (3, [.int 0, .ref tE, .int 0])), (q4, .inr (3, [.int 0, .ref tE, .int 0])), (q5, .inr (18, [.int 0, .int 0, .int 0, .int 0, .int 0, .ref q6])), (q7, .inl (dA 0, 24, .inl (fun _ => 0))), (q8, .inl (dA 1, 256, .inl (fun _ => 0))), (q9, .inl (dA 0, 256, .inl (fun _ => 0))), (q10, .inl (dA 0, 256, .inl (fun _ => 0)))] H := hP
  have hD : va_D A [(h0, .inr (22, [.int 0, .ref q1, .int 0, .ref q2, .ref q3, .ref q4, .int 0, .int 0, .int 0, .ref q5, .int 0, .ref q7, .int 0, .int 0, .ref q8, .ref q9, .ref q10, .null, .null, .null, .int 0, .null, .int 0, .null, .null, .null, .null, .null])), (q1, .inl (dA 0, 24, .inl (fun _ => 0))), (q2, .inr (3, [.int 0, .ref tE, .int 0])), (q3, .inr (3, [.int 0, .ref tE, .int 0])), (q4, .inr (3, [.int 0, .ref tE, .int 0])), (q5, .inr (18, [.int 0, .int 0, .int 0, .int 0, .int 0, .ref q6])), (q7, .inl (dA 0, 24, .inl (fun _ => 0))), (q8, .inl (dA 1, 256, .inl (fun _ => 0))), (q9, .inl (dA 0, 256, .inl (fun _ => 0))), (q10, .inl (dA 0, 256, .inl (fun _ => 0)))] := hD
  refine lv_aload_n hx hb dX18_init_91 rfl (lv_at hl 0 rfl) ?_
  refine va_new (ci := 18) (fs := [.int 0, .int 0, .int 0, .int 0, .int 0, .null]) (C := RX14) (T := TX14) (N := 6) hx hb hgw in_X14 tyX14 tyX14_ok hown (hgw _ m_9_204) (hgw _ m_9_205) (hgw _ m_1_19) hK hP hD hS hA rfl dv_X14 (Nat.le_of_ble_eq_true rfl) (Nat.le_of_ble_eq_true rfl) dX18_init_92 (fun q11 H hP hD hS => ?_)
  have hP : va_P D vwCl [(h0, .inr (22, [.int 0, .ref q1, .int 0, .ref q2, .ref q3, .ref q4, .int 0, .int 0, .int 0, .ref q5, .int 0, .ref q7, .int 0, .int 0, .ref q8, .ref q9, .ref q10, .null, .null, .null, .int 0, .null, .int 0, .null, .null, .null, .null, .null])), (q1, .inl (dA 0, 24, .inl (fun _ => 0))), (q2, .inr (3, [.int 0, .ref tE, .int 0])), (q3, .inr (3, [.int 0, .ref tE, .int 0])), (q4, .inr (3, [.int 0, .ref tE, .int 0])), (q5, .inr (18, [.int 0, .int 0, .int 0, .int 0, .int 0, .ref q6])), (q7, .inl (dA 0, 24, .inl (fun _ => 0))), (q8, .inl (dA 1, 256, .inl (fun _ => 0))), (q9, .inl (dA 0, 256, .inl (fun _ => 0))), (q10, .inl (dA 0, 256, .inl (fun _ => 0))), (q11, .inr (18, [.int 0, .int 0, .int 0, .int 0, .int 0, .null]))] H := hP
  have hD : va_D A [(h0, .inr (22, [.int 0, .ref q1, .int 0, .ref q2, .ref q3, .ref q4, .int 0, .int 0, .int 0, .ref q5, .int 0, .ref q7, .int 0, .int 0, .ref q8, .ref q9, .ref q10, .null, .null, .null, .int 0, .null, .int 0, .null, .null, .null, .null, .null])), (q1, .inl (dA 0, 24, .inl (fun _ => 0))), (q2, .inr (3, [.int 0, .ref tE, .int 0])), (q3, .inr (3, [.int 0, .ref tE, .int 0])), (q4, .inr (3, [.int 0, .ref tE, .int 0])), (q5, .inr (18, [.int 0, .int 0, .int 0, .int 0, .int 0, .ref q6])), (q7, .inl (dA 0, 24, .inl (fun _ => 0))), (q8, .inl (dA 1, 256, .inl (fun _ => 0))), (q9, .inl (dA 0, 256, .inl (fun _ => 0))), (q10, .inl (dA 0, 256, .inl (fun _ => 0))), (q11, .inr (18, [.int 0, .int 0, .int 0, .int 0, .int 0, .null]))] := hD
  refine lv_dup hx hb dX18_init_95 rfl ?_
  refine kq_IN (As := []) (rest := [.ref q11, .ref h0]) (wr := [(h0, .inr (22, [.int 0, .ref q1, .int 0, .ref q2, .ref q3, .ref q4, .int 0, .int 0, .int 0, .ref q5, .int 0, .ref q7, .int 0, .int 0, .ref q8, .ref q9, .ref q10, .null, .null, .null, .int 0, .null, .int 0, .null, .null, .null, .null, .null])), (q1, .inl (dA 0, 24, .inl (fun _ => 0))), (q2, .inr (3, [.int 0, .ref tE, .int 0])), (q3, .inr (3, [.int 0, .ref tE, .int 0])), (q4, .inr (3, [.int 0, .ref tE, .int 0])), (q5, .inr (18, [.int 0, .int 0, .int 0, .int 0, .int 0, .ref q6])), (q7, .inl (dA 0, 24, .inl (fun _ => 0))), (q8, .inl (dA 1, 256, .inl (fun _ => 0))), (q9, .inl (dA 0, 256, .inl (fun _ => 0))), (q10, .inl (dA 0, 256, .inl (fun _ => 0)))]) hx hb hml hown hgw hK hG hA hP hD hS (c_X14_init l hfl D dA tE tC q11) n_m10 m_9_207 m_1_19 m_9_208 rfl hd_X14_init rfl rfl ⟨(Nat.le_of_ble_eq_true rfl), (Nat.le_of_ble_eq_true rfl)⟩ [10] [0, 1, 2, 3, 4, 5, 6, 7, 8, 9] rfl rfl rfl rfl (by decide) hl.1 rfl (Nat.le_of_ble_eq_true rfl) dX18_init_96 ⟨(Nat.le_of_ble_eq_true rfl), (Nat.le_of_ble_eq_true rfl)⟩ (fun v w1 H locs hQ hP hD hS => ?_)
  obtain ⟨q12, rfl, rfl⟩ := hQ
  refine W.eq (g2 := F0 m 99 ls [.ref q11, .ref h0]) rfl ?_
  have hP : va_P D vwCl [(h0, .inr (22, [.int 0, .ref q1, .int 0, .ref q2, .ref q3, .ref q4, .int 0, .int 0, .int 0, .ref q5, .int 0, .ref q7, .int 0, .int 0, .ref q8, .ref q9, .ref q10, .null, .null, .null, .int 0, .null, .int 0, .null, .null, .null, .null, .null])), (q1, .inl (dA 0, 24, .inl (fun _ => 0))), (q2, .inr (3, [.int 0, .ref tE, .int 0])), (q3, .inr (3, [.int 0, .ref tE, .int 0])), (q4, .inr (3, [.int 0, .ref tE, .int 0])), (q5, .inr (18, [.int 0, .int 0, .int 0, .int 0, .int 0, .ref q6])), (q7, .inl (dA 0, 24, .inl (fun _ => 0))), (q8, .inl (dA 1, 256, .inl (fun _ => 0))), (q9, .inl (dA 0, 256, .inl (fun _ => 0))), (q10, .inl (dA 0, 256, .inl (fun _ => 0))), (q11, .inr (18, [.int 0, .int 0, .int 0, .int 0, .int 0, .ref q12]))] H := hP
  have hD : va_D A [(h0, .inr (22, [.int 0, .ref q1, .int 0, .ref q2, .ref q3, .ref q4, .int 0, .int 0, .int 0, .ref q5, .int 0, .ref q7, .int 0, .int 0, .ref q8, .ref q9, .ref q10, .null, .null, .null, .int 0, .null, .int 0, .null, .null, .null, .null, .null])), (q1, .inl (dA 0, 24, .inl (fun _ => 0))), (q2, .inr (3, [.int 0, .ref tE, .int 0])), (q3, .inr (3, [.int 0, .ref tE, .int 0])), (q4, .inr (3, [.int 0, .ref tE, .int 0])), (q5, .inr (18, [.int 0, .int 0, .int 0, .int 0, .int 0, .ref q6])), (q7, .inl (dA 0, 24, .inl (fun _ => 0))), (q8, .inl (dA 1, 256, .inl (fun _ => 0))), (q9, .inl (dA 0, 256, .inl (fun _ => 0))), (q10, .inl (dA 0, 256, .inl (fun _ => 0))), (q11, .inr (18, [.int 0, .int 0, .int 0, .int 0, .int 0, .ref q12]))] := hD
  refine va_putF (D := D) (ci := 22) (v := .ref q11) (ty := .object "BlazonryModel$Blazon") (C := RX18) (T := TX18) (N := 28) hx hb hgw in_X18 tyX18 tyX18_ok nmX18 hown hK hP hD hS 0 rfl rfl 17 (by decide) (hgw _ m_10_14) (fun _ h9 => h9) rfl hnm rfl (by decide +kernel) rfl rfl (Nat.le_of_ble_eq_true rfl) dX18_init_99 (fun H locs hP hD hS => ?_)
  have hP : va_P D vwCl [(h0, .inr (22, [.int 0, .ref q1, .int 0, .ref q2, .ref q3, .ref q4, .int 0, .int 0, .int 0, .ref q5, .int 0, .ref q7, .int 0, .int 0, .ref q8, .ref q9, .ref q10, .ref q11, .null, .null, .int 0, .null, .int 0, .null, .null, .null, .null, .null])), (q1, .inl (dA 0, 24, .inl (fun _ => 0))), (q2, .inr (3, [.int 0, .ref tE, .int 0])), (q3, .inr (3, [.int 0, .ref tE, .int 0])), (q4, .inr (3, [.int 0, .ref tE, .int 0])), (q5, .inr (18, [.int 0, .int 0, .int 0, .int 0, .int 0, .ref q6])), (q7, .inl (dA 0, 24, .inl (fun _ => 0))), (q8, .inl (dA 1, 256, .inl (fun _ => 0))), (q9, .inl (dA 0, 256, .inl (fun _ => 0))), (q10, .inl (dA 0, 256, .inl (fun _ => 0))), (q11, .inr (18, [.int 0, .int 0, .int 0, .int 0, .int 0, .ref q12]))] H := hP
  have hD : va_D A [(h0, .inr (22, [.int 0, .ref q1, .int 0, .ref q2, .ref q3, .ref q4, .int 0, .int 0, .int 0, .ref q5, .int 0, .ref q7, .int 0, .int 0, .ref q8, .ref q9, .ref q10, .ref q11, .null, .null, .int 0, .null, .int 0, .null, .null, .null, .null, .null])), (q1, .inl (dA 0, 24, .inl (fun _ => 0))), (q2, .inr (3, [.int 0, .ref tE, .int 0])), (q3, .inr (3, [.int 0, .ref tE, .int 0])), (q4, .inr (3, [.int 0, .ref tE, .int 0])), (q5, .inr (18, [.int 0, .int 0, .int 0, .int 0, .int 0, .ref q6])), (q7, .inl (dA 0, 24, .inl (fun _ => 0))), (q8, .inl (dA 1, 256, .inl (fun _ => 0))), (q9, .inl (dA 0, 256, .inl (fun _ => 0))), (q10, .inl (dA 0, 256, .inl (fun _ => 0))), (q11, .inr (18, [.int 0, .int 0, .int 0, .int 0, .int 0, .ref q12]))] := hD
  refine lv_aload_n hx hb dX18_init_102 rfl (lv_at hl 0 rfl) ?_
  refine va_new (ci := 18) (fs := [.int 0, .int 0, .int 0, .int 0, .int 0, .null]) (C := RX14) (T := TX14) (N := 6) hx hb hgw in_X14 tyX14 tyX14_ok hown (hgw _ m_9_204) (hgw _ m_9_205) (hgw _ m_1_19) hK hP hD hS hA rfl dv_X14 (Nat.le_of_ble_eq_true rfl) (Nat.le_of_ble_eq_true rfl) dX18_init_103 (fun q13 H hP hD hS => ?_)
  have hP : va_P D vwCl [(h0, .inr (22, [.int 0, .ref q1, .int 0, .ref q2, .ref q3, .ref q4, .int 0, .int 0, .int 0, .ref q5, .int 0, .ref q7, .int 0, .int 0, .ref q8, .ref q9, .ref q10, .ref q11, .null, .null, .int 0, .null, .int 0, .null, .null, .null, .null, .null])), (q1, .inl (dA 0, 24, .inl (fun _ => 0))), (q2, .inr (3, [.int 0, .ref tE, .int 0])), (q3, .inr (3, [.int 0, .ref tE, .int 0])), (q4, .inr (3, [.int 0, .ref tE, .int 0])), (q5, .inr (18, [.int 0, .int 0, .int 0, .int 0, .int 0, .ref q6])), (q7, .inl (dA 0, 24, .inl (fun _ => 0))), (q8, .inl (dA 1, 256, .inl (fun _ => 0))), (q9, .inl (dA 0, 256, .inl (fun _ => 0))), (q10, .inl (dA 0, 256, .inl (fun _ => 0))), (q11, .inr (18, [.int 0, .int 0, .int 0, .int 0, .int 0, .ref q12])), (q13, .inr (18, [.int 0, .int 0, .int 0, .int 0, .int 0, .null]))] H := hP
  have hD : va_D A [(h0, .inr (22, [.int 0, .ref q1, .int 0, .ref q2, .ref q3, .ref q4, .int 0, .int 0, .int 0, .ref q5, .int 0, .ref q7, .int 0, .int 0, .ref q8, .ref q9, .ref q10, .ref q11, .null, .null, .int 0, .null, .int 0, .null, .null, .null, .null, .null])), (q1, .inl (dA 0, 24, .inl (fun _ => 0))), (q2, .inr (3, [.int 0, .ref tE, .int 0])), (q3, .inr (3, [.int 0, .ref tE, .int 0])), (q4, .inr (3, [.int 0, .ref tE, .int 0])), (q5, .inr (18, [.int 0, .int 0, .int 0, .int 0, .int 0, .ref q6])), (q7, .inl (dA 0, 24, .inl (fun _ => 0))), (q8, .inl (dA 1, 256, .inl (fun _ => 0))), (q9, .inl (dA 0, 256, .inl (fun _ => 0))), (q10, .inl (dA 0, 256, .inl (fun _ => 0))), (q11, .inr (18, [.int 0, .int 0, .int 0, .int 0, .int 0, .ref q12])), (q13, .inr (18, [.int 0, .int 0, .int 0, .int 0, .int 0, .null]))] := hD
  refine lv_dup hx hb dX18_init_106 rfl ?_
  refine kq_IN (As := []) (rest := [.ref q13, .ref h0]) (wr := [(h0, .inr (22, [.int 0, .ref q1, .int 0, .ref q2, .ref q3, .ref q4, .int 0, .int 0, .int 0, .ref q5, .int 0, .ref q7, .int 0, .int 0, .ref q8, .ref q9, .ref q10, .ref q11, .null, .null, .int 0, .null, .int 0, .null, .null, .null, .null, .null])), (q1, .inl (dA 0, 24, .inl (fun _ => 0))), (q2, .inr (3, [.int 0, .ref tE, .int 0])), (q3, .inr (3, [.int 0, .ref tE, .int 0])), (q4, .inr (3, [.int 0, .ref tE, .int 0])), (q5, .inr (18, [.int 0, .int 0, .int 0, .int 0, .int 0, .ref q6])), (q7, .inl (dA 0, 24, .inl (fun _ => 0))), (q8, .inl (dA 1, 256, .inl (fun _ => 0))), (q9, .inl (dA 0, 256, .inl (fun _ => 0))), (q10, .inl (dA 0, 256, .inl (fun _ => 0))), (q11, .inr (18, [.int 0, .int 0, .int 0, .int 0, .int 0, .ref q12]))]) hx hb hml hown hgw hK hG hA hP hD hS (c_X14_init l hfl D dA tE tC q13) n_m10 m_9_207 m_1_19 m_9_208 rfl hd_X14_init rfl rfl ⟨(Nat.le_of_ble_eq_true rfl), (Nat.le_of_ble_eq_true rfl)⟩ [11] [0, 1, 2, 3, 4, 5, 6, 7, 8, 9, 10] rfl rfl rfl rfl (by decide) hl.1 rfl (Nat.le_of_ble_eq_true rfl) dX18_init_107 ⟨(Nat.le_of_ble_eq_true rfl), (Nat.le_of_ble_eq_true rfl)⟩ (fun v w1 H locs hQ hP hD hS => ?_)
  obtain ⟨q14, rfl, rfl⟩ := hQ
  refine W.eq (g2 := F0 m 110 ls [.ref q13, .ref h0]) rfl ?_
  have hP : va_P D vwCl [(h0, .inr (22, [.int 0, .ref q1, .int 0, .ref q2, .ref q3, .ref q4, .int 0, .int 0, .int 0, .ref q5, .int 0, .ref q7, .int 0, .int 0, .ref q8, .ref q9, .ref q10, .ref q11, .null, .null, .int 0, .null, .int 0, .null, .null, .null, .null, .null])), (q1, .inl (dA 0, 24, .inl (fun _ => 0))), (q2, .inr (3, [.int 0, .ref tE, .int 0])), (q3, .inr (3, [.int 0, .ref tE, .int 0])), (q4, .inr (3, [.int 0, .ref tE, .int 0])), (q5, .inr (18, [.int 0, .int 0, .int 0, .int 0, .int 0, .ref q6])), (q7, .inl (dA 0, 24, .inl (fun _ => 0))), (q8, .inl (dA 1, 256, .inl (fun _ => 0))), (q9, .inl (dA 0, 256, .inl (fun _ => 0))), (q10, .inl (dA 0, 256, .inl (fun _ => 0))), (q11, .inr (18, [.int 0, .int 0, .int 0, .int 0, .int 0, .ref q12])), (q13, .inr (18, [.int 0, .int 0, .int 0, .int 0, .int 0, .ref q14]))] H := hP
  have hD : va_D A [(h0, .inr (22, [.int 0, .ref q1, .int 0, .ref q2, .ref q3, .ref q4, .int 0, .int 0, .int 0, .ref q5, .int 0, .ref q7, .int 0, .int 0, .ref q8, .ref q9, .ref q10, .ref q11, .null, .null, .int 0, .null, .int 0, .null, .null, .null, .null, .null])), (q1, .inl (dA 0, 24, .inl (fun _ => 0))), (q2, .inr (3, [.int 0, .ref tE, .int 0])), (q3, .inr (3, [.int 0, .ref tE, .int 0])), (q4, .inr (3, [.int 0, .ref tE, .int 0])), (q5, .inr (18, [.int 0, .int 0, .int 0, .int 0, .int 0, .ref q6])), (q7, .inl (dA 0, 24, .inl (fun _ => 0))), (q8, .inl (dA 1, 256, .inl (fun _ => 0))), (q9, .inl (dA 0, 256, .inl (fun _ => 0))), (q10, .inl (dA 0, 256, .inl (fun _ => 0))), (q11, .inr (18, [.int 0, .int 0, .int 0, .int 0, .int 0, .ref q12])), (q13, .inr (18, [.int 0, .int 0, .int 0, .int 0, .int 0, .ref q14]))] := hD
  refine va_putF (D := D) (ci := 22) (v := .ref q13) (ty := .object "BlazonryModel$Blazon") (C := RX18) (T := TX18) (N := 28) hx hb hgw in_X18 tyX18 tyX18_ok nmX18 hown hK hP hD hS 0 rfl rfl 18 (by decide) (hgw _ m_10_15) (fun _ h9 => h9) rfl hnm rfl (by decide +kernel) rfl rfl (Nat.le_of_ble_eq_true rfl) dX18_init_110 (fun H locs hP hD hS => ?_)
  have hP : va_P D vwCl [(h0, .inr (22, [.int 0, .ref q1, .int 0, .ref q2, .ref q3, .ref q4, .int 0, .int 0, .int 0, .ref q5, .int 0, .ref q7, .int 0, .int 0, .ref q8, .ref q9, .ref q10, .ref q11, .ref q13, .null, .int 0, .null, .int 0, .null, .null, .null, .null, .null])), (q1, .inl (dA 0, 24, .inl (fun _ => 0))), (q2, .inr (3, [.int 0, .ref tE, .int 0])), (q3, .inr (3, [.int 0, .ref tE, .int 0])), (q4, .inr (3, [.int 0, .ref tE, .int 0])), (q5, .inr (18, [.int 0, .int 0, .int 0, .int 0, .int 0, .ref q6])), (q7, .inl (dA 0, 24, .inl (fun _ => 0))), (q8, .inl (dA 1, 256, .inl (fun _ => 0))), (q9, .inl (dA 0, 256, .inl (fun _ => 0))), (q10, .inl (dA 0, 256, .inl (fun _ => 0))), (q11, .inr (18, [.int 0, .int 0, .int 0, .int 0, .int 0, .ref q12])), (q13, .inr (18, [.int 0, .int 0, .int 0, .int 0, .int 0, .ref q14]))] H := hP
  have hD : va_D A [(h0, .inr (22, [.int 0, .ref q1, .int 0, .ref q2, .ref q3, .ref q4, .int 0, .int 0, .int 0, .ref q5, .int 0, .ref q7, .int 0, .int 0, .ref q8, .ref q9, .ref q10, .ref q11, .ref q13, .null, .int 0, .null, .int 0, .null, .null, .null, .null, .null])), (q1, .inl (dA 0, 24, .inl (fun _ => 0))), (q2, .inr (3, [.int 0, .ref tE, .int 0])), (q3, .inr (3, [.int 0, .ref tE, .int 0])), (q4, .inr (3, [.int 0, .ref tE, .int 0])), (q5, .inr (18, [.int 0, .int 0, .int 0, .int 0, .int 0, .ref q6])), (q7, .inl (dA 0, 24, .inl (fun _ => 0))), (q8, .inl (dA 1, 256, .inl (fun _ => 0))), (q9, .inl (dA 0, 256, .inl (fun _ => 0))), (q10, .inl (dA 0, 256, .inl (fun _ => 0))), (q11, .inr (18, [.int 0, .int 0, .int 0, .int 0, .int 0, .ref q12])), (q13, .inr (18, [.int 0, .int 0, .int 0, .int 0, .int 0, .ref q14]))] := hD
  refine lv_aload_n hx hb dX18_init_113 rfl (lv_at hl 0 rfl) ?_
  refine lv_bipush (v := 64) hx hb dX18_init_114 (by decide +kernel) ?_
  refine kq_newa hx hb 0 rfl rfl hgw m_1_136 hK hP hD hS hA (N' := 64) (a0 := (64, .inl (fun _ => 0))) (fun _ => rfl) (by decide +kernel) (by decide +kernel) (Nat.le_of_ble_eq_true rfl) (Nat.le_of_ble_eq_true rfl) (Nat.le_of_ble_eq_true rfl) dX18_init_116 (fun q15 H hP hD hS => ?_)
  have hP : va_P D vwCl [(h0, .inr (22, [.int 0, .ref q1, .int 0, .ref q2, .ref q3, .ref q4, .int 0, .int 0, .int 0, .ref q5, .int 0, .ref q7, .int 0, .int 0, .ref q8, .ref q9, .ref q10, .ref q11, .ref q13, .null, .int 0, .null, .int 0, .null, .null, .null, .null, .null])), (q1, .inl (dA 0, 24, .inl (fun _ => 0))), (q2, .inr (3, [.int 0, .ref tE, .int 0])), (q3, .inr (3, [.int 0, .ref tE, .int 0])), (q4, .inr (3, [.int 0, .ref tE, .int 0])), (q5, .inr (18, [.int 0, .int 0, .int 0, .int 0, .int 0, .ref q6])), (q7, .inl (dA 0, 24, .inl (fun _ => 0))), (q8, .inl (dA 1, 256, .inl (fun _ => 0))), (q9, .inl (dA 0, 256, .inl (fun _ => 0))), (q10, .inl (dA 0, 256, .inl (fun _ => 0))), (q11, .inr (18, [.int 0, .int 0, .int 0, .int 0, .int 0, .ref q12])), (q13, .inr (18, [.int 0, .int 0, .int 0, .int 0, .int 0, .ref q14])), (q15, .inl (dA 0, 64, .inl (fun _ => 0)))] H := hP
  have hD : va_D A [(h0, .inr (22, [.int 0, .ref q1, .int 0, .ref q2, .ref q3, .ref q4, .int 0, .int 0, .int 0, .ref q5, .int 0, .ref q7, .int 0, .int 0, .ref q8, .ref q9, .ref q10, .ref q11, .ref q13, .null, .int 0, .null, .int 0, .null, .null, .null, .null, .null])), (q1, .inl (dA 0, 24, .inl (fun _ => 0))), (q2, .inr (3, [.int 0, .ref tE, .int 0])), (q3, .inr (3, [.int 0, .ref tE, .int 0])), (q4, .inr (3, [.int 0, .ref tE, .int 0])), (q5, .inr (18, [.int 0, .int 0, .int 0, .int 0, .int 0, .ref q6])), (q7, .inl (dA 0, 24, .inl (fun _ => 0))), (q8, .inl (dA 1, 256, .inl (fun _ => 0))), (q9, .inl (dA 0, 256, .inl (fun _ => 0))), (q10, .inl (dA 0, 256, .inl (fun _ => 0))), (q11, .inr (18, [.int 0, .int 0, .int 0, .int 0, .int 0, .ref q12])), (q13, .inr (18, [.int 0, .int 0, .int 0, .int 0, .int 0, .ref q14])), (q15, .inl (dA 0, 64, .inl (fun _ => 0)))] := hD
  refine va_putF (D := D) (ci := 22) (v := .ref q15) (ty := .array .int) (C := RX18) (T := TX18) (N := 28) hx hb hgw in_X18 tyX18 tyX18_ok nmX18 hown hK hP hD hS 0 rfl rfl 19 (by decide) (hgw _ m_10_16) (fun _ h9 => h9) rfl hnm rfl (by decide +kernel) rfl rfl (Nat.le_of_ble_eq_true rfl) dX18_init_118 (fun H locs hP hD hS => ?_)
  have hP : va_P D vwCl [(h0, .inr (22, [.int 0, .ref q1, .int 0, .ref q2, .ref q3, .ref q4, .int 0, .int 0, .int 0, .ref q5, .int 0, .ref q7, .int 0, .int 0, .ref q8, .ref q9, .ref q10, .ref q11, .ref q13, .ref q15, .int 0, .null, .int 0, .null, .null, .null, .null, .null])), (q1, .inl (dA 0, 24, .inl (fun _ => 0))), (q2, .inr (3, [.int 0, .ref tE, .int 0])), (q3, .inr (3, [.int 0, .ref tE, .int 0])), (q4, .inr (3, [.int 0, .ref tE, .int 0])), (q5, .inr (18, [.int 0, .int 0, .int 0, .int 0, .int 0, .ref q6])), (q7, .inl (dA 0, 24, .inl (fun _ => 0))), (q8, .inl (dA 1, 256, .inl (fun _ => 0))), (q9, .inl (dA 0, 256, .inl (fun _ => 0))), (q10, .inl (dA 0, 256, .inl (fun _ => 0))), (q11, .inr (18, [.int 0, .int 0, .int 0, .int 0, .int 0, .ref q12])), (q13, .inr (18, [.int 0, .int 0, .int 0, .int 0, .int 0, .ref q14])), (q15, .inl (dA 0, 64, .inl (fun _ => 0)))] H := hP
  have hD : va_D A [(h0, .inr (22, [.int 0, .ref q1, .int 0, .ref q2, .ref q3, .ref q4, .int 0, .int 0, .int 0, .ref q5, .int 0, .ref q7, .int 0, .int 0, .ref q8, .ref q9, .ref q10, .ref q11, .ref q13, .ref q15, .int 0, .null, .int 0, .null, .null, .null, .null, .null])), (q1, .inl (dA 0, 24, .inl (fun _ => 0))), (q2, .inr (3, [.int 0, .ref tE, .int 0])), (q3, .inr (3, [.int 0, .ref tE, .int 0])), (q4, .inr (3, [.int 0, .ref tE, .int 0])), (q5, .inr (18, [.int 0, .int 0, .int 0, .int 0, .int 0, .ref q6])), (q7, .inl (dA 0, 24, .inl (fun _ => 0))), (q8, .inl (dA 1, 256, .inl (fun _ => 0))), (q9, .inl (dA 0, 256, .inl (fun _ => 0))), (q10, .inl (dA 0, 256, .inl (fun _ => 0))), (q11, .inr (18, [.int 0, .int 0, .int 0, .int 0, .int 0, .ref q12])), (q13, .inr (18, [.int 0, .int 0, .int 0, .int 0, .int 0, .ref q14])), (q15, .inl (dA 0, 64, .inl (fun _ => 0)))] := hD
  refine lv_aload_n hx hb dX18_init_121 rfl (lv_at hl 0 rfl) ?_
  refine lv_bipush (v := 64) hx hb dX18_init_122 (by decide +kernel) ?_
  refine kq_newa hx hb 0 rfl rfl hgw m_1_136 hK hP hD hS hA (N' := 64) (a0 := (64, .inl (fun _ => 0))) (fun _ => rfl) (by decide +kernel) (by decide +kernel) (Nat.le_of_ble_eq_true rfl) (Nat.le_of_ble_eq_true rfl) (Nat.le_of_ble_eq_true rfl) dX18_init_124 (fun q16 H hP hD hS => ?_)
  have hP : va_P D vwCl [(h0, .inr (22, [.int 0, .ref q1, .int 0, .ref q2, .ref q3, .ref q4, .int 0, .int 0, .int 0, .ref q5, .int 0, .ref q7, .int 0, .int 0, .ref q8, .ref q9, .ref q10, .ref q11, .ref q13, .ref q15, .int 0, .null, .int 0, .null, .null, .null, .null, .null])), (q1, .inl (dA 0, 24, .inl (fun _ => 0))), (q2, .inr (3, [.int 0, .ref tE, .int 0])), (q3, .inr (3, [.int 0, .ref tE, .int 0])), (q4, .inr (3, [.int 0, .ref tE, .int 0])), (q5, .inr (18, [.int 0, .int 0, .int 0, .int 0, .int 0, .ref q6])), (q7, .inl (dA 0, 24, .inl (fun _ => 0))), (q8, .inl (dA 1, 256, .inl (fun _ => 0))), (q9, .inl (dA 0, 256, .inl (fun _ => 0))), (q10, .inl (dA 0, 256, .inl (fun _ => 0))), (q11, .inr (18, [.int 0, .int 0, .int 0, .int 0, .int 0, .ref q12])), (q13, .inr (18, [.int 0, .int 0, .int 0, .int 0, .int 0, .ref q14])), (q15, .inl (dA 0, 64, .inl (fun _ => 0))), (q16, .inl (dA 0, 64, .inl (fun _ => 0)))] H := hP
  have hD : va_D A [(h0, .inr (22, [.int 0, .ref q1, .int 0, .ref q2, .ref q3, .ref q4, .int 0, .int 0, .int 0, .ref q5, .int 0, .ref q7, .int 0, .int 0, .ref q8, .ref q9, .ref q10, .ref q11, .ref q13, .ref q15, .int 0, .null, .int 0, .null, .null, .null, .null, .null])), (q1, .inl (dA 0, 24, .inl (fun _ => 0))), (q2, .inr (3, [.int 0, .ref tE, .int 0])), (q3, .inr (3, [.int 0, .ref tE, .int 0])), (q4, .inr (3, [.int 0, .ref tE, .int 0])), (q5, .inr (18, [.int 0, .int 0, .int 0, .int 0, .int 0, .ref q6])), (q7, .inl (dA 0, 24, .inl (fun _ => 0))), (q8, .inl (dA 1, 256, .inl (fun _ => 0))), (q9, .inl (dA 0, 256, .inl (fun _ => 0))), (q10, .inl (dA 0, 256, .inl (fun _ => 0))), (q11, .inr (18, [.int 0, .int 0, .int 0, .int 0, .int 0, .ref q12])), (q13, .inr (18, [.int 0, .int 0, .int 0, .int 0, .int 0, .ref q14])), (q15, .inl (dA 0, 64, .inl (fun _ => 0))), (q16, .inl (dA 0, 64, .inl (fun _ => 0)))] := hD
  refine va_putF (D := D) (ci := 22) (v := .ref q16) (ty := .array .int) (C := RX18) (T := TX18) (N := 28) hx hb hgw in_X18 tyX18 tyX18_ok nmX18 hown hK hP hD hS 0 rfl rfl 21 (by decide) (hgw _ m_10_18) (fun _ h9 => h9) rfl hnm rfl (by decide +kernel) rfl rfl (Nat.le_of_ble_eq_true rfl) dX18_init_126 (fun H locs hP hD hS => ?_)
  have hP : va_P D vwCl [(h0, .inr (22, [.int 0, .ref q1, .int 0, .ref q2, .ref q3, .ref q4, .int 0, .int 0, .int 0, .ref q5, .int 0, .ref q7, .int 0, .int 0, .ref q8, .ref q9, .ref q10, .ref q11, .ref q13, .ref q15, .int 0, .ref q16, .int 0, .null, .null, .null, .null, .null])), (q1, .inl (dA 0, 24, .inl (fun _ => 0))), (q2, .inr (3, [.int 0, .ref tE, .int 0])), (q3, .inr (3, [.int 0, .ref tE, .int 0])), (q4, .inr (3, [.int 0, .ref tE, .int 0])), (q5, .inr (18, [.int 0, .int 0, .int 0, .int 0, .int 0, .ref q6])), (q7, .inl (dA 0, 24, .inl (fun _ => 0))), (q8, .inl (dA 1, 256, .inl (fun _ => 0))), (q9, .inl (dA 0, 256, .inl (fun _ => 0))), (q10, .inl (dA 0, 256, .inl (fun _ => 0))), (q11, .inr (18, [.int 0, .int 0, .int 0, .int 0, .int 0, .ref q12])), (q13, .inr (18, [.int 0, .int 0, .int 0, .int 0, .int 0, .ref q14])), (q15, .inl (dA 0, 64, .inl (fun _ => 0))), (q16, .inl (dA 0, 64, .inl (fun _ => 0)))] H := hP
  have hD : va_D A [(h0, .inr (22, [.int 0, .ref q1, .int 0, .ref q2, .ref q3, .ref q4, .int 0, .int 0, .int 0, .ref q5, .int 0, .ref q7, .int 0, .int 0, .ref q8, .ref q9, .ref q10, .ref q11, .ref q13, .ref q15, .int 0, .ref q16, .int 0, .null, .null, .null, .null, .null])), (q1, .inl (dA 0, 24, .inl (fun _ => 0))), (q2, .inr (3, [.int 0, .ref tE, .int 0])), (q3, .inr (3, [.int 0, .ref tE, .int 0])), (q4, .inr (3, [.int 0, .ref tE, .int 0])), (q5, .inr (18, [.int 0, .int 0, .int 0, .int 0, .int 0, .ref q6])), (q7, .inl (dA 0, 24, .inl (fun _ => 0))), (q8, .inl (dA 1, 256, .inl (fun _ => 0))), (q9, .inl (dA 0, 256, .inl (fun _ => 0))), (q10, .inl (dA 0, 256, .inl (fun _ => 0))), (q11, .inr (18, [.int 0, .int 0, .int 0, .int 0, .int 0, .ref q12])), (q13, .inr (18, [.int 0, .int 0, .int 0, .int 0, .int 0, .ref q14])), (q15, .inl (dA 0, 64, .inl (fun _ => 0))), (q16, .inl (dA 0, 64, .inl (fun _ => 0)))] := hD
  refine lv_aload_n hx hb dX18_init_129 rfl (lv_at hl 0 rfl) ?_
  refine lv_bipush (v := 40) hx hb dX18_init_130 (by decide +kernel) ?_
  refine kq_newa hx hb 0 rfl rfl hgw m_1_136 hK hP hD hS hA (N' := 40) (a0 := (40, .inl (fun _ => 0))) (fun _ => rfl) (by decide +kernel) (by decide +kernel) (Nat.le_of_ble_eq_true rfl) (Nat.le_of_ble_eq_true rfl) (Nat.le_of_ble_eq_true rfl) dX18_init_132 (fun q17 H hP hD hS => ?_)
  have hP : va_P D vwCl [(h0, .inr (22, [.int 0, .ref q1, .int 0, .ref q2, .ref q3, .ref q4, .int 0, .int 0, .int 0, .ref q5, .int 0, .ref q7, .int 0, .int 0, .ref q8, .ref q9, .ref q10, .ref q11, .ref q13, .ref q15, .int 0, .ref q16, .int 0, .null, .null, .null, .null, .null])), (q1, .inl (dA 0, 24, .inl (fun _ => 0))), (q2, .inr (3, [.int 0, .ref tE, .int 0])), (q3, .inr (3, [.int 0, .ref tE, .int 0])), (q4, .inr (3, [.int 0, .ref tE, .int 0])), (q5, .inr (18, [.int 0, .int 0, .int 0, .int 0, .int 0, .ref q6])), (q7, .inl (dA 0, 24, .inl (fun _ => 0))), (q8, .inl (dA 1, 256, .inl (fun _ => 0))), (q9, .inl (dA 0, 256, .inl (fun _ => 0))), (q10, .inl (dA 0, 256, .inl (fun _ => 0))), (q11, .inr (18, [.int 0, .int 0, .int 0, .int 0, .int 0, .ref q12])), (q13, .inr (18, [.int 0, .int 0, .int 0, .int 0, .int 0, .ref q14])), (q15, .inl (dA 0, 64, .inl (fun _ => 0))), (q16, .inl (dA 0, 64, .inl (fun _ => 0))), (q17, .inl (dA 0, 40, .inl (fun _ => 0)))] H := hP
  have hD : va_D A [(h0, .inr (22, [.int 0, .ref q1, .int 0, .ref q2, .ref q3, .ref q4, .int 0, .int 0, .int 0, .ref q5, .int 0, .ref q7, .int 0, .int 0, .ref q8, .ref q9, .ref q10, .ref q11, .ref q13, .ref q15, .int 0, .ref q16, .int 0, .null, .null, .null, .null, .null])), (q1, .inl (dA 0, 24, .inl (fun _ => 0))), (q2, .inr (3, [.int 0, .ref tE, .int 0])), (q3, .inr (3, [.int 0, .ref tE, .int 0])), (q4, .inr (3, [.int 0, .ref tE, .int 0])), (q5, .inr (18, [.int 0, .int 0, .int 0, .int 0, .int 0, .ref q6])), (q7, .inl (dA 0, 24, .inl (fun _ => 0))), (q8, .inl (dA 1, 256, .inl (fun _ => 0))), (q9, .inl (dA 0, 256, .inl (fun _ => 0))), (q10, .inl (dA 0, 256, .inl (fun _ => 0))), (q11, .inr (18, [.int 0, .int 0, .int 0, .int 0, .int 0, .ref q12])), (q13, .inr (18, [.int 0, .int 0, .int 0, .int 0, .int 0, .ref q14])), (q15, .inl (dA 0, 64, .inl (fun _ => 0))), (q16, .inl (dA 0, 64, .inl (fun _ => 0))), (q17, .inl (dA 0, 40, .inl (fun _ => 0)))] := hD
  refine va_putF (D := D) (ci := 22) (v := .ref q17) (ty := .array .int) (C := RX18) (T := TX18) (N := 28) hx hb hgw in_X18 tyX18 tyX18_ok nmX18 hown hK hP hD hS 0 rfl rfl 23 (by decide) (hgw _ m_10_20) (fun _ h9 => h9) rfl hnm rfl (by decide +kernel) rfl rfl (Nat.le_of_ble_eq_true rfl) dX18_init_134 (fun H locs hP hD hS => ?_)
  have hP : va_P D vwCl [(h0, .inr (22, [.int 0, .ref q1, .int 0, .ref q2, .ref q3, .ref q4, .int 0, .int 0, .int 0, .ref q5, .int 0, .ref q7, .int 0, .int 0, .ref q8, .ref q9, .ref q10, .ref q11, .ref q13, .ref q15, .int 0, .ref q16, .int 0, .ref q17, .null, .null, .null, .null])), (q1, .inl (dA 0, 24, .inl (fun _ => 0))), (q2, .inr (3, [.int 0, .ref tE, .int 0])), (q3, .inr (3, [.int 0, .ref tE, .int 0])), (q4, .inr (3, [.int 0, .ref tE, .int 0])), (q5, .inr (18, [.int 0, .int 0, .int 0, .int 0, .int 0, .ref q6])), (q7, .inl (dA 0, 24, .inl (fun _ => 0))), (q8, .inl (dA 1, 256, .inl (fun _ => 0))), (q9, .inl (dA 0, 256, .inl (fun _ => 0))), (q10, .inl (dA 0, 256, .inl (fun _ => 0))), (q11, .inr (18, [.int 0, .int 0, .int 0, .int 0, .int 0, .ref q12])), (q13, .inr (18, [.int 0, .int 0, .int 0, .int 0, .int 0, .ref q14])), (q15, .inl (dA 0, 64, .inl (fun _ => 0))), (q16, .inl (dA 0, 64, .inl (fun _ => 0))), (q17, .inl (dA 0, 40, .inl (fun _ => 0)))] H := hP
  have hD : va_D A [(h0, .inr (22, [.int 0, .ref q1, .int 0, .ref q2, .ref q3, .ref q4, .int 0, .int 0, .int 0, .ref q5, .int 0, .ref q7, .int 0, .int 0, .ref q8, .ref q9, .ref q10, .ref q11, .ref q13, .ref q15, .int 0, .ref q16, .int 0, .ref q17, .null, .null, .null, .null])), (q1, .inl (dA 0, 24, .inl (fun _ => 0))), (q2, .inr (3, [.int 0, .ref tE, .int 0])), (q3, .inr (3, [.int 0, .ref tE, .int 0])), (q4, .inr (3, [.int 0, .ref tE, .int 0])), (q5, .inr (18, [.int 0, .int 0, .int 0, .int 0, .int 0, .ref q6])), (q7, .inl (dA 0, 24, .inl (fun _ => 0))), (q8, .inl (dA 1, 256, .inl (fun _ => 0))), (q9, .inl (dA 0, 256, .inl (fun _ => 0))), (q10, .inl (dA 0, 256, .inl (fun _ => 0))), (q11, .inr (18, [.int 0, .int 0, .int 0, .int 0, .int 0, .ref q12])), (q13, .inr (18, [.int 0, .int 0, .int 0, .int 0, .int 0, .ref q14])), (q15, .inl (dA 0, 64, .inl (fun _ => 0))), (q16, .inl (dA 0, 64, .inl (fun _ => 0))), (q17, .inl (dA 0, 40, .inl (fun _ => 0)))] := hD
  refine lv_aload_n hx hb dX18_init_137 rfl (lv_at hl 0 rfl) ?_
  refine lv_sipush (v := 320) hx hb dX18_init_138 (by decide +kernel) ?_
  refine kq_newa hx hb 0 rfl rfl hgw m_1_136 hK hP hD hS hA (N' := 320) (a0 := (320, .inl (fun _ => 0))) (fun _ => rfl) (by decide +kernel) (by decide +kernel) (Nat.le_of_ble_eq_true rfl) (Nat.le_of_ble_eq_true rfl) (Nat.le_of_ble_eq_true rfl) dX18_init_141 (fun q18 H hP hD hS => ?_)
  have hP : va_P D vwCl [(h0, .inr (22, [.int 0, .ref q1, .int 0, .ref q2, .ref q3, .ref q4, .int 0, .int 0, .int 0, .ref q5, .int 0, .ref q7, .int 0, .int 0, .ref q8, .ref q9, .ref q10, .ref q11, .ref q13, .ref q15, .int 0, .ref q16, .int 0, .ref q17, .null, .null, .null, .null])), (q1, .inl (dA 0, 24, .inl (fun _ => 0))), (q2, .inr (3, [.int 0, .ref tE, .int 0])), (q3, .inr (3, [.int 0, .ref tE, .int 0])), (q4, .inr (3, [.int 0, .ref tE, .int 0])), (q5, .inr (18, [.int 0, .int 0, .int 0, .int 0, .int 0, .ref q6])), (q7, .inl (dA 0, 24, .inl (fun _ => 0))), (q8, .inl (dA 1, 256, .inl (fun _ => 0))), (q9, .inl (dA 0, 256, .inl (fun _ => 0))), (q10, .inl (dA 0, 256, .inl (fun _ => 0))), (q11, .inr (18, [.int 0, .int 0, .int 0, .int 0, .int 0, .ref q12])), (q13, .inr (18, [.int 0, .int 0, .int 0, .int 0, .int 0, .ref q14])), (q15, .inl (dA 0, 64, .inl (fun _ => 0))), (q16, .inl (dA 0, 64, .inl (fun _ => 0))), (q17, .inl (dA 0, 40, .inl (fun _ => 0))), (q18, .inl (dA 0, 320, .inl (fun _ => 0)))] H := hP
  have hD : va_D A [(h0, .inr (22, [.int 0, .ref q1, .int 0, .ref q2, .ref q3, .ref q4, .int 0, .int 0, .int 0, .ref q5, .int 0, .ref q7, .int 0, .int 0, .ref q8, .ref q9, .ref q10, .ref q11, .ref q13, .ref q15, .int 0, .ref q16, .int 0, .ref q17, .null, .null, .null, .null])), (q1, .inl (dA 0, 24, .inl (fun _ => 0))), (q2, .inr (3, [.int 0, .ref tE, .int 0])), (q3, .inr (3, [.int 0, .ref tE, .int 0])), (q4, .inr (3, [.int 0, .ref tE, .int 0])), (q5, .inr (18, [.int 0, .int 0, .int 0, .int 0, .int 0, .ref q6])), (q7, .inl (dA 0, 24, .inl (fun _ => 0))), (q8, .inl (dA 1, 256, .inl (fun _ => 0))), (q9, .inl (dA 0, 256, .inl (fun _ => 0))), (q10, .inl (dA 0, 256, .inl (fun _ => 0))), (q11, .inr (18, [.int 0, .int 0, .int 0, .int 0, .int 0, .ref q12])), (q13, .inr (18, [.int 0, .int 0, .int 0, .int 0, .int 0, .ref q14])), (q15, .inl (dA 0, 64, .inl (fun _ => 0))), (q16, .inl (dA 0, 64, .inl (fun _ => 0))), (q17, .inl (dA 0, 40, .inl (fun _ => 0))), (q18, .inl (dA 0, 320, .inl (fun _ => 0)))] := hD
  refine va_putF (D := D) (ci := 22) (v := .ref q18) (ty := .array .int) (C := RX18) (T := TX18) (N := 28) hx hb hgw in_X18 tyX18 tyX18_ok nmX18 hown hK hP hD hS 0 rfl rfl 24 (by decide) (hgw _ m_10_21) (fun _ h9 => h9) rfl hnm rfl (by decide +kernel) rfl rfl (Nat.le_of_ble_eq_true rfl) dX18_init_143 (fun H locs hP hD hS => ?_)
  have hP : va_P D vwCl [(h0, .inr (22, [.int 0, .ref q1, .int 0, .ref q2, .ref q3, .ref q4, .int 0, .int 0, .int 0, .ref q5, .int 0, .ref q7, .int 0, .int 0, .ref q8, .ref q9, .ref q10, .ref q11, .ref q13, .ref q15, .int 0, .ref q16, .int 0, .ref q17, .ref q18, .null, .null, .null])), (q1, .inl (dA 0, 24, .inl (fun _ => 0))), (q2, .inr (3, [.int 0, .ref tE, .int 0])), (q3, .inr (3, [.int 0, .ref tE, .int 0])), (q4, .inr (3, [.int 0, .ref tE, .int 0])), (q5, .inr (18, [.int 0, .int 0, .int 0, .int 0, .int 0, .ref q6])), (q7, .inl (dA 0, 24, .inl (fun _ => 0))), (q8, .inl (dA 1, 256, .inl (fun _ => 0))), (q9, .inl (dA 0, 256, .inl (fun _ => 0))), (q10, .inl (dA 0, 256, .inl (fun _ => 0))), (q11, .inr (18, [.int 0, .int 0, .int 0, .int 0, .int 0, .ref q12])), (q13, .inr (18, [.int 0, .int 0, .int 0, .int 0, .int 0, .ref q14])), (q15, .inl (dA 0, 64, .inl (fun _ => 0))), (q16, .inl (dA 0, 64, .inl (fun _ => 0))), (q17, .inl (dA 0, 40, .inl (fun _ => 0))), (q18, .inl (dA 0, 320, .inl (fun _ => 0)))] H := hP
  have hD : va_D A [(h0, .inr (22, [.int 0, .ref q1, .int 0, .ref q2, .ref q3, .ref q4, .int 0, .int 0, .int 0, .ref q5, .int 0, .ref q7, .int 0, .int 0, .ref q8, .ref q9, .ref q10, .ref q11, .ref q13, .ref q15, .int 0, .ref q16, .int 0, .ref q17, .ref q18, .null, .null, .null])), (q1, .inl (dA 0, 24, .inl (fun _ => 0))), (q2, .inr (3, [.int 0, .ref tE, .int 0])), (q3, .inr (3, [.int 0, .ref tE, .int 0])), (q4, .inr (3, [.int 0, .ref tE, .int 0])), (q5, .inr (18, [.int 0, .int 0, .int 0, .int 0, .int 0, .ref q6])), (q7, .inl (dA 0, 24, .inl (fun _ => 0))), (q8, .inl (dA 1, 256, .inl (fun _ => 0))), (q9, .inl (dA 0, 256, .inl (fun _ => 0))), (q10, .inl (dA 0, 256, .inl (fun _ => 0))), (q11, .inr (18, [.int 0, .int 0, .int 0, .int 0, .int 0, .ref q12])), (q13, .inr (18, [.int 0, .int 0, .int 0, .int 0, .int 0, .ref q14])), (q15, .inl (dA 0, 64, .inl (fun _ => 0))), (q16, .inl (dA 0, 64, .inl (fun _ => 0))), (q17, .inl (dA 0, 40, .inl (fun _ => 0))), (q18, .inl (dA 0, 320, .inl (fun _ => 0)))] := hD
  refine lv_aload_n hx hb dX18_init_146 rfl (lv_at hl 0 rfl) ?_
  refine lv_sipush (v := 320) hx hb dX18_init_147 (by decide +kernel) ?_
  refine kq_newa hx hb 0 rfl rfl hgw m_1_136 hK hP hD hS hA (N' := 320) (a0 := (320, .inl (fun _ => 0))) (fun _ => rfl) (by decide +kernel) (by decide +kernel) (Nat.le_of_ble_eq_true rfl) (Nat.le_of_ble_eq_true rfl) (Nat.le_of_ble_eq_true rfl) dX18_init_150 (fun q19 H hP hD hS => ?_)
  have hP : va_P D vwCl [(h0, .inr (22, [.int 0, .ref q1, .int 0, .ref q2, .ref q3, .ref q4, .int 0, .int 0, .int 0, .ref q5, .int 0, .ref q7, .int 0, .int 0, .ref q8, .ref q9, .ref q10, .ref q11, .ref q13, .ref q15, .int 0, .ref q16, .int 0, .ref q17, .ref q18, .null, .null, .null])), (q1, .inl (dA 0, 24, .inl (fun _ => 0))), (q2, .inr (3, [.int 0, .ref tE, .int 0])), (q3, .inr (3, [.int 0, .ref tE, .int 0])), (q4, .inr (3, [.int 0, .ref tE, .int 0])), (q5, .inr (18, [.int 0, .int 0, .int 0, .int 0, .int 0, .ref q6])), (q7, .inl (dA 0, 24, .inl (fun _ => 0))), (q8, .inl (dA 1, 256, .inl (fun _ => 0))), (q9, .inl (dA 0, 256, .inl (fun _ => 0))), (q10, .inl (dA 0, 256, .inl (fun _ => 0))), (q11, .inr (18, [.int 0, .int 0, .int 0, .int 0, .int 0, .ref q12])), (q13, .inr (18, [.int 0, .int 0, .int 0, .int 0, .int 0, .ref q14])), (q15, .inl (dA 0, 64, .inl (fun _ => 0))), (q16, .inl (dA 0, 64, .inl (fun _ => 0))), (q17, .inl (dA 0, 40, .inl (fun _ => 0))), (q18, .inl (dA 0, 320, .inl (fun _ => 0))), (q19, .inl (dA 0, 320, .inl (fun _ => 0)))] H := hP
  have hD : va_D A [(h0, .inr (22, [.int 0, .ref q1, .int 0, .ref q2, .ref q3, .ref q4, .int 0, .int 0, .int 0, .ref q5, .int 0, .ref q7, .int 0, .int 0, .ref q8, .ref q9, .ref q10, .ref q11, .ref q13, .ref q15, .int 0, .ref q16, .int 0, .ref q17, .ref q18, .null, .null, .null])), (q1, .inl (dA 0, 24, .inl (fun _ => 0))), (q2, .inr (3, [.int 0, .ref tE, .int 0])), (q3, .inr (3, [.int 0, .ref tE, .int 0])), (q4, .inr (3, [.int 0, .ref tE, .int 0])), (q5, .inr (18, [.int 0, .int 0, .int 0, .int 0, .int 0, .ref q6])), (q7, .inl (dA 0, 24, .inl (fun _ => 0))), (q8, .inl (dA 1, 256, .inl (fun _ => 0))), (q9, .inl (dA 0, 256, .inl (fun _ => 0))), (q10, .inl (dA 0, 256, .inl (fun _ => 0))), (q11, .inr (18, [.int 0, .int 0, .int 0, .int 0, .int 0, .ref q12])), (q13, .inr (18, [.int 0, .int 0, .int 0, .int 0, .int 0, .ref q14])), (q15, .inl (dA 0, 64, .inl (fun _ => 0))), (q16, .inl (dA 0, 64, .inl (fun _ => 0))), (q17, .inl (dA 0, 40, .inl (fun _ => 0))), (q18, .inl (dA 0, 320, .inl (fun _ => 0))), (q19, .inl (dA 0, 320, .inl (fun _ => 0)))] := hD
  refine va_putF (D := D) (ci := 22) (v := .ref q19) (ty := .array .int) (C := RX18) (T := TX18) (N := 28) hx hb hgw in_X18 tyX18 tyX18_ok nmX18 hown hK hP hD hS 0 rfl rfl 25 (by decide) (hgw _ m_10_22) (fun _ h9 => h9) rfl hnm rfl (by decide +kernel) rfl rfl (Nat.le_of_ble_eq_true rfl) dX18_init_152 (fun H locs hP hD hS => ?_)
  have hP : va_P D vwCl [(h0, .inr (22, [.int 0, .ref q1, .int 0, .ref q2, .ref q3, .ref q4, .int 0, .int 0, .int 0, .ref q5, .int 0, .ref q7, .int 0, .int 0, .ref q8, .ref q9, .ref q10, .ref q11, .ref q13, .ref q15, .int 0, .ref q16, .int 0, .ref q17, .ref q18, .ref q19, .null, .null])), (q1, .inl (dA 0, 24, .inl (fun _ => 0))), (q2, .inr (3, [.int 0, .ref tE, .int 0])), (q3, .inr (3, [.int 0, .ref tE, .int 0])), (q4, .inr (3, [.int 0, .ref tE, .int 0])), (q5, .inr (18, [.int 0, .int 0, .int 0, .int 0, .int 0, .ref q6])), (q7, .inl (dA 0, 24, .inl (fun _ => 0))), (q8, .inl (dA 1, 256, .inl (fun _ => 0))), (q9, .inl (dA 0, 256, .inl (fun _ => 0))), (q10, .inl (dA 0, 256, .inl (fun _ => 0))), (q11, .inr (18, [.int 0, .int 0, .int 0, .int 0, .int 0, .ref q12])), (q13, .inr (18, [.int 0, .int 0, .int 0, .int 0, .int 0, .ref q14])), (q15, .inl (dA 0, 64, .inl (fun _ => 0))), (q16, .inl (dA 0, 64, .inl (fun _ => 0))), (q17, .inl (dA 0, 40, .inl (fun _ => 0))), (q18, .inl (dA 0, 320, .inl (fun _ => 0))), (q19, .inl (dA 0, 320, .inl (fun _ => 0)))] H := hP
  have hD : va_D A [(h0, .inr (22, [.int 0, .ref q1, .int 0, .ref q2, .ref q3, .ref q4, .int 0, .int 0, .int 0, .ref q5, .int 0, .ref q7, .int 0, .int 0, .ref q8, .ref q9, .ref q10, .ref q11, .ref q13, .ref q15, .int 0, .ref q16, .int 0, .ref q17, .ref q18, .ref q19, .null, .null])), (q1, .inl (dA 0, 24, .inl (fun _ => 0))), (q2, .inr (3, [.int 0, .ref tE, .int 0])), (q3, .inr (3, [.int 0, .ref tE, .int 0])), (q4, .inr (3, [.int 0, .ref tE, .int 0])), (q5, .inr (18, [.int 0, .int 0, .int 0, .int 0, .int 0, .ref q6])), (q7, .inl (dA 0, 24, .inl (fun _ => 0))), (q8, .inl (dA 1, 256, .inl (fun _ => 0))), (q9, .inl (dA 0, 256, .inl (fun _ => 0))), (q10, .inl (dA 0, 256, .inl (fun _ => 0))), (q11, .inr (18, [.int 0, .int 0, .int 0, .int 0, .int 0, .ref q12])), (q13, .inr (18, [.int 0, .int 0, .int 0, .int 0, .int 0, .ref q14])), (q15, .inl (dA 0, 64, .inl (fun _ => 0))), (q16, .inl (dA 0, 64, .inl (fun _ => 0))), (q17, .inl (dA 0, 40, .inl (fun _ => 0))), (q18, .inl (dA 0, 320, .inl (fun _ => 0))), (q19, .inl (dA 0, 320, .inl (fun _ => 0)))] := hD
  refine lv_aload_n hx hb dX18_init_155 rfl (lv_at hl 0 rfl) ?_
  refine lv_sipush (v := 256) hx hb dX18_init_156 (by decide +kernel) ?_
  refine kq_newa hx hb 0 rfl rfl hgw m_1_136 hK hP hD hS hA (N' := 256) (a0 := (256, .inl (fun _ => 0))) (fun _ => rfl) (by decide +kernel) (by decide +kernel) (Nat.le_of_ble_eq_true rfl) (Nat.le_of_ble_eq_true rfl) (Nat.le_of_ble_eq_true rfl) dX18_init_159 (fun q20 H hP hD hS => ?_)
  have hP : va_P D vwCl [(h0, .inr (22, [.int 0, .ref q1, .int 0, .ref q2, .ref q3, .ref q4, .int 0, .int 0, .int 0, .ref q5, .int 0, .ref q7, .int 0, .int 0, .ref q8, .ref q9, .ref q10, .ref q11, .ref q13, .ref q15, .int 0, .ref q16, .int 0, .ref q17, .ref q18, .ref q19, .null, .null])), (q1, .inl (dA 0, 24, .inl (fun _ => 0))), (q2, .inr (3, [.int 0, .ref tE, .int 0])), (q3, .inr (3, [.int 0, .ref tE, .int 0])), (q4, .inr (3, [.int 0, .ref tE, .int 0])), (q5, .inr (18, [.int 0, .int 0, .int 0, .int 0, .int 0, .ref q6])), (q7, .inl (dA 0, 24, .inl (fun _ => 0))), (q8, .inl (dA 1, 256, .inl (fun _ => 0))), (q9, .inl (dA 0, 256, .inl (fun _ => 0))), (q10, .inl (dA 0, 256, .inl (fun _ => 0))), (q11, .inr (18, [.int 0, .int 0, .int 0, .int 0, .int 0, .ref q12])), (q13, .inr (18, [.int 0, .int 0, .int 0, .int 0, .int 0, .ref q14])), (q15, .inl (dA 0, 64, .inl (fun _ => 0))), (q16, .inl (dA 0, 64, .inl (fun _ => 0))), (q17, .inl (dA 0, 40, .inl (fun _ => 0))), (q18, .inl (dA 0, 320, .inl (fun _ => 0))), (q19, .inl (dA 0, 320, .inl (fun _ => 0))), (q20, .inl (dA 0, 256, .inl (fun _ => 0)))] H := hP
  have hD : va_D A [(h0, .inr (22, [.int 0, .ref q1, .int 0, .ref q2, .ref q3, .ref q4, .int 0, .int 0, .int 0, .ref q5, .int 0, .ref q7, .int 0, .int 0, .ref q8, .ref q9, .ref q10, .ref q11, .ref q13, .ref q15, .int 0, .ref q16, .int 0, .ref q17, .ref q18, .ref q19, .null, .null])), (q1, .inl (dA 0, 24, .inl (fun _ => 0))), (q2, .inr (3, [.int 0, .ref tE, .int 0])), (q3, .inr (3, [.int 0, .ref tE, .int 0])), (q4, .inr (3, [.int 0, .ref tE, .int 0])), (q5, .inr (18, [.int 0, .int 0, .int 0, .int 0, .int 0, .ref q6])), (q7, .inl (dA 0, 24, .inl (fun _ => 0))), (q8, .inl (dA 1, 256, .inl (fun _ => 0))), (q9, .inl (dA 0, 256, .inl (fun _ => 0))), (q10, .inl (dA 0, 256, .inl (fun _ => 0))), (q11, .inr (18, [.int 0, .int 0, .int 0, .int 0, .int 0, .ref q12])), (q13, .inr (18, [.int 0, .int 0, .int 0, .int 0, .int 0, .ref q14])), (q15, .inl (dA 0, 64, .inl (fun _ => 0))), (q16, .inl (dA 0, 64, .inl (fun _ => 0))), (q17, .inl (dA 0, 40, .inl (fun _ => 0))), (q18, .inl (dA 0, 320, .inl (fun _ => 0))), (q19, .inl (dA 0, 320, .inl (fun _ => 0))), (q20, .inl (dA 0, 256, .inl (fun _ => 0)))] := hD
  refine va_putF (D := D) (ci := 22) (v := .ref q20) (ty := .array .int) (C := RX18) (T := TX18) (N := 28) hx hb hgw in_X18 tyX18 tyX18_ok nmX18 hown hK hP hD hS 0 rfl rfl 26 (by decide) (hgw _ m_10_23) (fun _ h9 => h9) rfl hnm rfl (by decide +kernel) rfl rfl (Nat.le_of_ble_eq_true rfl) dX18_init_161 (fun H locs hP hD hS => ?_)
  have hP : va_P D vwCl [(h0, .inr (22, [.int 0, .ref q1, .int 0, .ref q2, .ref q3, .ref q4, .int 0, .int 0, .int 0, .ref q5, .int 0, .ref q7, .int 0, .int 0, .ref q8, .ref q9, .ref q10, .ref q11, .ref q13, .ref q15, .int 0, .ref q16, .int 0, .ref q17, .ref q18, .ref q19, .ref q20, .null])), (q1, .inl (dA 0, 24, .inl (fun _ => 0))), (q2, .inr (3, [.int 0, .ref tE, .int 0])), (q3, .inr (3, [.int 0, .ref tE, .int 0])), (q4, .inr (3, [.int 0, .ref tE, .int 0])), (q5, .inr (18, [.int 0, .int 0, .int 0, .int 0, .int 0, .ref q6])), (q7, .inl (dA 0, 24, .inl (fun _ => 0))), (q8, .inl (dA 1, 256, .inl (fun _ => 0))), (q9, .inl (dA 0, 256, .inl (fun _ => 0))), (q10, .inl (dA 0, 256, .inl (fun _ => 0))), (q11, .inr (18, [.int 0, .int 0, .int 0, .int 0, .int 0, .ref q12])), (q13, .inr (18, [.int 0, .int 0, .int 0, .int 0, .int 0, .ref q14])), (q15, .inl (dA 0, 64, .inl (fun _ => 0))), (q16, .inl (dA 0, 64, .inl (fun _ => 0))), (q17, .inl (dA 0, 40, .inl (fun _ => 0))), (q18, .inl (dA 0, 320, .inl (fun _ => 0))), (q19, .inl (dA 0, 320, .inl (fun _ => 0))), (q20, .inl (dA 0, 256, .inl (fun _ => 0)))] H := hP
  have hD : va_D A [(h0, .inr (22, [.int 0, .ref q1, .int 0, .ref q2, .ref q3, .ref q4, .int 0, .int 0, .int 0, .ref q5, .int 0, .ref q7, .int 0, .int 0, .ref q8, .ref q9, .ref q10, .ref q11, .ref q13, .ref q15, .int 0, .ref q16, .int 0, .ref q17, .ref q18, .ref q19, .ref q20, .null])), (q1, .inl (dA 0, 24, .inl (fun _ => 0))), (q2, .inr (3, [.int 0, .ref tE, .int 0])), (q3, .inr (3, [.int 0, .ref tE, .int 0])), (q4, .inr (3, [.int 0, .ref tE, .int 0])), (q5, .inr (18, [.int 0, .int 0, .int 0, .int 0, .int 0, .ref q6])), (q7, .inl (dA 0, 24, .inl (fun _ => 0))), (q8, .inl (dA 1, 256, .inl (fun _ => 0))), (q9, .inl (dA 0, 256, .inl (fun _ => 0))), (q10, .inl (dA 0, 256, .inl (fun _ => 0))), (q11, .inr (18, [.int 0, .int 0, .int 0, .int 0, .int 0, .ref q12])), (q13, .inr (18, [.int 0, .int 0, .int 0, .int 0, .int 0, .ref q14])), (q15, .inl (dA 0, 64, .inl (fun _ => 0))), (q16, .inl (dA 0, 64, .inl (fun _ => 0))), (q17, .inl (dA 0, 40, .inl (fun _ => 0))), (q18, .inl (dA 0, 320, .inl (fun _ => 0))), (q19, .inl (dA 0, 320, .inl (fun _ => 0))), (q20, .inl (dA 0, 256, .inl (fun _ => 0)))] := hD
  refine lv_aload_n hx hb dX18_init_164 rfl (lv_at hl 0 rfl) ?_
  refine lv_sipush (v := 256) hx hb dX18_init_165 (by decide +kernel) ?_
  refine kq_newa hx hb 0 rfl rfl hgw m_1_136 hK hP hD hS hA (N' := 256) (a0 := (256, .inl (fun _ => 0))) (fun _ => rfl) (by decide +kernel) (by decide +kernel) (Nat.le_of_ble_eq_true rfl) (Nat.le_of_ble_eq_true rfl) (Nat.le_of_ble_eq_true rfl) dX18_init_168 (fun q21 H hP hD hS => ?_)
  have hP : va_P D vwCl [(h0, .inr (22, [.int 0, .ref q1, .int 0, .ref q2, .ref q3, .ref q4, .int 0, .int 0, .int 0, .ref q5, .int 0, .ref q7, .int 0, .int 0, .ref q8, .ref q9, .ref q10, .ref q11, .ref q13, .ref q15, .int 0, .ref q16, .int 0, .ref q17, .ref q18, .ref q19, .ref q20, .null])), (q1, .inl (dA 0, 24, .inl (fun _ => 0))), (q2, .inr (3, [.int 0, .ref tE, .int 0])), (q3, .inr (3, [.int 0, .ref tE, .int 0])), (q4, .inr (3, [.int 0, .ref tE, .int 0])), (q5, .inr (18, [.int 0, .int 0, .int 0, .int 0, .int 0, .ref q6])), (q7, .inl (dA 0, 24, .inl (fun _ => 0))), (q8, .inl (dA 1, 256, .inl (fun _ => 0))), (q9, .inl (dA 0, 256, .inl (fun _ => 0))), (q10, .inl (dA 0, 256, .inl (fun _ => 0))), (q11, .inr (18, [.int 0, .int 0, .int 0, .int 0, .int 0, .ref q12])), (q13, .inr (18, [.int 0, .int 0, .int 0, .int 0, .int 0, .ref q14])), (q15, .inl (dA 0, 64, .inl (fun _ => 0))), (q16, .inl (dA 0, 64, .inl (fun _ => 0))), (q17, .inl (dA 0, 40, .inl (fun _ => 0))), (q18, .inl (dA 0, 320, .inl (fun _ => 0))), (q19, .inl (dA 0, 320, .inl (fun _ => 0))), (q20, .inl (dA 0, 256, .inl (fun _ => 0))), (q21, .inl (dA 0, 256, .inl (fun _ => 0)))] H := hP
  have hD : va_D A [(h0, .inr (22, [.int 0, .ref q1, .int 0, .ref q2, .ref q3, .ref q4, .int 0, .int 0, .int 0, .ref q5, .int 0, .ref q7, .int 0, .int 0, .ref q8, .ref q9, .ref q10, .ref q11, .ref q13, .ref q15, .int 0, .ref q16, .int 0, .ref q17, .ref q18, .ref q19, .ref q20, .null])), (q1, .inl (dA 0, 24, .inl (fun _ => 0))), (q2, .inr (3, [.int 0, .ref tE, .int 0])), (q3, .inr (3, [.int 0, .ref tE, .int 0])), (q4, .inr (3, [.int 0, .ref tE, .int 0])), (q5, .inr (18, [.int 0, .int 0, .int 0, .int 0, .int 0, .ref q6])), (q7, .inl (dA 0, 24, .inl (fun _ => 0))), (q8, .inl (dA 1, 256, .inl (fun _ => 0))), (q9, .inl (dA 0, 256, .inl (fun _ => 0))), (q10, .inl (dA 0, 256, .inl (fun _ => 0))), (q11, .inr (18, [.int 0, .int 0, .int 0, .int 0, .int 0, .ref q12])), (q13, .inr (18, [.int 0, .int 0, .int 0, .int 0, .int 0, .ref q14])), (q15, .inl (dA 0, 64, .inl (fun _ => 0))), (q16, .inl (dA 0, 64, .inl (fun _ => 0))), (q17, .inl (dA 0, 40, .inl (fun _ => 0))), (q18, .inl (dA 0, 320, .inl (fun _ => 0))), (q19, .inl (dA 0, 320, .inl (fun _ => 0))), (q20, .inl (dA 0, 256, .inl (fun _ => 0))), (q21, .inl (dA 0, 256, .inl (fun _ => 0)))] := hD
  refine va_putF (D := D) (ci := 22) (v := .ref q21) (ty := .array .int) (C := RX18) (T := TX18) (N := 28) hx hb hgw in_X18 tyX18 tyX18_ok nmX18 hown hK hP hD hS 0 rfl rfl 27 (by decide) (hgw _ m_10_24) (fun _ h9 => h9) rfl hnm rfl (by decide +kernel) rfl rfl (Nat.le_of_ble_eq_true rfl) dX18_init_170 (fun H locs hP hD hS => ?_)
  have hP : va_P D vwCl [(h0, .inr (22, [.int 0, .ref q1, .int 0, .ref q2, .ref q3, .ref q4, .int 0, .int 0, .int 0, .ref q5, .int 0, .ref q7, .int 0, .int 0, .ref q8, .ref q9, .ref q10, .ref q11, .ref q13, .ref q15, .int 0, .ref q16, .int 0, .ref q17, .ref q18, .ref q19, .ref q20, .ref q21])), (q1, .inl (dA 0, 24, .inl (fun _ => 0))), (q2, .inr (3, [.int 0, .ref tE, .int 0])), (q3, .inr (3, [.int 0, .ref tE, .int 0])), (q4, .inr (3, [.int 0, .ref tE, .int 0])), (q5, .inr (18, [.int 0, .int 0, .int 0, .int 0, .int 0, .ref q6])), (q7, .inl (dA 0, 24, .inl (fun _ => 0))), (q8, .inl (dA 1, 256, .inl (fun _ => 0))), (q9, .inl (dA 0, 256, .inl (fun _ => 0))), (q10, .inl (dA 0, 256, .inl (fun _ => 0))), (q11, .inr (18, [.int 0, .int 0, .int 0, .int 0, .int 0, .ref q12])), (q13, .inr (18, [.int 0, .int 0, .int 0, .int 0, .int 0, .ref q14])), (q15, .inl (dA 0, 64, .inl (fun _ => 0))), (q16, .inl (dA 0, 64, .inl (fun _ => 0))), (q17, .inl (dA 0, 40, .inl (fun _ => 0))), (q18, .inl (dA 0, 320, .inl (fun _ => 0))), (q19, .inl (dA 0, 320, .inl (fun _ => 0))), (q20, .inl (dA 0, 256, .inl (fun _ => 0))), (q21, .inl (dA 0, 256, .inl (fun _ => 0)))] H := hP
  have hD : va_D A [(h0, .inr (22, [.int 0, .ref q1, .int 0, .ref q2, .ref q3, .ref q4, .int 0, .int 0, .int 0, .ref q5, .int 0, .ref q7, .int 0, .int 0, .ref q8, .ref q9, .ref q10, .ref q11, .ref q13, .ref q15, .int 0, .ref q16, .int 0, .ref q17, .ref q18, .ref q19, .ref q20, .ref q21])), (q1, .inl (dA 0, 24, .inl (fun _ => 0))), (q2, .inr (3, [.int 0, .ref tE, .int 0])), (q3, .inr (3, [.int 0, .ref tE, .int 0])), (q4, .inr (3, [.int 0, .ref tE, .int 0])), (q5, .inr (18, [.int 0, .int 0, .int 0, .int 0, .int 0, .ref q6])), (q7, .inl (dA 0, 24, .inl (fun _ => 0))), (q8, .inl (dA 1, 256, .inl (fun _ => 0))), (q9, .inl (dA 0, 256, .inl (fun _ => 0))), (q10, .inl (dA 0, 256, .inl (fun _ => 0))), (q11, .inr (18, [.int 0, .int 0, .int 0, .int 0, .int 0, .ref q12])), (q13, .inr (18, [.int 0, .int 0, .int 0, .int 0, .int 0, .ref q14])), (q15, .inl (dA 0, 64, .inl (fun _ => 0))), (q16, .inl (dA 0, 64, .inl (fun _ => 0))), (q17, .inl (dA 0, 40, .inl (fun _ => 0))), (q18, .inl (dA 0, 320, .inl (fun _ => 0))), (q19, .inl (dA 0, 320, .inl (fun _ => 0))), (q20, .inl (dA 0, 256, .inl (fun _ => 0))), (q21, .inl (dA 0, 256, .inl (fun _ => 0)))] := hD
  have hP9 := hP.sub (ws' := [(h0, .inr (22, [.int 0, .ref q1, .int 0, .ref q2, .ref q3, .ref q4, .int 0, .int 0, .int 0, .ref q5, .int 0, .ref q7, .int 0, .int 0, .ref q8, .ref q9, .ref q10, .ref q11, .ref q13, .ref q15, .int 0, .ref q16, .int 0, .ref q17, .ref q18, .ref q19, .ref q20, .ref q21])), (q1, .inl (dA 0, 24, .inl (fun _ => 0))), (q2, .inr (3, [.int 0, .ref tE, .int 0])), (q3, .inr (3, [.int 0, .ref tE, .int 0])), (q4, .inr (3, [.int 0, .ref tE, .int 0])), (q7, .inl (dA 0, 24, .inl (fun _ => 0)))]) [0, 1, 2, 3, 4, 6] rfl
  have hD9 := hD.sub (ws' := [(h0, .inr (22, [.int 0, .ref q1, .int 0, .ref q2, .ref q3, .ref q4, .int 0, .int 0, .int 0, .ref q5, .int 0, .ref q7, .int 0, .int 0, .ref q8, .ref q9, .ref q10, .ref q11, .ref q13, .ref q15, .int 0, .ref q16, .int 0, .ref q17, .ref q18, .ref q19, .ref q20, .ref q21])), (q1, .inl (dA 0, 24, .inl (fun _ => 0))), (q2, .inr (3, [.int 0, .ref tE, .int 0])), (q3, .inr (3, [.int 0, .ref tE, .int 0])), (q4, .inr (3, [.int 0, .ref tE, .int 0])), (q7, .inl (dA 0, 24, .inl (fun _ => 0)))]) [0, 1, 2, 3, 4, 6] (by decide) rfl
  exact (kq_vret hx hb hr hlocks hS ⟨q1, q2, q3, q4, q7, q5, q8, q9, q10, q11, q13, q15, q16, q17, q18, q19, q20, q21, rfl, rfl⟩ hP9 hD9 (Nat.le_of_ble_eq_true rfl) (Nat.le_of_ble_eq_true rfl) dX18_init_173)
set_option maxHeartbeats 4000000 in
set_option maxRecDepth 100000 in
theorem c_X1_add (l : Launch) (hfl : l.stackTraces = false) (D : va_G) (dA : Nat → ClassId) (tE tC : Nat) (h0 : Nat) (p0 : Int32) (h1 : Nat) (h2 : Nat) (h3 : Nat) : Ct l D dA tE tC yX1_add (Cond.code yX1_add cX1_add 2 none :: gW) ({ frames := 0, cells := 0, slots := 0, locals := 0 } : Room) [.ref h0, .int p0] [(h1, .inl (dA 0, 24, .inl (fun _ => 0))), (h0, .inr (5, [.ref h1, .ref h2, .ref h3, .int 0, .int 0, .int 0, .int 0, .int 0, .int 0, .int 0, .int 0, .int 0]))] (fun v w1 => (v = none ∧ w1 = [(h1, .inl (dA 0, 24, .inl (upd (fun _ => 0) 0 p0))), (h0, .inr (5, [.ref h1, .ref h2, .ref h3, .int 0, .int 0, .int 1, .int 0, .int 0, .int 0, .int 0, .int 0, .int 0]))])) 0 0 := by
  refine Ct_of (by decide) (Nat.le_of_ble_eq_true rfl) ?_
  intro p e s m below meth c hx hb hr hml hown hnm hlocks hgw hK A hG hA hP hD ls hl
  have hl : lv_has ls 2 [(0, .ref h0), (1, .int p0)] := hl
  have hS : va_S A s.heap s.heap [] := va_S.rf
  refine lv_aload_n hx hb dX1_add_0 rfl (lv_at hl 0 rfl) ?_
  refine va_get (D := D) (ci := 5) (v := .int 0) (C := RX1) (T := TX1) (N := 12) hx hb hgw in_X1 hown hK hP 1 rfl rfl 5 (by decide) (hgw _ m_2_5) (fun _ h9 => h9) rfl dX1_add_1 ?_
  refine lv_if_lt (tgt := 36) hx hb dX1_add_4 (by decide) (fun h => absurd h (by decide +kernel)) (fun _ => ?_)
  refine lv_aload_n hx hb dX1_add_7 rfl (lv_at hl 0 rfl) ?_
  refine va_get (D := D) (ci := 5) (v := .int 0) (C := RX1) (T := TX1) (N := 12) hx hb hgw in_X1 hown hK hP 1 rfl rfl 5 (by decide) (hgw _ m_2_5) (fun _ h9 => h9) rfl dX1_add_8 ?_
  refine lv_bipush (v := 24) hx hb dX1_add_11 (by decide +kernel) ?_
  refine lv_icmp_ge (tgt := 36) hx hb dX1_add_13 (by decide) (fun h => absurd h (by decide +kernel)) (fun _ => ?_)
  refine lv_aload_n hx hb dX1_add_16 rfl (lv_at hl 0 rfl) ?_
  refine va_get (D := D) (ci := 5) (v := .ref h1) (C := RX1) (T := TX1) (N := 12) hx hb hgw in_X1 hown hK hP 1 rfl rfl 0 (by decide) (hgw _ m_1_237) (fun _ h9 => h9) rfl dX1_add_17 ?_
  refine lv_aload_n hx hb dX1_add_20 rfl (lv_at hl 0 rfl) ?_
  refine va_get (D := D) (ci := 5) (v := .int 0) (C := RX1) (T := TX1) (N := 12) hx hb hgw in_X1 hown hK hP 1 rfl rfl 5 (by decide) (hgw _ m_2_5) (fun _ h9 => h9) rfl dX1_add_21 ?_
  refine lv_iload_n hx hb dX1_add_24 rfl (lv_at hl 1 rfl) ?_
  refine kq_iast (k := 0) hx hb hK hP hD hS 0 0 rfl rfl (kq_in (by decide +kernel)) (by decide +kernel) dX1_add_25 (fun H locs hP hD hS => ?_)
  have hP : va_P D vwCl [(h1, .inl (dA 0, 24, .inl (upd (fun _ => 0) 0 p0))), (h0, .inr (5, [.ref h1, .ref h2, .ref h3, .int 0, .int 0, .int 0, .int 0, .int 0, .int 0, .int 0, .int 0, .int 0]))] H := hP
  have hD : va_D A [(h1, .inl (dA 0, 24, .inl (upd (fun _ => 0) 0 p0))), (h0, .inr (5, [.ref h1, .ref h2, .ref h3, .int 0, .int 0, .int 0, .int 0, .int 0, .int 0, .int 0, .int 0, .int 0]))] := hD
  refine lv_aload_n hx hb dX1_add_26 rfl (lv_at hl 0 rfl) ?_
  refine lv_dup hx hb dX1_add_27 rfl ?_
  refine va_get (D := D) (ci := 5) (v := .int 0) (C := RX1) (T := TX1) (N := 12) hx hb hgw in_X1 hown hK hP 1 rfl rfl 5 (by decide) (hgw _ m_2_5) (fun _ h9 => h9) rfl dX1_add_28 ?_
  refine lv_iconst (v := 1) hx hb dX1_add_31 (by decide) ?_
  refine lv_iadd hx hb dX1_add_32 ?_
  refine kq_topi (y := 1) (by decide +kernel) ?_
  refine va_put (D := D) (ci := 5) (v := .int 1) (ty := .int) (C := RX1) (T := TX1) (N := 12) hx hb hgw in_X1 tyX1 tyX1_ok nmX1 hown hK hP hD hS 1 rfl rfl 5 (by decide) (hgw _ m_2_5) (fun _ h9 => h9) rfl (by decide +kernel) rfl rfl (Nat.le_of_ble_eq_true rfl) dX1_add_33 (fun H locs hP hD hS => ?_)
  have hP : va_P D vwCl [(h1, .inl (dA 0, 24, .inl (upd (fun _ => 0) 0 p0))), (h0, .inr (5, [.ref h1, .ref h2, .ref h3, .int 0, .int 0, .int 1, .int 0, .int 0, .int 0, .int 0, .int 0, .int 0]))] H := hP
  have hD : va_D A [(h1, .inl (dA 0, 24, .inl (upd (fun _ => 0) 0 p0))), (h0, .inr (5, [.ref h1, .ref h2, .ref h3, .int 0, .int 0, .int 1, .int 0, .int 0, .int 0, .int 0, .int 0, .int 0]))] := hD
  have hP9 := hP.sub (ws' := [(h1, .inl (dA 0, 24, .inl (upd (fun _ => 0) 0 p0))), (h0, .inr (5, [.ref h1, .ref h2, .ref h3, .int 0, .int 0, .int 1, .int 0, .int 0, .int 0, .int 0, .int 0, .int 0]))]) [0, 1] rfl
  have hD9 := hD.sub (ws' := [(h1, .inl (dA 0, 24, .inl (upd (fun _ => 0) 0 p0))), (h0, .inr (5, [.ref h1, .ref h2, .ref h3, .int 0, .int 0, .int 1, .int 0, .int 0, .int 0, .int 0, .int 0, .int 0]))]) [0, 1] (by decide) rfl
  exact (kq_vret hx hb hr hlocks hS ⟨rfl, rfl⟩ hP9 hD9 (Nat.le_of_ble_eq_true rfl) (Nat.le_of_ble_eq_true rfl) dX1_add_36)
set_option maxHeartbeats 4000000 in
set_option maxRecDepth 100000 in
theorem c_J7_fill_53178_1 (l : Launch) (hfl : l.stackTraces = false) (D : va_G) (dA : Nat → ClassId) (tE tC : Nat) (h0 : Nat) (f0 : Nat → Int32) : Ct l D dA tE tC yJ7_fill_53178 (Cond.code yJ7_fill_53178 cJ7_fill_53178 4 none :: gW) ({ frames := 0, cells := 0, slots := 0, locals := 0 } : Room) [.ref h0, .int 0] [(h0, .inl (dA 0, 24, .inl f0))] (fun v w1 => (∃ (g8 : Nat → Int32), v = none ∧ w1 = [(h0, .inl (dA 0, 24, .inl g8))])) 0 0 := by
  refine Ct_of (by decide) (Nat.le_of_ble_eq_true rfl) ?_
  intro p e s m below meth c hx hb hr hml hown hnm hlocks hgw hK A hG hA hP hD ls hl
  have hl : lv_has ls 4 [(0, .ref h0), (1, .int 0)] := hl
  have hS : va_S A s.heap s.heap [] := va_S.rf
  refine lv_iconst (v := 0) hx hb dJ7_fill_53178_0 (by decide) ?_
  refine lv_istore_n (lv' := [(2, .int 0), (0, .ref h0), (1, .int 0)]) hx hb dJ7_fill_53178_1 rfl hl (by decide) rfl (fun ls hl => ?_)
  refine lv_aload_n hx hb dJ7_fill_53178_2 rfl (lv_at hl 1 rfl) ?_
  refine va_alen (v := 24) hx hb hK hP 0 0 rfl rfl (by show Int32.ofNat 24 = 24; decide +kernel) dJ7_fill_53178_3 ?_
  refine lv_istore_n (lv' := [(3, .int 24), (2, .int 0), (0, .ref h0), (1, .int 0)]) hx hb dJ7_fill_53178_4 rfl hl (by decide) rfl (fun ls hl => ?_)
  refine lv_iload_n hx hb dJ7_fill_53178_5 rfl (lv_at hl 1 rfl) ?_
  refine lv_iload_n hx hb dJ7_fill_53178_6 rfl (lv_at hl 0 rfl) ?_
  refine lv_icmp_ge (tgt := 20) hx hb dJ7_fill_53178_7 (by decide) (fun h => absurd h (by decide +kernel)) (fun _ => ?_)
  refine lv_aload_n hx hb dJ7_fill_53178_10 rfl (lv_at hl 2 rfl) ?_
  refine lv_iload_n hx hb dJ7_fill_53178_11 rfl (lv_at hl 1 rfl) ?_
  refine lv_iload_n hx hb dJ7_fill_53178_12 rfl (lv_at hl 3 rfl) ?_
  refine kq_iast (k := 0) hx hb hK hP hD hS 0 0 rfl rfl (kq_in (by decide +kernel)) (by decide +kernel) dJ7_fill_53178_13 (fun H locs hP hD hS => ?_)
  have hP : va_P D vwCl [(h0, .inl (dA 0, 24, .inl (upd f0 0 0)))] H := hP
  have hD : va_D A [(h0, .inl (dA 0, 24, .inl (upd f0 0 0)))] := hD
  refine lv_iinc (v := 1) (lv' := [(2, .int 1), (3, .int 24), (0, .ref h0), (1, .int 0)]) hx hb dJ7_fill_53178_14 hl (k := 1) rfl (by decide +kernel) (by decide) rfl (fun ls hl => ?_)
  refine lv_goto (tgt := 5) hx hb dJ7_fill_53178_17 (by decide) ?_
  refine lv_iload_n hx hb dJ7_fill_53178_5 rfl (lv_at hl 0 rfl) ?_
  refine lv_iload_n hx hb dJ7_fill_53178_6 rfl (lv_at hl 1 rfl) ?_
  refine lv_icmp_ge (tgt := 20) hx hb dJ7_fill_53178_7 (by decide) (fun h => absurd h (by decide +kernel)) (fun _ => ?_)
  refine lv_aload_n hx hb dJ7_fill_53178_10 rfl (lv_at hl 2 rfl) ?_
  refine lv_iload_n hx hb dJ7_fill_53178_11 rfl (lv_at hl 0 rfl) ?_
  refine lv_iload_n hx hb dJ7_fill_53178_12 rfl (lv_at hl 3 rfl) ?_
  refine kq_iast (k := 1) hx hb hK hP hD hS 0 0 rfl rfl (kq_in (by decide +kernel)) (by decide +kernel) dJ7_fill_53178_13 (fun H locs hP hD hS => ?_)
  have hP : va_P D vwCl [(h0, .inl (dA 0, 24, .inl (upd (upd f0 0 0) 1 0)))] H := hP
  have hD : va_D A [(h0, .inl (dA 0, 24, .inl (upd (upd f0 0 0) 1 0)))] := hD
  refine lv_iinc (v := 2) (lv' := [(2, .int 2), (3, .int 24), (0, .ref h0), (1, .int 0)]) hx hb dJ7_fill_53178_14 hl (k := 0) rfl (by decide +kernel) (by decide) rfl (fun ls hl => ?_)
  refine lv_goto (tgt := 5) hx hb dJ7_fill_53178_17 (by decide) ?_
  refine lv_iload_n hx hb dJ7_fill_53178_5 rfl (lv_at hl 0 rfl) ?_
  refine lv_iload_n hx hb dJ7_fill_53178_6 rfl (lv_at hl 1 rfl) ?_
  refine lv_icmp_ge (tgt := 20) hx hb dJ7_fill_53178_7 (by decide) (fun h => absurd h (by decide +kernel)) (fun _ => ?_)
  refine lv_aload_n hx hb dJ7_fill_53178_10 rfl (lv_at hl 2 rfl) ?_
  refine lv_iload_n hx hb dJ7_fill_53178_11 rfl (lv_at hl 0 rfl) ?_
  refine lv_iload_n hx hb dJ7_fill_53178_12 rfl (lv_at hl 3 rfl) ?_
  refine kq_iast (k := 2) hx hb hK hP hD hS 0 0 rfl rfl (kq_in (by decide +kernel)) (by decide +kernel) dJ7_fill_53178_13 (fun H locs hP hD hS => ?_)
  obtain ⟨g1, hP, hD⟩ : ∃ g1 : Nat → Int32, va_P D vwCl [(h0, .inl (dA 0, 24, .inl g1))] H ∧ va_D A [(h0, .inl (dA 0, 24, .inl g1))] := ⟨(upd (upd (upd f0 0 0) 1 0) 2 0), hP, hD⟩
  refine lv_iinc (v := 3) (lv' := [(2, .int 3), (3, .int 24), (0, .ref h0), (1, .int 0)]) hx hb dJ7_fill_53178_14 hl (k := 0) rfl (by decide +kernel) (by decide) rfl (fun ls hl => ?_)
  refine lv_goto (tgt := 5) hx hb dJ7_fill_53178_17 (by decide) ?_
  refine lv_iload_n hx hb dJ7_fill_53178_5 rfl (lv_at hl 0 rfl) ?_
  refine lv_iload_n hx hb dJ7_fill_53178_6 rfl (lv_at hl 1 rfl) ?_
  refine lv_icmp_ge (tgt := 20) hx hb dJ7_fill_53178_7 (by decide) (fun h => absurd h (by decide +kernel)) (fun _ => ?_)
  refine lv_aload_n hx hb dJ7_fill_53178_10 rfl (lv_at hl 2 rfl) ?_
  refine lv_iload_n hx hb dJ7_fill_53178_11 rfl (lv_at hl 0 rfl) ?_
  refine lv_iload_n hx hb dJ7_fill_53178_12 rfl (lv_at hl 3 rfl) ?_
  refine kq_iast (k := 3) hx hb hK hP hD hS 0 0 rfl rfl (kq_in (by decide +kernel)) (by decide +kernel) dJ7_fill_53178_13 (fun H locs hP hD hS => ?_)
  have hP : va_P D vwCl [(h0, .inl (dA 0, 24, .inl (upd g1 3 0)))] H := hP
  have hD : va_D A [(h0, .inl (dA 0, 24, .inl (upd g1 3 0)))] := hD
  refine lv_iinc (v := 4) (lv' := [(2, .int 4), (3, .int 24), (0, .ref h0), (1, .int 0)]) hx hb dJ7_fill_53178_14 hl (k := 0) rfl (by decide +kernel) (by decide) rfl (fun ls hl => ?_)
  refine lv_goto (tgt := 5) hx hb dJ7_fill_53178_17 (by decide) ?_
  refine lv_iload_n hx hb dJ7_fill_53178_5 rfl (lv_at hl 0 rfl) ?_
  refine lv_iload_n hx hb dJ7_fill_53178_6 rfl (lv_at hl 1 rfl) ?_
  refine lv_icmp_ge (tgt := 20) hx hb dJ7_fill_53178_7 (by decide) (fun h => absurd h (by decide +kernel)) (fun _ => ?_)
  refine lv_aload_n hx hb dJ7_fill_53178_10 rfl (lv_at hl 2 rfl) ?_
  refine lv_iload_n hx hb dJ7_fill_53178_11 rfl (lv_at hl 0 rfl) ?_
  refine lv_iload_n hx hb dJ7_fill_53178_12 rfl (lv_at hl 3 rfl) ?_
  refine kq_iast (k := 4) hx hb hK hP hD hS 0 0 rfl rfl (kq_in (by decide +kernel)) (by decide +kernel) dJ7_fill_53178_13 (fun H locs hP hD hS => ?_)
  have hP : va_P D vwCl [(h0, .inl (dA 0, 24, .inl (upd (upd g1 3 0) 4 0)))] H := hP
  have hD : va_D A [(h0, .inl (dA 0, 24, .inl (upd (upd g1 3 0) 4 0)))] := hD
  refine lv_iinc (v := 5) (lv' := [(2, .int 5), (3, .int 24), (0, .ref h0), (1, .int 0)]) hx hb dJ7_fill_53178_14 hl (k := 0) rfl (by decide +kernel) (by decide) rfl (fun ls hl => ?_)
  refine lv_goto (tgt := 5) hx hb dJ7_fill_53178_17 (by decide) ?_
  refine lv_iload_n hx hb dJ7_fill_53178_5 rfl (lv_at hl 0 rfl) ?_
  refine lv_iload_n hx hb dJ7_fill_53178_6 rfl (lv_at hl 1 rfl) ?_
  refine lv_icmp_ge (tgt := 20) hx hb dJ7_fill_53178_7 (by decide) (fun h => absurd h (by decide +kernel)) (fun _ => ?_)
  refine lv_aload_n hx hb dJ7_fill_53178_10 rfl (lv_at hl 2 rfl) ?_
  refine lv_iload_n hx hb dJ7_fill_53178_11 rfl (lv_at hl 0 rfl) ?_
  refine lv_iload_n hx hb dJ7_fill_53178_12 rfl (lv_at hl 3 rfl) ?_
  refine kq_iast (k := 5) hx hb hK hP hD hS 0 0 rfl rfl (kq_in (by decide +kernel)) (by decide +kernel) dJ7_fill_53178_13 (fun H locs hP hD hS => ?_)
  obtain ⟨g2, hP, hD⟩ : ∃ g2 : Nat → Int32, va_P D vwCl [(h0, .inl (dA 0, 24, .inl g2))] H ∧ va_D A [(h0, .inl (dA 0, 24, .inl g2))] := ⟨(upd (upd (upd g1 3 0) 4 0) 5 0), hP, hD⟩
  refine lv_iinc (v := 6) (lv' := [(2, .int 6), (3, .int 24), (0, .ref h0), (1, .int 0)]) hx hb dJ7_fill_53178_14 hl (k := 0) rfl (by decide +kernel) (by decide) rfl (fun ls hl => ?_)
  refine lv_goto (tgt := 5) hx hb dJ7_fill_53178_17 (by decide) ?_
  refine lv_iload_n hx hb dJ7_fill_53178_5 rfl (lv_at hl 0 rfl) ?_
  refine lv_iload_n hx hb dJ7_fill_53178_6 rfl (lv_at hl 1 rfl) ?_
  refine lv_icmp_ge (tgt := 20) hx hb dJ7_fill_53178_7 (by decide) (fun h => absurd h (by decide +kernel)) (fun _ => ?_)
  refine lv_aload_n hx hb dJ7_fill_53178_10 rfl (lv_at hl 2 rfl) ?_
  refine lv_iload_n hx hb dJ7_fill_53178_11 rfl (lv_at hl 0 rfl) ?_
  refine lv_iload_n hx hb dJ7_fill_53178_12 rfl (lv_at hl 3 rfl) ?_
  refine kq_iast (k := 6) hx hb hK hP hD hS 0 0 rfl rfl (kq_in (by decide +kernel)) (by decide +kernel) dJ7_fill_53178_13 (fun H locs hP hD hS => ?_)
  have hP : va_P D vwCl [(h0, .inl (dA 0, 24, .inl (upd g2 6 0)))] H := hP
  have hD : va_D A [(h0, .inl (dA 0, 24, .inl (upd g2 6 0)))] := hD
  refine lv_iinc (v := 7) (lv' := [(2, .int 7), (3, .int 24), (0, .ref h0), (1, .int 0)]) hx hb dJ7_fill_53178_14 hl (k := 0) rfl (by decide +kernel) (by decide) rfl (fun ls hl => ?_)
  refine lv_goto (tgt := 5) hx hb dJ7_fill_53178_17 (by decide) ?_
  refine lv_iload_n hx hb dJ7_fill_53178_5 rfl (lv_at hl 0 rfl) ?_
  refine lv_iload_n hx hb dJ7_fill_53178_6 rfl (lv_at hl 1 rfl) ?_
  refine lv_icmp_ge (tgt := 20) hx hb dJ7_fill_53178_7 (by decide) (fun h => absurd h (by decide +kernel)) (fun _ => ?_)
  refine lv_aload_n hx hb dJ7_fill_53178_10 rfl (lv_at hl 2 rfl) ?_
  refine lv_iload_n hx hb dJ7_fill_53178_11 rfl (lv_at hl 0 rfl) ?_
  refine lv_iload_n hx hb dJ7_fill_53178_12 rfl (lv_at hl 3 rfl) ?_
  refine kq_iast (k := 7) hx hb hK hP hD hS 0 0 rfl rfl (kq_in (by decide +kernel)) (by decide +kernel) dJ7_fill_53178_13 (fun H locs hP hD hS => ?_)
  have hP : va_P D vwCl [(h0, .inl (dA 0, 24, .inl (upd (upd g2 6 0) 7 0)))] H := hP
  have hD : va_D A [(h0, .inl (dA 0, 24, .inl (upd (upd g2 6 0) 7 0)))] := hD
  refine lv_iinc (v := 8) (lv' := [(2, .int 8), (3, .int 24), (0, .ref h0), (1, .int 0)]) hx hb dJ7_fill_53178_14 hl (k := 0) rfl (by decide +kernel) (by decide) rfl (fun ls hl => ?_)
  refine lv_goto (tgt := 5) hx hb dJ7_fill_53178_17 (by decide) ?_
  refine lv_iload_n hx hb dJ7_fill_53178_5 rfl (lv_at hl 0 rfl) ?_
  refine lv_iload_n hx hb dJ7_fill_53178_6 rfl (lv_at hl 1 rfl) ?_
  refine lv_icmp_ge (tgt := 20) hx hb dJ7_fill_53178_7 (by decide) (fun h => absurd h (by decide +kernel)) (fun _ => ?_)
  refine lv_aload_n hx hb dJ7_fill_53178_10 rfl (lv_at hl 2 rfl) ?_
  refine lv_iload_n hx hb dJ7_fill_53178_11 rfl (lv_at hl 0 rfl) ?_
  refine lv_iload_n hx hb dJ7_fill_53178_12 rfl (lv_at hl 3 rfl) ?_
  refine kq_iast (k := 8) hx hb hK hP hD hS 0 0 rfl rfl (kq_in (by decide +kernel)) (by decide +kernel) dJ7_fill_53178_13 (fun H locs hP hD hS => ?_)
  obtain ⟨g3, hP, hD⟩ : ∃ g3 : Nat → Int32, va_P D vwCl [(h0, .inl (dA 0, 24, .inl g3))] H ∧ va_D A [(h0, .inl (dA 0, 24, .inl g3))] := ⟨(upd (upd (upd g2 6 0) 7 0) 8 0), hP, hD⟩
  refine lv_iinc (v := 9) (lv' := [(2, .int 9), (3, .int 24), (0, .ref h0), (1, .int 0)]) hx hb dJ7_fill_53178_14 hl (k := 0) rfl (by decide +kernel) (by decide) rfl (fun ls hl => ?_)
  refine lv_goto (tgt := 5) hx hb dJ7_fill_53178_17 (by decide) ?_
  refine lv_iload_n hx hb dJ7_fill_53178_5 rfl (lv_at hl 0 rfl) ?_
  refine lv_iload_n hx hb dJ7_fill_53178_6 rfl (lv_at hl 1 rfl) ?_
  refine lv_icmp_ge (tgt := 20) hx hb dJ7_fill_53178_7 (by decide) (fun h => absurd h (by decide +kernel)) (fun _ => ?_)
  refine lv_aload_n hx hb dJ7_fill_53178_10 rfl (lv_at hl 2 rfl) ?_
  refine lv_iload_n hx hb dJ7_fill_53178_11 rfl (lv_at hl 0 rfl) ?_
  refine lv_iload_n hx hb dJ7_fill_53178_12 rfl (lv_at hl 3 rfl) ?_
  refine kq_iast (k := 9) hx hb hK hP hD hS 0 0 rfl rfl (kq_in (by decide +kernel)) (by decide +kernel) dJ7_fill_53178_13 (fun H locs hP hD hS => ?_)
  have hP : va_P D vwCl [(h0, .inl (dA 0, 24, .inl (upd g3 9 0)))] H := hP
  have hD : va_D A [(h0, .inl (dA 0, 24, .inl (upd g3 9 0)))] := hD
  refine lv_iinc (v := 10) (lv' := [(2, .int 10), (3, .int 24), (0, .ref h0), (1, .int 0)]) hx hb dJ7_fill_53178_14 hl (k := 0) rfl (by decide +kernel) (by decide) rfl (fun ls hl => ?_)
  refine lv_goto (tgt := 5) hx hb dJ7_fill_53178_17 (by decide) ?_
  refine lv_iload_n hx hb dJ7_fill_53178_5 rfl (lv_at hl 0 rfl) ?_
  refine lv_iload_n hx hb dJ7_fill_53178_6 rfl (lv_at hl 1 rfl) ?_
  refine lv_icmp_ge (tgt := 20) hx hb dJ7_fill_53178_7 (by decide) (fun h => absurd h (by decide +kernel)) (fun _ => ?_)
  refine lv_aload_n hx hb dJ7_fill_53178_10 rfl (lv_at hl 2 rfl) ?_
  refine lv_iload_n hx hb dJ7_fill_53178_11 rfl (lv_at hl 0 rfl) ?_
  refine lv_iload_n hx hb dJ7_fill_53178_12 rfl (lv_at hl 3 rfl) ?_
  refine kq_iast (k := 10) hx hb hK hP hD hS 0 0 rfl rfl (kq_in (by decide +kernel)) (by decide +kernel) dJ7_fill_53178_13 (fun H locs hP hD hS => ?_)
  have hP : va_P D vwCl [(h0, .inl (dA 0, 24, .inl (upd (upd g3 9 0) 10 0)))] H := hP
  have hD : va_D A [(h0, .inl (dA 0, 24, .inl (upd (upd g3 9 0) 10 0)))] := hD
  refine lv_iinc (v := 11) (lv' := [(2, .int 11), (3, .int 24), (0, .ref h0), (1, .int 0)]) hx hb dJ7_fill_53178_14 hl (k := 0) rfl (by decide +kernel) (by decide) rfl (fun ls hl => ?_)
  refine lv_goto (tgt := 5) hx hb dJ7_fill_53178_17 (by decide) ?_
  refine lv_iload_n hx hb dJ7_fill_53178_5 rfl (lv_at hl 0 rfl) ?_
  refine lv_iload_n hx hb dJ7_fill_53178_6 rfl (lv_at hl 1 rfl) ?_
  refine lv_icmp_ge (tgt := 20) hx hb dJ7_fill_53178_7 (by decide) (fun h => absurd h (by decide +kernel)) (fun _ => ?_)
  refine lv_aload_n hx hb dJ7_fill_53178_10 rfl (lv_at hl 2 rfl) ?_
  refine lv_iload_n hx hb dJ7_fill_53178_11 rfl (lv_at hl 0 rfl) ?_
  refine lv_iload_n hx hb dJ7_fill_53178_12 rfl (lv_at hl 3 rfl) ?_
  refine kq_iast (k := 11) hx hb hK hP hD hS 0 0 rfl rfl (kq_in (by decide +kernel)) (by decide +kernel) dJ7_fill_53178_13 (fun H locs hP hD hS => ?_)
  obtain ⟨g4, hP, hD⟩ : ∃ g4 : Nat → Int32, va_P D vwCl [(h0, .inl (dA 0, 24, .inl g4))] H ∧ va_D A [(h0, .inl (dA 0, 24, .inl g4))] := ⟨(upd (upd (upd g3 9 0) 10 0) 11 0), hP, hD⟩
  refine lv_iinc (v := 12) (lv' := [(2, .int 12), (3, .int 24), (0, .ref h0), (1, .int 0)]) hx hb dJ7_fill_53178_14 hl (k := 0) rfl (by decide +kernel) (by decide) rfl (fun ls hl => ?_)
  refine lv_goto (tgt := 5) hx hb dJ7_fill_53178_17 (by decide) ?_
  refine lv_iload_n hx hb dJ7_fill_53178_5 rfl (lv_at hl 0 rfl) ?_
  refine lv_iload_n hx hb dJ7_fill_53178_6 rfl (lv_at hl 1 rfl) ?_
  refine lv_icmp_ge (tgt := 20) hx hb dJ7_fill_53178_7 (by decide) (fun h => absurd h (by decide +kernel)) (fun _ => ?_)
  refine lv_aload_n hx hb dJ7_fill_53178_10 rfl (lv_at hl 2 rfl) ?_
  refine lv_iload_n hx hb dJ7_fill_53178_11 rfl (lv_at hl 0 rfl) ?_
  refine lv_iload_n hx hb dJ7_fill_53178_12 rfl (lv_at hl 3 rfl) ?_
  refine kq_iast (k := 12) hx hb hK hP hD hS 0 0 rfl rfl (kq_in (by decide +kernel)) (by decide +kernel) dJ7_fill_53178_13 (fun H locs hP hD hS => ?_)
  have hP : va_P D vwCl [(h0, .inl (dA 0, 24, .inl (upd g4 12 0)))] H := hP
  have hD : va_D A [(h0, .inl (dA 0, 24, .inl (upd g4 12 0)))] := hD
  refine lv_iinc (v := 13) (lv' := [(2, .int 13), (3, .int 24), (0, .ref h0), (1, .int 0)]) hx hb dJ7_fill_53178_14 hl (k := 0) rfl (by decide +kernel) (by decide) rfl (fun ls hl => ?_)
  refine lv_goto (tgt := 5) hx hb dJ7_fill_53178_17 (by decide) ?_
  refine lv_iload_n hx hb dJ7_fill_53178_5 rfl (lv_at hl 0 rfl) ?_
  refine lv_iload_n hx hb dJ7_fill_53178_6 rfl (lv_at hl 1 rfl) ?_
  refine lv_icmp_ge (tgt := 20) hx hb dJ7_fill_53178_7 (by decide) (fun h => absurd h (by decide +kernel)) (fun _ => ?_)
  refine lv_aload_n hx hb dJ7_fill_53178_10 rfl (lv_at hl 2 rfl) ?_
  refine lv_iload_n hx hb dJ7_fill_53178_11 rfl (lv_at hl 0 rfl) ?_
  refine lv_iload_n hx hb dJ7_fill_53178_12 rfl (lv_at hl 3 rfl) ?_
  refine kq_iast (k := 13) hx hb hK hP hD hS 0 0 rfl rfl (kq_in (by decide +kernel)) (by decide +kernel) dJ7_fill_53178_13 (fun H locs hP hD hS => ?_)
  have hP : va_P D vwCl [(h0, .inl (dA 0, 24, .inl (upd (upd g4 12 0) 13 0)))] H := hP
  have hD : va_D A [(h0, .inl (dA 0, 24, .inl (upd (upd g4 12 0) 13 0)))] := hD
  refine lv_iinc (v := 14) (lv' := [(2, .int 14), (3, .int 24), (0, .ref h0), (1, .int 0)]) hx hb dJ7_fill_53178_14 hl (k := 0) rfl (by decide +kernel) (by decide) rfl (fun ls hl => ?_)
  refine lv_goto (tgt := 5) hx hb dJ7_fill_53178_17 (by decide) ?_
  refine lv_iload_n hx hb dJ7_fill_53178_5 rfl (lv_at hl 0 rfl) ?_
  refine lv_iload_n hx hb dJ7_fill_53178_6 rfl (lv_at hl 1 rfl) ?_
  refine lv_icmp_ge (tgt := 20) hx hb dJ7_fill_53178_7 (by decide) (fun h => absurd h (by decide +kernel)) (fun _ => ?_)
  refine lv_aload_n hx hb dJ7_fill_53178_10 rfl (lv_at hl 2 rfl) ?_
  refine lv_iload_n hx hb dJ7_fill_53178_11 rfl (lv_at hl 0 rfl) ?_
  refine lv_iload_n hx hb dJ7_fill_53178_12 rfl (lv_at hl 3 rfl) ?_
  refine kq_iast (k := 14) hx hb hK hP hD hS 0 0 rfl rfl (kq_in (by decide +kernel)) (by decide +kernel) dJ7_fill_53178_13 (fun H locs hP hD hS => ?_)
  obtain ⟨g5, hP, hD⟩ : ∃ g5 : Nat → Int32, va_P D vwCl [(h0, .inl (dA 0, 24, .inl g5))] H ∧ va_D A [(h0, .inl (dA 0, 24, .inl g5))] := ⟨(upd (upd (upd g4 12 0) 13 0) 14 0), hP, hD⟩
  refine lv_iinc (v := 15) (lv' := [(2, .int 15), (3, .int 24), (0, .ref h0), (1, .int 0)]) hx hb dJ7_fill_53178_14 hl (k := 0) rfl (by decide +kernel) (by decide) rfl (fun ls hl => ?_)
  refine lv_goto (tgt := 5) hx hb dJ7_fill_53178_17 (by decide) ?_
  refine lv_iload_n hx hb dJ7_fill_53178_5 rfl (lv_at hl 0 rfl) ?_
  refine lv_iload_n hx hb dJ7_fill_53178_6 rfl (lv_at hl 1 rfl) ?_
  refine lv_icmp_ge (tgt := 20) hx hb dJ7_fill_53178_7 (by decide) (fun h => absurd h (by decide +kernel)) (fun _ => ?_)
  refine lv_aload_n hx hb dJ7_fill_53178_10 rfl (lv_at hl 2 rfl) ?_
  refine lv_iload_n hx hb dJ7_fill_53178_11 rfl (lv_at hl 0 rfl) ?_
  refine lv_iload_n hx hb dJ7_fill_53178_12 rfl (lv_at hl 3 rfl) ?_
  refine kq_iast (k := 15) hx hb hK hP hD hS 0 0 rfl rfl (kq_in (by decide +kernel)) (by decide +kernel) dJ7_fill_53178_13 (fun H locs hP hD hS => ?_)
  have hP : va_P D vwCl [(h0, .inl (dA 0, 24, .inl (upd g5 15 0)))] H := hP
  have hD : va_D A [(h0, .inl (dA 0, 24, .inl (upd g5 15 0)))] := hD
  refine lv_iinc (v := 16) (lv' := [(2, .int 16), (3, .int 24), (0, .ref h0), (1, .int 0)]) hx hb dJ7_fill_53178_14 hl (k := 0) rfl (by decide +kernel) (by decide) rfl (fun ls hl => ?_)
  refine lv_goto (tgt := 5) hx hb dJ7_fill_53178_17 (by decide) ?_
  refine lv_iload_n hx hb dJ7_fill_53178_5 rfl (lv_at hl 0 rfl) ?_
  refine lv_iload_n hx hb dJ7_fill_53178_6 rfl (lv_at hl 1 rfl) ?_
  refine lv_icmp_ge (tgt := 20) hx hb dJ7_fill_53178_7 (by decide) (fun h => absurd h (by decide +kernel)) (fun _ => ?_)
  refine lv_aload_n hx hb dJ7_fill_53178_10 rfl (lv_at hl 2 rfl) ?_
  refine lv_iload_n hx hb dJ7_fill_53178_11 rfl (lv_at hl 0 rfl) ?_
  refine lv_iload_n hx hb dJ7_fill_53178_12 rfl (lv_at hl 3 rfl) ?_
  refine kq_iast (k := 16) hx hb hK hP hD hS 0 0 rfl rfl (kq_in (by decide +kernel)) (by decide +kernel) dJ7_fill_53178_13 (fun H locs hP hD hS => ?_)
  have hP : va_P D vwCl [(h0, .inl (dA 0, 24, .inl (upd (upd g5 15 0) 16 0)))] H := hP
  have hD : va_D A [(h0, .inl (dA 0, 24, .inl (upd (upd g5 15 0) 16 0)))] := hD
  refine lv_iinc (v := 17) (lv' := [(2, .int 17), (3, .int 24), (0, .ref h0), (1, .int 0)]) hx hb dJ7_fill_53178_14 hl (k := 0) rfl (by decide +kernel) (by decide) rfl (fun ls hl => ?_)
  refine lv_goto (tgt := 5) hx hb dJ7_fill_53178_17 (by decide) ?_
  refine lv_iload_n hx hb dJ7_fill_53178_5 rfl (lv_at hl 0 rfl) ?_
  refine lv_iload_n hx hb dJ7_fill_53178_6 rfl (lv_at hl 1 rfl) ?_
  refine lv_icmp_ge (tgt := 20) hx hb dJ7_fill_53178_7 (by decide) (fun h => absurd h (by decide +kernel)) (fun _ => ?_)
  refine lv_aload_n hx hb dJ7_fill_53178_10 rfl (lv_at hl 2 rfl) ?_
  refine lv_iload_n hx hb dJ7_fill_53178_11 rfl (lv_at hl 0 rfl) ?_
  refine lv_iload_n hx hb dJ7_fill_53178_12 rfl (lv_at hl 3 rfl) ?_
  refine kq_iast (k := 17) hx hb hK hP hD hS 0 0 rfl rfl (kq_in (by decide +kernel)) (by decide +kernel) dJ7_fill_53178_13 (fun H locs hP hD hS => ?_)
  obtain ⟨g6, hP, hD⟩ : ∃ g6 : Nat → Int32, va_P D vwCl [(h0, .inl (dA 0, 24, .inl g6))] H ∧ va_D A [(h0, .inl (dA 0, 24, .inl g6))] := ⟨(upd (upd (upd g5 15 0) 16 0) 17 0), hP, hD⟩
  refine lv_iinc (v := 18) (lv' := [(2, .int 18), (3, .int 24), (0, .ref h0), (1, .int 0)]) hx hb dJ7_fill_53178_14 hl (k := 0) rfl (by decide +kernel) (by decide) rfl (fun ls hl => ?_)
  refine lv_goto (tgt := 5) hx hb dJ7_fill_53178_17 (by decide) ?_
  refine lv_iload_n hx hb dJ7_fill_53178_5 rfl (lv_at hl 0 rfl) ?_
  refine lv_iload_n hx hb dJ7_fill_53178_6 rfl (lv_at hl 1 rfl) ?_
  refine lv_icmp_ge (tgt := 20) hx hb dJ7_fill_53178_7 (by decide) (fun h => absurd h (by decide +kernel)) (fun _ => ?_)
  refine lv_aload_n hx hb dJ7_fill_53178_10 rfl (lv_at hl 2 rfl) ?_
  refine lv_iload_n hx hb dJ7_fill_53178_11 rfl (lv_at hl 0 rfl) ?_
  refine lv_iload_n hx hb dJ7_fill_53178_12 rfl (lv_at hl 3 rfl) ?_
  refine kq_iast (k := 18) hx hb hK hP hD hS 0 0 rfl rfl (kq_in (by decide +kernel)) (by decide +kernel) dJ7_fill_53178_13 (fun H locs hP hD hS => ?_)
  have hP : va_P D vwCl [(h0, .inl (dA 0, 24, .inl (upd g6 18 0)))] H := hP
  have hD : va_D A [(h0, .inl (dA 0, 24, .inl (upd g6 18 0)))] := hD
  refine lv_iinc (v := 19) (lv' := [(2, .int 19), (3, .int 24), (0, .ref h0), (1, .int 0)]) hx hb dJ7_fill_53178_14 hl (k := 0) rfl (by decide +kernel) (by decide) rfl (fun ls hl => ?_)
  refine lv_goto (tgt := 5) hx hb dJ7_fill_53178_17 (by decide) ?_
  refine lv_iload_n hx hb dJ7_fill_53178_5 rfl (lv_at hl 0 rfl) ?_
  refine lv_iload_n hx hb dJ7_fill_53178_6 rfl (lv_at hl 1 rfl) ?_
  refine lv_icmp_ge (tgt := 20) hx hb dJ7_fill_53178_7 (by decide) (fun h => absurd h (by decide +kernel)) (fun _ => ?_)
  refine lv_aload_n hx hb dJ7_fill_53178_10 rfl (lv_at hl 2 rfl) ?_
  refine lv_iload_n hx hb dJ7_fill_53178_11 rfl (lv_at hl 0 rfl) ?_
  refine lv_iload_n hx hb dJ7_fill_53178_12 rfl (lv_at hl 3 rfl) ?_
  refine kq_iast (k := 19) hx hb hK hP hD hS 0 0 rfl rfl (kq_in (by decide +kernel)) (by decide +kernel) dJ7_fill_53178_13 (fun H locs hP hD hS => ?_)
  have hP : va_P D vwCl [(h0, .inl (dA 0, 24, .inl (upd (upd g6 18 0) 19 0)))] H := hP
  have hD : va_D A [(h0, .inl (dA 0, 24, .inl (upd (upd g6 18 0) 19 0)))] := hD
  refine lv_iinc (v := 20) (lv' := [(2, .int 20), (3, .int 24), (0, .ref h0), (1, .int 0)]) hx hb dJ7_fill_53178_14 hl (k := 0) rfl (by decide +kernel) (by decide) rfl (fun ls hl => ?_)
  refine lv_goto (tgt := 5) hx hb dJ7_fill_53178_17 (by decide) ?_
  refine lv_iload_n hx hb dJ7_fill_53178_5 rfl (lv_at hl 0 rfl) ?_
  refine lv_iload_n hx hb dJ7_fill_53178_6 rfl (lv_at hl 1 rfl) ?_
  refine lv_icmp_ge (tgt := 20) hx hb dJ7_fill_53178_7 (by decide) (fun h => absurd h (by decide +kernel)) (fun _ => ?_)
  refine lv_aload_n hx hb dJ7_fill_53178_10 rfl (lv_at hl 2 rfl) ?_
  refine lv_iload_n hx hb dJ7_fill_53178_11 rfl (lv_at hl 0 rfl) ?_
  refine lv_iload_n hx hb dJ7_fill_53178_12 rfl (lv_at hl 3 rfl) ?_
  refine kq_iast (k := 20) hx hb hK hP hD hS 0 0 rfl rfl (kq_in (by decide +kernel)) (by decide +kernel) dJ7_fill_53178_13 (fun H locs hP hD hS => ?_)
  obtain ⟨g7, hP, hD⟩ : ∃ g7 : Nat → Int32, va_P D vwCl [(h0, .inl (dA 0, 24, .inl g7))] H ∧ va_D A [(h0, .inl (dA 0, 24, .inl g7))] := ⟨(upd (upd (upd g6 18 0) 19 0) 20 0), hP, hD⟩
  refine lv_iinc (v := 21) (lv' := [(2, .int 21), (3, .int 24), (0, .ref h0), (1, .int 0)]) hx hb dJ7_fill_53178_14 hl (k := 0) rfl (by decide +kernel) (by decide) rfl (fun ls hl => ?_)
  refine lv_goto (tgt := 5) hx hb dJ7_fill_53178_17 (by decide) ?_
  refine lv_iload_n hx hb dJ7_fill_53178_5 rfl (lv_at hl 0 rfl) ?_
  refine lv_iload_n hx hb dJ7_fill_53178_6 rfl (lv_at hl 1 rfl) ?_
  refine lv_icmp_ge (tgt := 20) hx hb dJ7_fill_53178_7 (by decide) (fun h => absurd h (by decide +kernel)) (fun _ => ?_)
  refine lv_aload_n hx hb dJ7_fill_53178_10 rfl (lv_at hl 2 rfl) ?_
  refine lv_iload_n hx hb dJ7_fill_53178_11 rfl (lv_at hl 0 rfl) ?_
  refine lv_iload_n hx hb dJ7_fill_53178_12 rfl (lv_at hl 3 rfl) ?_
  refine kq_iast (k := 21) hx hb hK hP hD hS 0 0 rfl rfl (kq_in (by decide +kernel)) (by decide +kernel) dJ7_fill_53178_13 (fun H locs hP hD hS => ?_)
  have hP : va_P D vwCl [(h0, .inl (dA 0, 24, .inl (upd g7 21 0)))] H := hP
  have hD : va_D A [(h0, .inl (dA 0, 24, .inl (upd g7 21 0)))] := hD
  refine lv_iinc (v := 22) (lv' := [(2, .int 22), (3, .int 24), (0, .ref h0), (1, .int 0)]) hx hb dJ7_fill_53178_14 hl (k := 0) rfl (by decide +kernel) (by decide) rfl (fun ls hl => ?_)
  refine lv_goto (tgt := 5) hx hb dJ7_fill_53178_17 (by decide) ?_
  refine lv_iload_n hx hb dJ7_fill_53178_5 rfl (lv_at hl 0 rfl) ?_
  refine lv_iload_n hx hb dJ7_fill_53178_6 rfl (lv_at hl 1 rfl) ?_
  refine lv_icmp_ge (tgt := 20) hx hb dJ7_fill_53178_7 (by decide) (fun h => absurd h (by decide +kernel)) (fun _ => ?_)
  refine lv_aload_n hx hb dJ7_fill_53178_10 rfl (lv_at hl 2 rfl) ?_
  refine lv_iload_n hx hb dJ7_fill_53178_11 rfl (lv_at hl 0 rfl) ?_
  refine lv_iload_n hx hb dJ7_fill_53178_12 rfl (lv_at hl 3 rfl) ?_
  refine kq_iast (k := 22) hx hb hK hP hD hS 0 0 rfl rfl (kq_in (by decide +kernel)) (by decide +kernel) dJ7_fill_53178_13 (fun H locs hP hD hS => ?_)
  have hP : va_P D vwCl [(h0, .inl (dA 0, 24, .inl (upd (upd g7 21 0) 22 0)))] H := hP
  have hD : va_D A [(h0, .inl (dA 0, 24, .inl (upd (upd g7 21 0) 22 0)))] := hD
  refine lv_iinc (v := 23) (lv' := [(2, .int 23), (3, .int 24), (0, .ref h0), (1, .int 0)]) hx hb dJ7_fill_53178_14 hl (k := 0) rfl (by decide +kernel) (by decide) rfl (fun ls hl => ?_)
  refine lv_goto (tgt := 5) hx hb dJ7_fill_53178_17 (by decide) ?_
  refine lv_iload_n hx hb dJ7_fill_53178_5 rfl (lv_at hl 0 rfl) ?_
  refine lv_iload_n hx hb dJ7_fill_53178_6 rfl (lv_at hl 1 rfl) ?_
  refine lv_icmp_ge (tgt := 20) hx hb dJ7_fill_53178_7 (by decide) (fun h => absurd h (by decide +kernel)) (fun _ => ?_)
  refine lv_aload_n hx hb dJ7_fill_53178_10 rfl (lv_at hl 2 rfl) ?_
  refine lv_iload_n hx hb dJ7_fill_53178_11 rfl (lv_at hl 0 rfl) ?_
  refine lv_iload_n hx hb dJ7_fill_53178_12 rfl (lv_at hl 3 rfl) ?_
  refine kq_iast (k := 23) hx hb hK hP hD hS 0 0 rfl rfl (kq_in (by decide +kernel)) (by decide +kernel) dJ7_fill_53178_13 (fun H locs hP hD hS => ?_)
  obtain ⟨g8, hP, hD⟩ : ∃ g8 : Nat → Int32, va_P D vwCl [(h0, .inl (dA 0, 24, .inl g8))] H ∧ va_D A [(h0, .inl (dA 0, 24, .inl g8))] := ⟨(upd (upd (upd g7 21 0) 22 0) 23 0), hP, hD⟩
  refine lv_iinc (v := 24) (lv' := [(2, .int 24), (3, .int 24), (0, .ref h0), (1, .int 0)]) hx hb dJ7_fill_53178_14 hl (k := 0) rfl (by decide +kernel) (by decide) rfl (fun ls hl => ?_)
  refine lv_goto (tgt := 5) hx hb dJ7_fill_53178_17 (by decide) ?_
  refine lv_iload_n hx hb dJ7_fill_53178_5 rfl (lv_at hl 0 rfl) ?_
  refine lv_iload_n hx hb dJ7_fill_53178_6 rfl (lv_at hl 1 rfl) ?_
  refine lv_icmp_ge (tgt := 20) hx hb dJ7_fill_53178_7 (by decide) (fun _ => ?_) (fun h => absurd (by decide +kernel) h)
  have hP9 := hP.sub (ws' := [(h0, .inl (dA 0, 24, .inl g8))]) [0] rfl
  have hD9 := hD.sub (ws' := [(h0, .inl (dA 0, 24, .inl g8))]) [0] (by decide) rfl
  exact (kq_vret hx hb hr hlocks hS ⟨g8, rfl, rfl⟩ hP9 hD9 (Nat.le_of_ble_eq_true rfl) (Nat.le_of_ble_eq_true rfl) dJ7_fill_53178_20)
set_option maxHeartbeats 4000000 in
set_option maxRecDepth 100000 in
theorem c_X1_wordAt_1 (l : Launch) (hfl : l.stackTraces = false) (D : va_G) (dA : Nat → ClassId) (tE tC : Nat) (h0 : Nat) (h1 : Nat) (p0 : Int32) (h2 : Nat) (h3 : Nat) : Ct l D dA tE tC yX1_wordAt (Cond.code yX1_wordAt cX1_wordAt 2 (some .int) :: gW) ({ frames := 0, cells := 0, slots := 0, locals := 0 } : Room) [.ref h0, .int 0] [(h1, .inl (dA 0, 24, .inl (upd (fun _ => 0) 0 p0))), (h0, .inr (5, [.ref h1, .ref h2, .ref h3, .int 0, .int 0, .int 1, .int (-1), .int 0, .int 0, .int 0, .int 0, .int 0]))] (fun v w1 => (v = some (.int p0) ∧ w1 = [(h1, .inl (dA 0, 24, .inl (upd (fun _ => 0) 0 p0))), (h0, .inr (5, [.ref h1, .ref h2, .ref h3, .int 0, .int 0, .int 1, .int (-1), .int 0, .int 0, .int 0, .int 0, .int 0]))])) 0 0 := by
  refine Ct_of (by decide) (Nat.le_of_ble_eq_true rfl) ?_
  intro p e s m below meth c hx hb hr hml hown hnm hlocks hgw hK A hG hA hP hD ls hl
  have hl : lv_has ls 2 [(0, .ref h0), (1, .int 0)] := hl
  have hS : va_S A s.heap s.heap [] := va_S.rf
  refine lv_iload_n hx hb dX1_wordAt_0 rfl (lv_at hl 1 rfl) ?_
  refine lv_if_lt (tgt := 27) hx hb dX1_wordAt_1 (by decide) (fun h => absurd h (by decide +kernel)) (fun _ => ?_)
  refine lv_iload_n hx hb dX1_wordAt_4 rfl (lv_at hl 1 rfl) ?_
  refine lv_aload_n hx hb dX1_wordAt_5 rfl (lv_at hl 0 rfl) ?_
  refine va_get (D := D) (ci := 5) (v := .int 1) (C := RX1) (T := TX1) (N := 12) hx hb hgw in_X1 hown hK hP 1 rfl rfl 5 (by decide) (hgw _ m_2_5) (fun _ h9 => h9) rfl dX1_wordAt_6 ?_
  refine lv_icmp_ge (tgt := 27) hx hb dX1_wordAt_9 (by decide) (fun h => absurd h (by decide +kernel)) (fun _ => ?_)
  refine lv_iload_n hx hb dX1_wordAt_12 rfl (lv_at hl 1 rfl) ?_
  refine lv_bipush (v := 24) hx hb dX1_wordAt_13 (by decide +kernel) ?_
  refine lv_icmp_ge (tgt := 27) hx hb dX1_wordAt_15 (by decide) (fun h => absurd h (by decide +kernel)) (fun _ => ?_)
  refine lv_aload_n hx hb dX1_wordAt_18 rfl (lv_at hl 0 rfl) ?_
  refine va_get (D := D) (ci := 5) (v := .ref h1) (C := RX1) (T := TX1) (N := 12) hx hb hgw in_X1 hown hK hP 1 rfl rfl 0 (by decide) (hgw _ m_1_237) (fun _ h9 => h9) rfl dX1_wordAt_19 ?_
  refine lv_iload_n hx hb dX1_wordAt_22 rfl (lv_at hl 1 rfl) ?_
  refine va_iald hx hb hK hP 0 0 rfl rfl (kq_in (by decide +kernel)) dX1_wordAt_23 ?_
  refine kq_topi (y := p0) (kq_rd (k := 0) (by decide +kernel) rfl) ?_
  refine lv_goto (tgt := 28) hx hb dX1_wordAt_24 (by decide) ?_
  have hP9 := hP.sub (ws' := [(h1, .inl (dA 0, 24, .inl (upd (fun _ => 0) 0 p0))), (h0, .inr (5, [.ref h1, .ref h2, .ref h3, .int 0, .int 0, .int 1, .int (-1), .int 0, .int 0, .int 0, .int 0, .int 0]))]) [0, 1] rfl
  have hD9 := hD.sub (ws' := [(h1, .inl (dA 0, 24, .inl (upd (fun _ => 0) 0 p0))), (h0, .inr (5, [.ref h1, .ref h2, .ref h3, .int 0, .int 0, .int 1, .int (-1), .int 0, .int 0, .int 0, .int 0, .int 0]))]) [0, 1] (by decide) rfl
  exact (kq_iret (v := p0) hx hb hr hlocks hS rfl ⟨rfl, rfl⟩ hP9 hD9 (Nat.le_of_ble_eq_true rfl) (Nat.le_of_ble_eq_true rfl) dX1_wordAt_28)
set_option maxHeartbeats 4000000 in
set_option maxRecDepth 100000 in
theorem c_X1_meaningOf_1 (l : Launch) (hfl : l.stackTraces = false) (D : va_G) (dA : Nat → ClassId) (tE tC : Nat) (h0 : Nat) (p0 : Int32) (h1 : Nat) (h2 : Nat) (h3 : Nat) : Ct l D dA tE tC yX1_meaningOf (Cond.code yX1_meaningOf cX1_meaningOf 3 (some .int) :: gW) ({ frames := 0, cells := 0, slots := 0, locals := 0 } : Room) [.ref h0, .int p0, .int 0] [(h0, .inr (5, [.ref h1, .ref h2, .ref h3, .int 0, .int 0, .int 1, .int (-1), .int 0, .int 0, .int 0, .int 0, .int 0]))] (fun v w1 => (p0.toInt < 1 ∧ v = some (.int 0) ∧ w1 = [(h0, .inr (5, [.ref h1, .ref h2, .ref h3, .int 0, .int 0, .int 1, .int (-1), .int 0, .int 0, .int 0, .int 0, .int 0]))]) ∨ (¬ p0.toInt < 1 ∧ 8 < p0.toInt ∧ p0.toInt = 31 ∧ v = some (.int 0) ∧ w1 = [(h0, .inr (5, [.ref h1, .ref h2, .ref h3, .int 0, .int 0, .int 1, .int (-1), .int 0, .int 0, .int 0, .int 0, .int 0]))]) ∨ (¬ p0.toInt < 1 ∧ 8 < p0.toInt ∧ ¬ p0.toInt = 31 ∧ p0.toInt = 32 ∧ v = some (.int 0) ∧ w1 = [(h0, .inr (5, [.ref h1, .ref h2, .ref h3, .int 0, .int 0, .int 1, .int (-1), .int 0, .int 0, .int 0, .int 0, .int 0]))]) ∨ (¬ p0.toInt < 1 ∧ 8 < p0.toInt ∧ ¬ p0.toInt = 31 ∧ ¬ p0.toInt = 32 ∧ p0.toInt = 33 ∧ v = some (.int 0) ∧ w1 = [(h0, .inr (5, [.ref h1, .ref h2, .ref h3, .int 0, .int 0, .int 1, .int (-1), .int 0, .int 0, .int 0, .int 0, .int 0]))]) ∨ (¬ p0.toInt < 1 ∧ 8 < p0.toInt ∧ ¬ p0.toInt = 31 ∧ ¬ p0.toInt = 32 ∧ ¬ p0.toInt = 33 ∧ p0.toInt = 34 ∧ v = some (.int 0) ∧ w1 = [(h0, .inr (5, [.ref h1, .ref h2, .ref h3, .int 0, .int 0, .int 1, .int (-1), .int 0, .int 0, .int 0, .int 0, .int 0]))]) ∨ (¬ p0.toInt < 1 ∧ 8 < p0.toInt ∧ ¬ p0.toInt = 31 ∧ ¬ p0.toInt = 32 ∧ ¬ p0.toInt = 33 ∧ ¬ p0.toInt = 34 ∧ p0.toInt = 35 ∧ v = some (.int 0) ∧ w1 = [(h0, .inr (5, [.ref h1, .ref h2, .ref h3, .int 0, .int 0, .int 1, .int (-1), .int 0, .int 0, .int 0, .int 0, .int 0]))]) ∨ (¬ p0.toInt < 1 ∧ 8 < p0.toInt ∧ ¬ p0.toInt = 31 ∧ ¬ p0.toInt = 32 ∧ ¬ p0.toInt = 33 ∧ ¬ p0.toInt = 34 ∧ ¬ p0.toInt = 35 ∧ v = some (.int 0) ∧ w1 = [(h0, .inr (5, [.ref h1, .ref h2, .ref h3, .int 0, .int 0, .int 1, .int (-1), .int 0, .int 0, .int 0, .int 0, .int 0]))]) ∨ (¬ p0.toInt < 1 ∧ ¬ 8 < p0.toInt ∧ v = some (.int p0) ∧ w1 = [(h0, .inr (5, [.ref h1, .ref h2, .ref h3, .int 0, .int 0, .int 1, .int (-1), .int 0, .int 0, .int 0, .int 0, .int 0]))])) 0 0 := by
  refine Ct_of (by decide) (Nat.le_of_ble_eq_true rfl) ?_
  intro p e s m below meth c hx hb hr hml hown hnm hlocks hgw hK A hG hA hP hD ls hl
  have hl : lv_has ls 3 [(0, .ref h0), (1, .int p0), (2, .int 0)] := hl
  have hS : va_S A s.heap s.heap [] := va_S.rf
  refine lv_iload_n hx hb dX1_meaningOf_0 rfl (lv_at hl 1 rfl) ?_
  refine lv_iconst (v := 1) hx hb dX1_meaningOf_1 (by decide) ?_
  refine lv_icmp_lt (tgt := 13) hx hb dX1_meaningOf_2 (by decide) (fun c_1 => ?_) (fun c_1 => ?_)
  · have c_1 := (kq_lt (x := p0) (y := 1) (a := p0.toInt) (b := 1) (by rfl) (by decide +kernel)).mp c_1
    refine lv_iload_n hx hb dX1_meaningOf_13 rfl (lv_at hl 1 rfl) ?_
    refine lv_tableOut (tgt := 101) hx hb dX1_meaningOf_14 (by omega) (by decide) ?_
    refine lv_iconst (v := 0) hx hb dX1_meaningOf_101 (by decide) ?_
    have hP9 := hP.sub (ws' := [(h0, .inr (5, [.ref h1, .ref h2, .ref h3, .int 0, .int 0, .int 1, .int (-1), .int 0, .int 0, .int 0, .int 0, .int 0]))]) [0] rfl
    have hD9 := hD.sub (ws' := [(h0, .inr (5, [.ref h1, .ref h2, .ref h3, .int 0, .int 0, .int 1, .int (-1), .int 0, .int 0, .int 0, .int 0, .int 0]))]) [0] (by decide) rfl
    exact (kq_iret (v := 0) hx hb hr hlocks hS rfl (Or.inl ⟨c_1, rfl, rfl⟩) hP9 hD9 (Nat.le_of_ble_eq_true rfl) (Nat.le_of_ble_eq_true rfl) dX1_meaningOf_102)
  · have c_1 := mt (kq_lt (x := p0) (y := 1) (a := p0.toInt) (b := 1) (by rfl) (by decide +kernel)).mpr c_1
    refine lv_iload_n hx hb dX1_meaningOf_5 rfl (lv_at hl 1 rfl) ?_
    refine lv_bipush (v := 8) hx hb dX1_meaningOf_6 (by decide +kernel) ?_
    refine lv_icmp_gt (tgt := 13) hx hb dX1_meaningOf_8 (by decide) (fun c_7 => ?_) (fun c_7 => ?_)
    · have c_7 := (kq_lt (x := 8) (y := p0) (a := 8) (b := p0.toInt) (by decide +kernel) (by rfl)).mp c_7
      refine lv_iload_n hx hb dX1_meaningOf_13 rfl (lv_at hl 1 rfl) ?_
      rcases Decidable.em (p0 = 31) with c_8 | c_8
      · have c_8 : p0.toInt = 31 := by rw [c_8]; decide +kernel
        refine lv_tableIn (off := 34) (tgt := 48) hx hb dX1_meaningOf_14 (by rw [c_8]; decide) (by rw [c_8]; decide) (by rw [c_8]; decide +kernel) (by decide) ?_
        refine lv_iload_n hx hb dX1_meaningOf_48 rfl (lv_at hl 2 rfl) ?_
        refine lv_if_eq (tgt := 68) hx hb dX1_meaningOf_49 (by decide) (fun _ => ?_) (fun h => absurd (by decide +kernel) h)
        refine lv_aload_n hx hb dX1_meaningOf_68 rfl (lv_at hl 0 rfl) ?_
        refine va_get (D := D) (ci := 5) (v := .int 0) (C := RX1) (T := TX1) (N := 12) hx hb hgw in_X1 hown hK hP 0 rfl rfl 4 (by decide) (hgw _ m_2_2) (fun _ h9 => h9) rfl dX1_meaningOf_69 ?_
        have hP9 := hP.sub (ws' := [(h0, .inr (5, [.ref h1, .ref h2, .ref h3, .int 0, .int 0, .int 1, .int (-1), .int 0, .int 0, .int 0, .int 0, .int 0]))]) [0] rfl
        have hD9 := hD.sub (ws' := [(h0, .inr (5, [.ref h1, .ref h2, .ref h3, .int 0, .int 0, .int 1, .int (-1), .int 0, .int 0, .int 0, .int 0, .int 0]))]) [0] (by decide) rfl
        exact (kq_iret (v := 0) hx hb hr hlocks hS rfl (Or.inr (Or.inl ⟨c_1, c_7, c_8, rfl, rfl⟩)) hP9 hD9 (Nat.le_of_ble_eq_true rfl) (Nat.le_of_ble_eq_true rfl) dX1_meaningOf_72)
      have c_8 := mt (kq_eq (x := p0) (y := 31) (a := p0.toInt) (b := 31) (by rfl) (by decide +kernel)).mpr c_8
      rcases Decidable.em (p0 = 32) with c_9 | c_9
      · have c_9 : p0.toInt = 32 := by rw [c_9]; decide +kernel
        refine lv_tableIn (off := 59) (tgt := 73) hx hb dX1_meaningOf_14 (by rw [c_9]; decide) (by rw [c_9]; decide) (by rw [c_9]; decide +kernel) (by decide) ?_
        refine lv_aload_n hx hb dX1_meaningOf_73 rfl (lv_at hl 0 rfl) ?_
        refine va_get (D := D) (ci := 5) (v := .int 0) (C := RX1) (T := TX1) (N := 12) hx hb hgw in_X1 hown hK hP 0 rfl rfl 9 (by decide) (hgw _ m_2_17) (fun _ h9 => h9) rfl dX1_meaningOf_74 ?_
        have hP9 := hP.sub (ws' := [(h0, .inr (5, [.ref h1, .ref h2, .ref h3, .int 0, .int 0, .int 1, .int (-1), .int 0, .int 0, .int 0, .int 0, .int 0]))]) [0] rfl
        have hD9 := hD.sub (ws' := [(h0, .inr (5, [.ref h1, .ref h2, .ref h3, .int 0, .int 0, .int 1, .int (-1), .int 0, .int 0, .int 0, .int 0, .int 0]))]) [0] (by decide) rfl
        exact (kq_iret (v := 0) hx hb hr hlocks hS rfl (Or.inr (Or.inr (Or.inl ⟨c_1, c_7, c_8, c_9, rfl, rfl⟩))) hP9 hD9 (Nat.le_of_ble_eq_true rfl) (Nat.le_of_ble_eq_true rfl) dX1_meaningOf_77)
      have c_9 := mt (kq_eq (x := p0) (y := 32) (a := p0.toInt) (b := 32) (by rfl) (by decide +kernel)).mpr c_9
      rcases Decidable.em (p0 = 33) with c_10 | c_10
      · have c_10 : p0.toInt = 33 := by rw [c_10]; decide +kernel
        refine lv_tableIn (off := 64) (tgt := 78) hx hb dX1_meaningOf_14 (by rw [c_10]; decide) (by rw [c_10]; decide) (by rw [c_10]; decide +kernel) (by decide) ?_
        refine lv_aload_n hx hb dX1_meaningOf_78 rfl (lv_at hl 0 rfl) ?_
        refine va_get (D := D) (ci := 5) (v := .int 0) (C := RX1) (T := TX1) (N := 12) hx hb hgw in_X1 hown hK hP 0 rfl rfl 10 (by decide) (hgw _ m_2_22) (fun _ h9 => h9) rfl dX1_meaningOf_79 ?_
        have hP9 := hP.sub (ws' := [(h0, .inr (5, [.ref h1, .ref h2, .ref h3, .int 0, .int 0, .int 1, .int (-1), .int 0, .int 0, .int 0, .int 0, .int 0]))]) [0] rfl
        have hD9 := hD.sub (ws' := [(h0, .inr (5, [.ref h1, .ref h2, .ref h3, .int 0, .int 0, .int 1, .int (-1), .int 0, .int 0, .int 0, .int 0, .int 0]))]) [0] (by decide) rfl
        exact (kq_iret (v := 0) hx hb hr hlocks hS rfl (Or.inr (Or.inr (Or.inr (Or.inl ⟨c_1, c_7, c_8, c_9, c_10, rfl, rfl⟩)))) hP9 hD9 (Nat.le_of_ble_eq_true rfl) (Nat.le_of_ble_eq_true rfl) dX1_meaningOf_82)
      have c_10 := mt (kq_eq (x := p0) (y := 33) (a := p0.toInt) (b := 33) (by rfl) (by decide +kernel)).mpr c_10
      rcases Decidable.em (p0 = 34) with c_11 | c_11
      · have c_11 : p0.toInt = 34 := by rw [c_11]; decide +kernel
        refine lv_tableIn (off := 87) (tgt := 101) hx hb dX1_meaningOf_14 (by rw [c_11]; decide) (by rw [c_11]; decide) (by rw [c_11]; decide +kernel) (by decide) ?_
        refine lv_iconst (v := 0) hx hb dX1_meaningOf_101 (by decide) ?_
        have hP9 := hP.sub (ws' := [(h0, .inr (5, [.ref h1, .ref h2, .ref h3, .int 0, .int 0, .int 1, .int (-1), .int 0, .int 0, .int 0, .int 0, .int 0]))]) [0] rfl
        have hD9 := hD.sub (ws' := [(h0, .inr (5, [.ref h1, .ref h2, .ref h3, .int 0, .int 0, .int 1, .int (-1), .int 0, .int 0, .int 0, .int 0, .int 0]))]) [0] (by decide) rfl
        exact (kq_iret (v := 0) hx hb hr hlocks hS rfl (Or.inr (Or.inr (Or.inr (Or.inr (Or.inl ⟨c_1, c_7, c_8, c_9, c_10, c_11, rfl, rfl⟩))))) hP9 hD9 (Nat.le_of_ble_eq_true rfl) (Nat.le_of_ble_eq_true rfl) dX1_meaningOf_102)
      have c_11 := mt (kq_eq (x := p0) (y := 34) (a := p0.toInt) (b := 34) (by rfl) (by decide +kernel)).mpr c_11
      rcases Decidable.em (p0 = 35) with c_12 | c_12
      · have c_12 : p0.toInt = 35 := by rw [c_12]; decide +kernel
        refine lv_tableIn (off := 69) (tgt := 83) hx hb dX1_meaningOf_14 (by rw [c_12]; decide) (by rw [c_12]; decide) (by rw [c_12]; decide +kernel) (by decide) ?_
        refine lv_aload_n hx hb dX1_meaningOf_83 rfl (lv_at hl 0 rfl) ?_
        refine va_get (D := D) (ci := 5) (v := .int 0) (C := RX1) (T := TX1) (N := 12) hx hb hgw in_X1 hown hK hP 0 rfl rfl 10 (by decide) (hgw _ m_2_22) (fun _ h9 => h9) rfl dX1_meaningOf_84 ?_
        refine lv_if_eq (tgt := 99) hx hb dX1_meaningOf_87 (by decide) (fun _ => ?_) (fun h => absurd (by decide +kernel) h)
        refine lv_iconst (v := 0) hx hb dX1_meaningOf_99 (by decide) ?_
        have hP9 := hP.sub (ws' := [(h0, .inr (5, [.ref h1, .ref h2, .ref h3, .int 0, .int 0, .int 1, .int (-1), .int 0, .int 0, .int 0, .int 0, .int 0]))]) [0] rfl
        have hD9 := hD.sub (ws' := [(h0, .inr (5, [.ref h1, .ref h2, .ref h3, .int 0, .int 0, .int 1, .int (-1), .int 0, .int 0, .int 0, .int 0, .int 0]))]) [0] (by decide) rfl
        exact (kq_iret (v := 0) hx hb hr hlocks hS rfl (Or.inr (Or.inr (Or.inr (Or.inr (Or.inr (Or.inl ⟨c_1, c_7, c_8, c_9, c_10, c_11, c_12, rfl, rfl⟩)))))) hP9 hD9 (Nat.le_of_ble_eq_true rfl) (Nat.le_of_ble_eq_true rfl) dX1_meaningOf_100)
      have c_12 := mt (kq_eq (x := p0) (y := 35) (a := p0.toInt) (b := 35) (by rfl) (by decide +kernel)).mpr c_12
      refine lv_tableOut (tgt := 101) hx hb dX1_meaningOf_14 (by omega) (by decide) ?_
      refine lv_iconst (v := 0) hx hb dX1_meaningOf_101 (by decide) ?_
      have hP9 := hP.sub (ws' := [(h0, .inr (5, [.ref h1, .ref h2, .ref h3, .int 0, .int 0, .int 1, .int (-1), .int 0, .int 0, .int 0, .int 0, .int 0]))]) [0] rfl
      have hD9 := hD.sub (ws' := [(h0, .inr (5, [.ref h1, .ref h2, .ref h3, .int 0, .int 0, .int 1, .int (-1), .int 0, .int 0, .int 0, .int 0, .int 0]))]) [0] (by decide) rfl
      exact (kq_iret (v := 0) hx hb hr hlocks hS rfl (Or.inr (Or.inr (Or.inr (Or.inr (Or.inr (Or.inr (Or.inl ⟨c_1, c_7, c_8, c_9, c_10, c_11, c_12, rfl, rfl⟩))))))) hP9 hD9 (Nat.le_of_ble_eq_true rfl) (Nat.le_of_ble_eq_true rfl) dX1_meaningOf_102)
    · have c_7 := mt (kq_lt (x := 8) (y := p0) (a := 8) (b := p0.toInt) (by decide +kernel) (by rfl)).mpr c_7
      refine lv_iload_n hx hb dX1_meaningOf_11 rfl (lv_at hl 1 rfl) ?_
      have hP9 := hP.sub (ws' := [(h0, .inr (5, [.ref h1, .ref h2, .ref h3, .int 0, .int 0, .int 1, .int (-1), .int 0, .int 0, .int 0, .int 0, .int 0]))]) [0] rfl
      have hD9 := hD.sub (ws' := [(h0, .inr (5, [.ref h1, .ref h2, .ref h3, .int 0, .int 0, .int 1, .int (-1), .int 0, .int 0, .int 0, .int 0, .int 0]))]) [0] (by decide) rfl
      exact (kq_iret (v := p0) hx hb hr hlocks hS rfl (Or.inr (Or.inr (Or.inr (Or.inr (Or.inr (Or.inr (Or.inr (⟨c_1, c_7, rfl, rfl⟩)))))))) hP9 hD9 (Nat.le_of_ble_eq_true rfl) (Nat.le_of_ble_eq_true rfl) dX1_meaningOf_12)
set_option maxHeartbeats 4000000 in
set_option maxRecDepth 100000 in
theorem c_X1_takeTincture_1 (l : Launch) (hfl : l.stackTraces = false) (D : va_G) (dA : Nat → ClassId) (tE tC : Nat) (h0 : Nat) (h1 : Nat) (f0 : Nat → Int32) (h2 : Nat) (p0 : Int32) (h3 : Nat) : Ct l D dA tE tC yX1_takeTincture (Cond.code yX1_takeTincture cX1_takeTincture 3 (some .int) :: gW) ({ frames := 1, cells := 0, slots := 0, locals := 22 } : Room) [.ref h0, .int 0] [(h1, .inl (dA 0, 24, .inl f0)), (h2, .inl (dA 0, 24, .inl (upd (fun _ => 0) 0 p0))), (h0, .inr (5, [.ref h2, .ref h1, .ref h3, .int 0, .int 0, .int 1, .int (-1), .int 0, .int 0, .int 0, .int 0, .int 0]))] (fun v w1 => (p0.toInt < 1 ∧ v = some (.int 0) ∧ w1 = [(h1, .inl (dA 0, 24, .inl f0)), (h2, .inl (dA 0, 24, .inl (upd (fun _ => 0) 0 p0))), (h0, .inr (5, [.ref h2, .ref h1, .ref h3, .int 0, .int 0, .int 1, .int (-1), .int 0, .int 0, .int 0, .int 0, .int 0]))]) ∨ (¬ p0.toInt < 1 ∧ 8 < p0.toInt ∧ p0.toInt = 31 ∧ v = some (.int 0) ∧ w1 = [(h1, .inl (dA 0, 24, .inl f0)), (h2, .inl (dA 0, 24, .inl (upd (fun _ => 0) 0 p0))), (h0, .inr (5, [.ref h2, .ref h1, .ref h3, .int 0, .int 0, .int 1, .int (-1), .int 0, .int 0, .int 0, .int 0, .int 0]))]) ∨ (¬ p0.toInt < 1 ∧ 8 < p0.toInt ∧ ¬ p0.toInt = 31 ∧ p0.toInt = 32 ∧ v = some (.int 0) ∧ w1 = [(h1, .inl (dA 0, 24, .inl f0)), (h2, .inl (dA 0, 24, .inl (upd (fun _ => 0) 0 p0))), (h0, .inr (5, [.ref h2, .ref h1, .ref h3, .int 0, .int 0, .int 1, .int (-1), .int 0, .int 0, .int 0, .int 0, .int 0]))]) ∨ (¬ p0.toInt < 1 ∧ 8 < p0.toInt ∧ ¬ p0.toInt = 31 ∧ ¬ p0.toInt = 32 ∧ p0.toInt = 33 ∧ v = some (.int 0) ∧ w1 = [(h1, .inl (dA 0, 24, .inl f0)), (h2, .inl (dA 0, 24, .inl (upd (fun _ => 0) 0 p0))), (h0, .inr (5, [.ref h2, .ref h1, .ref h3, .int 0, .int 0, .int 1, .int (-1), .int 0, .int 0, .int 0, .int 0, .int 0]))]) ∨ (¬ p0.toInt < 1 ∧ 8 < p0.toInt ∧ ¬ p0.toInt = 31 ∧ ¬ p0.toInt = 32 ∧ ¬ p0.toInt = 33 ∧ p0.toInt = 34 ∧ v = some (.int 0) ∧ w1 = [(h1, .inl (dA 0, 24, .inl f0)), (h2, .inl (dA 0, 24, .inl (upd (fun _ => 0) 0 p0))), (h0, .inr (5, [.ref h2, .ref h1, .ref h3, .int 0, .int 0, .int 1, .int (-1), .int 0, .int 0, .int 0, .int 0, .int 0]))]) ∨ (¬ p0.toInt < 1 ∧ 8 < p0.toInt ∧ ¬ p0.toInt = 31 ∧ ¬ p0.toInt = 32 ∧ ¬ p0.toInt = 33 ∧ ¬ p0.toInt = 34 ∧ p0.toInt = 35 ∧ v = some (.int 0) ∧ w1 = [(h1, .inl (dA 0, 24, .inl f0)), (h2, .inl (dA 0, 24, .inl (upd (fun _ => 0) 0 p0))), (h0, .inr (5, [.ref h2, .ref h1, .ref h3, .int 0, .int 0, .int 1, .int (-1), .int 0, .int 0, .int 0, .int 0, .int 0]))]) ∨ (¬ p0.toInt < 1 ∧ 8 < p0.toInt ∧ ¬ p0.toInt = 31 ∧ ¬ p0.toInt = 32 ∧ ¬ p0.toInt = 33 ∧ ¬ p0.toInt = 34 ∧ ¬ p0.toInt = 35 ∧ v = some (.int 0) ∧ w1 = [(h1, .inl (dA 0, 24, .inl f0)), (h2, .inl (dA 0, 24, .inl (upd (fun _ => 0) 0 p0))), (h0, .inr (5, [.ref h2, .ref h1, .ref h3, .int 0, .int 0, .int 1, .int (-1), .int 0, .int 0, .int 0, .int 0, .int 0]))]) ∨ (¬ p0.toInt < 1 ∧ ¬ 8 < p0.toInt ∧ v = some (.int p0) ∧ w1 = [(h1, .inl (dA 0, 24, .inl (upd f0 0 p0))), (h2, .inl (dA 0, 24, .inl (upd (fun _ => 0) 0 p0))), (h0, .inr (5, [.ref h2, .ref h1, .ref h3, .int 1, .int p0, .int 1, .int (-1), .int 0, .int 0, .int 0, .int 0, .int 0]))])) 0 0 := by
  refine Ct_of (by decide) (Nat.le_of_ble_eq_true rfl) ?_
  intro p e s m below meth c hx hb hr hml hown hnm hlocks hgw hK A hG hA hP hD ls hl
  have hl : lv_has ls 3 [(0, .ref h0), (1, .int 0)] := hl
  have hS : va_S A s.heap s.heap [] := va_S.rf
  refine lv_aload_n hx hb dX1_takeTincture_0 rfl (lv_at hl 0 rfl) ?_
  refine lv_aload_n hx hb dX1_takeTincture_1 rfl (lv_at hl 0 rfl) ?_
  refine lv_aload_n hx hb dX1_takeTincture_2 rfl (lv_at hl 0 rfl) ?_
  refine va_get (D := D) (ci := 5) (v := .int 0) (C := RX1) (T := TX1) (N := 12) hx hb hgw in_X1 hown hK hP 2 rfl rfl 3 (by decide) (hgw _ m_2_1) (fun _ h9 => h9) rfl dX1_takeTincture_3 ?_
  refine kq_V (q0 := 1) (As := [.int 0]) (rest := [.ref h0]) (wr := [(h1, .inl (dA 0, 24, .inl f0))]) hx hb hml hown hgw hK hG hA hP hD hS (c_X1_wordAt_1 l hfl D dA tE tC h0 h2 p0 h1 h3) m_3_123 m_3_124 m_3_125 m_1_6 m_3_126 hd_X1_wordAt rfl rfl ⟨(Nat.le_of_ble_eq_true rfl), (Nat.le_of_ble_eq_true rfl)⟩ [1, 2] [0] rfl rfl rfl rfl (by decide) rfl rfl rfl hl.1 rfl (Nat.le_of_ble_eq_true rfl) dX1_takeTincture_6 ⟨(Nat.le_of_ble_eq_true rfl), (Nat.le_of_ble_eq_true rfl)⟩ (fun v w1 H locs hQ hP hD hS => ?_)
  obtain ⟨rfl, rfl⟩ := hQ
  refine W.eq (g2 := F0 m 9 ls [.int p0, .ref h0]) rfl ?_
  have hP : va_P D vwCl [(h1, .inl (dA 0, 24, .inl f0)), (h2, .inl (dA 0, 24, .inl (upd (fun _ => 0) 0 p0))), (h0, .inr (5, [.ref h2, .ref h1, .ref h3, .int 0, .int 0, .int 1, .int (-1), .int 0, .int 0, .int 0, .int 0, .int 0]))] H := hP
  have hD : va_D A [(h1, .inl (dA 0, 24, .inl f0)), (h2, .inl (dA 0, 24, .inl (upd (fun _ => 0) 0 p0))), (h0, .inr (5, [.ref h2, .ref h1, .ref h3, .int 0, .int 0, .int 1, .int (-1), .int 0, .int 0, .int 0, .int 0, .int 0]))] := hD
  refine lv_iload_n hx hb dX1_takeTincture_9 rfl (lv_at hl 1 rfl) ?_
  refine kq_V (q0 := 0) (As := [.int p0, .int 0]) (rest := []) (wr := [(h1, .inl (dA 0, 24, .inl f0)), (h2, .inl (dA 0, 24, .inl (upd (fun _ => 0) 0 p0)))]) hx hb hml hown hgw hK hG hA hP hD hS (c_X1_meaningOf_1 l hfl D dA tE tC h0 p0 h2 h1 h3) m_3_135 m_3_137 m_s_4 m_1_6 m_3_138 hd_X1_meaningOf rfl rfl ⟨(Nat.le_of_ble_eq_true rfl), (Nat.le_of_ble_eq_true rfl)⟩ [2] [0, 1] rfl rfl rfl rfl (by decide) rfl rfl rfl hl.1 rfl (Nat.le_of_ble_eq_true rfl) dX1_takeTincture_10 ⟨(Nat.le_of_ble_eq_true rfl), (Nat.le_of_ble_eq_true rfl)⟩ (fun v w1 H locs hQ hP hD hS => ?_)
  rcases hQ with ⟨c_1, rfl, rfl⟩ | ⟨c_2, c_3, c_4, rfl, rfl⟩ | ⟨c_5, c_6, c_7, c_8, rfl, rfl⟩ | ⟨c_9, c_10, c_11, c_12, c_13, rfl, rfl⟩ | ⟨c_14, c_15, c_16, c_17, c_18, c_19, rfl, rfl⟩ | ⟨c_20, c_21, c_22, c_23, c_24, c_25, c_26, rfl, rfl⟩ | ⟨c_27, c_28, c_29, c_30, c_31, c_32, c_33, rfl, rfl⟩ | ⟨c_34, c_35, rfl, rfl⟩
  · skip
    refine W.eq (g2 := F0 m 13 ls [.int 0]) rfl ?_
    have hP : va_P D vwCl [(h1, .inl (dA 0, 24, .inl f0)), (h2, .inl (dA 0, 24, .inl (upd (fun _ => 0) 0 p0))), (h0, .inr (5, [.ref h2, .ref h1, .ref h3, .int 0, .int 0, .int 1, .int (-1), .int 0, .int 0, .int 0, .int 0, .int 0]))] H := hP
    have hD : va_D A [(h1, .inl (dA 0, 24, .inl f0)), (h2, .inl (dA 0, 24, .inl (upd (fun _ => 0) 0 p0))), (h0, .inr (5, [.ref h2, .ref h1, .ref h3, .int 0, .int 0, .int 1, .int (-1), .int 0, .int 0, .int 0, .int 0, .int 0]))] := hD
    refine lv_istore_n (lv' := [(2, .int 0), (0, .ref h0), (1, .int 0)]) hx hb dX1_takeTincture_13 rfl hl (by decide) rfl (fun ls hl => ?_)
    refine lv_iload_n hx hb dX1_takeTincture_14 rfl (lv_at hl 0 rfl) ?_
    refine lv_if_eq (tgt := 34) hx hb dX1_takeTincture_15 (by decide) (fun _ => ?_) (fun h => absurd (by decide +kernel) h)
    refine lv_iconst (v := 0) hx hb dX1_takeTincture_34 (by decide) ?_
    have hP9 := hP.sub (ws' := [(h1, .inl (dA 0, 24, .inl f0)), (h2, .inl (dA 0, 24, .inl (upd (fun _ => 0) 0 p0))), (h0, .inr (5, [.ref h2, .ref h1, .ref h3, .int 0, .int 0, .int 1, .int (-1), .int 0, .int 0, .int 0, .int 0, .int 0]))]) [0, 1, 2] rfl
    have hD9 := hD.sub (ws' := [(h1, .inl (dA 0, 24, .inl f0)), (h2, .inl (dA 0, 24, .inl (upd (fun _ => 0) 0 p0))), (h0, .inr (5, [.ref h2, .ref h1, .ref h3, .int 0, .int 0, .int 1, .int (-1), .int 0, .int 0, .int 0, .int 0, .int 0]))]) [0, 1, 2] (by decide) rfl
    exact (kq_iret (v := 0) hx hb hr hlocks hS rfl (Or.inl ⟨c_1, rfl, rfl⟩) hP9 hD9 (Nat.le_of_ble_eq_true rfl) (Nat.le_of_ble_eq_true rfl) dX1_takeTincture_35)
  · skip
    refine W.eq (g2 := F0 m 13 ls [.int 0]) rfl ?_
    have hP : va_P D vwCl [(h1, .inl (dA 0, 24, .inl f0)), (h2, .inl (dA 0, 24, .inl (upd (fun _ => 0) 0 p0))), (h0, .inr (5, [.ref h2, .ref h1, .ref h3, .int 0, .int 0, .int 1, .int (-1), .int 0, .int 0, .int 0, .int 0, .int 0]))] H := hP
    have hD : va_D A [(h1, .inl (dA 0, 24, .inl f0)), (h2, .inl (dA 0, 24, .inl (upd (fun _ => 0) 0 p0))), (h0, .inr (5, [.ref h2, .ref h1, .ref h3, .int 0, .int 0, .int 1, .int (-1), .int 0, .int 0, .int 0, .int 0, .int 0]))] := hD
    refine lv_istore_n (lv' := [(2, .int 0), (0, .ref h0), (1, .int 0)]) hx hb dX1_takeTincture_13 rfl hl (by decide) rfl (fun ls hl => ?_)
    refine lv_iload_n hx hb dX1_takeTincture_14 rfl (lv_at hl 0 rfl) ?_
    refine lv_if_eq (tgt := 34) hx hb dX1_takeTincture_15 (by decide) (fun _ => ?_) (fun h => absurd (by decide +kernel) h)
    refine lv_iconst (v := 0) hx hb dX1_takeTincture_34 (by decide) ?_
    have hP9 := hP.sub (ws' := [(h1, .inl (dA 0, 24, .inl f0)), (h2, .inl (dA 0, 24, .inl (upd (fun _ => 0) 0 p0))), (h0, .inr (5, [.ref h2, .ref h1, .ref h3, .int 0, .int 0, .int 1, .int (-1), .int 0, .int 0, .int 0, .int 0, .int 0]))]) [0, 1, 2] rfl
    have hD9 := hD.sub (ws' := [(h1, .inl (dA 0, 24, .inl f0)), (h2, .inl (dA 0, 24, .inl (upd (fun _ => 0) 0 p0))), (h0, .inr (5, [.ref h2, .ref h1, .ref h3, .int 0, .int 0, .int 1, .int (-1), .int 0, .int 0, .int 0, .int 0, .int 0]))]) [0, 1, 2] (by decide) rfl
    exact (kq_iret (v := 0) hx hb hr hlocks hS rfl (Or.inr (Or.inl ⟨c_2, c_3, c_4, rfl, rfl⟩)) hP9 hD9 (Nat.le_of_ble_eq_true rfl) (Nat.le_of_ble_eq_true rfl) dX1_takeTincture_35)
  · skip
    refine W.eq (g2 := F0 m 13 ls [.int 0]) rfl ?_
    have hP : va_P D vwCl [(h1, .inl (dA 0, 24, .inl f0)), (h2, .inl (dA 0, 24, .inl (upd (fun _ => 0) 0 p0))), (h0, .inr (5, [.ref h2, .ref h1, .ref h3, .int 0, .int 0, .int 1, .int (-1), .int 0, .int 0, .int 0, .int 0, .int 0]))] H := hP
    have hD : va_D A [(h1, .inl (dA 0, 24, .inl f0)), (h2, .inl (dA 0, 24, .inl (upd (fun _ => 0) 0 p0))), (h0, .inr (5, [.ref h2, .ref h1, .ref h3, .int 0, .int 0, .int 1, .int (-1), .int 0, .int 0, .int 0, .int 0, .int 0]))] := hD
    refine lv_istore_n (lv' := [(2, .int 0), (0, .ref h0), (1, .int 0)]) hx hb dX1_takeTincture_13 rfl hl (by decide) rfl (fun ls hl => ?_)
    refine lv_iload_n hx hb dX1_takeTincture_14 rfl (lv_at hl 0 rfl) ?_
    refine lv_if_eq (tgt := 34) hx hb dX1_takeTincture_15 (by decide) (fun _ => ?_) (fun h => absurd (by decide +kernel) h)
    refine lv_iconst (v := 0) hx hb dX1_takeTincture_34 (by decide) ?_
    have hP9 := hP.sub (ws' := [(h1, .inl (dA 0, 24, .inl f0)), (h2, .inl (dA 0, 24, .inl (upd (fun _ => 0) 0 p0))), (h0, .inr (5, [.ref h2, .ref h1, .ref h3, .int 0, .int 0, .int 1, .int (-1), .int 0, .int 0, .int 0, .int 0, .int 0]))]) [0, 1, 2] rfl
    have hD9 := hD.sub (ws' := [(h1, .inl (dA 0, 24, .inl f0)), (h2, .inl (dA 0, 24, .inl (upd (fun _ => 0) 0 p0))), (h0, .inr (5, [.ref h2, .ref h1, .ref h3, .int 0, .int 0, .int 1, .int (-1), .int 0, .int 0, .int 0, .int 0, .int 0]))]) [0, 1, 2] (by decide) rfl
    exact (kq_iret (v := 0) hx hb hr hlocks hS rfl (Or.inr (Or.inr (Or.inl ⟨c_5, c_6, c_7, c_8, rfl, rfl⟩))) hP9 hD9 (Nat.le_of_ble_eq_true rfl) (Nat.le_of_ble_eq_true rfl) dX1_takeTincture_35)
  · skip
    refine W.eq (g2 := F0 m 13 ls [.int 0]) rfl ?_
    have hP : va_P D vwCl [(h1, .inl (dA 0, 24, .inl f0)), (h2, .inl (dA 0, 24, .inl (upd (fun _ => 0) 0 p0))), (h0, .inr (5, [.ref h2, .ref h1, .ref h3, .int 0, .int 0, .int 1, .int (-1), .int 0, .int 0, .int 0, .int 0, .int 0]))] H := hP
    have hD : va_D A [(h1, .inl (dA 0, 24, .inl f0)), (h2, .inl (dA 0, 24, .inl (upd (fun _ => 0) 0 p0))), (h0, .inr (5, [.ref h2, .ref h1, .ref h3, .int 0, .int 0, .int 1, .int (-1), .int 0, .int 0, .int 0, .int 0, .int 0]))] := hD
    refine lv_istore_n (lv' := [(2, .int 0), (0, .ref h0), (1, .int 0)]) hx hb dX1_takeTincture_13 rfl hl (by decide) rfl (fun ls hl => ?_)
    refine lv_iload_n hx hb dX1_takeTincture_14 rfl (lv_at hl 0 rfl) ?_
    refine lv_if_eq (tgt := 34) hx hb dX1_takeTincture_15 (by decide) (fun _ => ?_) (fun h => absurd (by decide +kernel) h)
    refine lv_iconst (v := 0) hx hb dX1_takeTincture_34 (by decide) ?_
    have hP9 := hP.sub (ws' := [(h1, .inl (dA 0, 24, .inl f0)), (h2, .inl (dA 0, 24, .inl (upd (fun _ => 0) 0 p0))), (h0, .inr (5, [.ref h2, .ref h1, .ref h3, .int 0, .int 0, .int 1, .int (-1), .int 0, .int 0, .int 0, .int 0, .int 0]))]) [0, 1, 2] rfl
    have hD9 := hD.sub (ws' := [(h1, .inl (dA 0, 24, .inl f0)), (h2, .inl (dA 0, 24, .inl (upd (fun _ => 0) 0 p0))), (h0, .inr (5, [.ref h2, .ref h1, .ref h3, .int 0, .int 0, .int 1, .int (-1), .int 0, .int 0, .int 0, .int 0, .int 0]))]) [0, 1, 2] (by decide) rfl
    exact (kq_iret (v := 0) hx hb hr hlocks hS rfl (Or.inr (Or.inr (Or.inr (Or.inl ⟨c_9, c_10, c_11, c_12, c_13, rfl, rfl⟩)))) hP9 hD9 (Nat.le_of_ble_eq_true rfl) (Nat.le_of_ble_eq_true rfl) dX1_takeTincture_35)
  · skip
    refine W.eq (g2 := F0 m 13 ls [.int 0]) rfl ?_
    have hP : va_P D vwCl [(h1, .inl (dA 0, 24, .inl f0)), (h2, .inl (dA 0, 24, .inl (upd (fun _ => 0) 0 p0))), (h0, .inr (5, [.ref h2, .ref h1, .ref h3, .int 0, .int 0, .int 1, .int (-1), .int 0, .int 0, .int 0, .int 0, .int 0]))] H := hP
    have hD : va_D A [(h1, .inl (dA 0, 24, .inl f0)), (h2, .inl (dA 0, 24, .inl (upd (fun _ => 0) 0 p0))), (h0, .inr (5, [.ref h2, .ref h1, .ref h3, .int 0, .int 0, .int 1, .int (-1), .int 0, .int 0, .int 0, .int 0, .int 0]))] := hD
    refine lv_istore_n (lv' := [(2, .int 0), (0, .ref h0), (1, .int 0)]) hx hb dX1_takeTincture_13 rfl hl (by decide) rfl (fun ls hl => ?_)
    refine lv_iload_n hx hb dX1_takeTincture_14 rfl (lv_at hl 0 rfl) ?_
    refine lv_if_eq (tgt := 34) hx hb dX1_takeTincture_15 (by decide) (fun _ => ?_) (fun h => absurd (by decide +kernel) h)
    refine lv_iconst (v := 0) hx hb dX1_takeTincture_34 (by decide) ?_
    have hP9 := hP.sub (ws' := [(h1, .inl (dA 0, 24, .inl f0)), (h2, .inl (dA 0, 24, .inl (upd (fun _ => 0) 0 p0))), (h0, .inr (5, [.ref h2, .ref h1, .ref h3, .int 0, .int 0, .int 1, .int (-1), .int 0, .int 0, .int 0, .int 0, .int 0]))]) [0, 1, 2] rfl
    have hD9 := hD.sub (ws' := [(h1, .inl (dA 0, 24, .inl f0)), (h2, .inl (dA 0, 24, .inl (upd (fun _ => 0) 0 p0))), (h0, .inr (5, [.ref h2, .ref h1, .ref h3, .int 0, .int 0, .int 1, .int (-1), .int 0, .int 0, .int 0, .int 0, .int 0]))]) [0, 1, 2] (by decide) rfl
    exact (kq_iret (v := 0) hx hb hr hlocks hS rfl (Or.inr (Or.inr (Or.inr (Or.inr (Or.inl ⟨c_14, c_15, c_16, c_17, c_18, c_19, rfl, rfl⟩))))) hP9 hD9 (Nat.le_of_ble_eq_true rfl) (Nat.le_of_ble_eq_true rfl) dX1_takeTincture_35)
  · skip
    refine W.eq (g2 := F0 m 13 ls [.int 0]) rfl ?_
    have hP : va_P D vwCl [(h1, .inl (dA 0, 24, .inl f0)), (h2, .inl (dA 0, 24, .inl (upd (fun _ => 0) 0 p0))), (h0, .inr (5, [.ref h2, .ref h1, .ref h3, .int 0, .int 0, .int 1, .int (-1), .int 0, .int 0, .int 0, .int 0, .int 0]))] H := hP
    have hD : va_D A [(h1, .inl (dA 0, 24, .inl f0)), (h2, .inl (dA 0, 24, .inl (upd (fun _ => 0) 0 p0))), (h0, .inr (5, [.ref h2, .ref h1, .ref h3, .int 0, .int 0, .int 1, .int (-1), .int 0, .int 0, .int 0, .int 0, .int 0]))] := hD
    refine lv_istore_n (lv' := [(2, .int 0), (0, .ref h0), (1, .int 0)]) hx hb dX1_takeTincture_13 rfl hl (by decide) rfl (fun ls hl => ?_)
    refine lv_iload_n hx hb dX1_takeTincture_14 rfl (lv_at hl 0 rfl) ?_
    refine lv_if_eq (tgt := 34) hx hb dX1_takeTincture_15 (by decide) (fun _ => ?_) (fun h => absurd (by decide +kernel) h)
    refine lv_iconst (v := 0) hx hb dX1_takeTincture_34 (by decide) ?_
    have hP9 := hP.sub (ws' := [(h1, .inl (dA 0, 24, .inl f0)), (h2, .inl (dA 0, 24, .inl (upd (fun _ => 0) 0 p0))), (h0, .inr (5, [.ref h2, .ref h1, .ref h3, .int 0, .int 0, .int 1, .int (-1), .int 0, .int 0, .int 0, .int 0, .int 0]))]) [0, 1, 2] rfl
    have hD9 := hD.sub (ws' := [(h1, .inl (dA 0, 24, .inl f0)), (h2, .inl (dA 0, 24, .inl (upd (fun _ => 0) 0 p0))), (h0, .inr (5, [.ref h2, .ref h1, .ref h3, .int 0, .int 0, .int 1, .int (-1), .int 0, .int 0, .int 0, .int 0, .int 0]))]) [0, 1, 2] (by decide) rfl
    exact (kq_iret (v := 0) hx hb hr hlocks hS rfl (Or.inr (Or.inr (Or.inr (Or.inr (Or.inr (Or.inl ⟨c_20, c_21, c_22, c_23, c_24, c_25, c_26, rfl, rfl⟩)))))) hP9 hD9 (Nat.le_of_ble_eq_true rfl) (Nat.le_of_ble_eq_true rfl) dX1_takeTincture_35)
  · skip
    refine W.eq (g2 := F0 m 13 ls [.int 0]) rfl ?_
    have hP : va_P D vwCl [(h1, .inl (dA 0, 24, .inl f0)), (h2, .inl (dA 0, 24, .inl (upd (fun _ => 0) 0 p0))), (h0, .inr (5, [.ref h2, .ref h1, .ref h3, .int 0, .int 0, .int 1, .int (-1), .int 0, .int 0, .int 0, .int 0, .int 0]))] H := hP
    have hD : va_D A [(h1, .inl (dA 0, 24, .inl f0)), (h2, .inl (dA 0, 24, .inl (upd (fun _ => 0) 0 p0))), (h0, .inr (5, [.ref h2, .ref h1, .ref h3, .int 0, .int 0, .int 1, .int (-1), .int 0, .int 0, .int 0, .int 0, .int 0]))] := hD
    refine lv_istore_n (lv' := [(2, .int 0), (0, .ref h0), (1, .int 0)]) hx hb dX1_takeTincture_13 rfl hl (by decide) rfl (fun ls hl => ?_)
    refine lv_iload_n hx hb dX1_takeTincture_14 rfl (lv_at hl 0 rfl) ?_
    refine lv_if_eq (tgt := 34) hx hb dX1_takeTincture_15 (by decide) (fun _ => ?_) (fun h => absurd (by decide +kernel) h)
    refine lv_iconst (v := 0) hx hb dX1_takeTincture_34 (by decide) ?_
    have hP9 := hP.sub (ws' := [(h1, .inl (dA 0, 24, .inl f0)), (h2, .inl (dA 0, 24, .inl (upd (fun _ => 0) 0 p0))), (h0, .inr (5, [.ref h2, .ref h1, .ref h3, .int 0, .int 0, .int 1, .int (-1), .int 0, .int 0, .int 0, .int 0, .int 0]))]) [0, 1, 2] rfl
    have hD9 := hD.sub (ws' := [(h1, .inl (dA 0, 24, .inl f0)), (h2, .inl (dA 0, 24, .inl (upd (fun _ => 0) 0 p0))), (h0, .inr (5, [.ref h2, .ref h1, .ref h3, .int 0, .int 0, .int 1, .int (-1), .int 0, .int 0, .int 0, .int 0, .int 0]))]) [0, 1, 2] (by decide) rfl
    exact (kq_iret (v := 0) hx hb hr hlocks hS rfl (Or.inr (Or.inr (Or.inr (Or.inr (Or.inr (Or.inr (Or.inl ⟨c_27, c_28, c_29, c_30, c_31, c_32, c_33, rfl, rfl⟩))))))) hP9 hD9 (Nat.le_of_ble_eq_true rfl) (Nat.le_of_ble_eq_true rfl) dX1_takeTincture_35)
  · skip
    refine W.eq (g2 := F0 m 13 ls [.int p0]) rfl ?_
    have hP : va_P D vwCl [(h1, .inl (dA 0, 24, .inl f0)), (h2, .inl (dA 0, 24, .inl (upd (fun _ => 0) 0 p0))), (h0, .inr (5, [.ref h2, .ref h1, .ref h3, .int 0, .int 0, .int 1, .int (-1), .int 0, .int 0, .int 0, .int 0, .int 0]))] H := hP
    have hD : va_D A [(h1, .inl (dA 0, 24, .inl f0)), (h2, .inl (dA 0, 24, .inl (upd (fun _ => 0) 0 p0))), (h0, .inr (5, [.ref h2, .ref h1, .ref h3, .int 0, .int 0, .int 1, .int (-1), .int 0, .int 0, .int 0, .int 0, .int 0]))] := hD
    refine lv_istore_n (lv' := [(2, .int p0), (0, .ref h0), (1, .int 0)]) hx hb dX1_takeTincture_13 rfl hl (by decide) rfl (fun ls hl => ?_)
    refine lv_iload_n hx hb dX1_takeTincture_14 rfl (lv_at hl 0 rfl) ?_
    refine lv_if_eq (tgt := 34) hx hb dX1_takeTincture_15 (by decide) (fun h => absurd h (mt (kq_eq (x := p0) (y := 0) (a := p0.toInt) (b := 0) (by rfl) (by decide +kernel)).mp (by omega))) (fun _ => ?_)
    refine lv_aload_n hx hb dX1_takeTincture_18 rfl (lv_at hl 1 rfl) ?_
    refine va_get (D := D) (ci := 5) (v := .int 0) (C := RX1) (T := TX1) (N := 12) hx hb hgw in_X1 hown hK hP 2 rfl rfl 3 (by decide) (hgw _ m_2_1) (fun _ h9 => h9) rfl dX1_takeTincture_19 ?_
    refine lv_if_lt (tgt := 34) hx hb dX1_takeTincture_22 (by decide) (fun h => absurd h (by decide +kernel)) (fun _ => ?_)
    refine lv_aload_n hx hb dX1_takeTincture_25 rfl (lv_at hl 1 rfl) ?_
    refine va_get (D := D) (ci := 5) (v := .int 0) (C := RX1) (T := TX1) (N := 12) hx hb hgw in_X1 hown hK hP 2 rfl rfl 3 (by decide) (hgw _ m_2_1) (fun _ h9 => h9) rfl dX1_takeTincture_26 ?_
    refine lv_bipush (v := 24) hx hb dX1_takeTincture_29 (by decide +kernel) ?_
    refine lv_icmp_lt (tgt := 36) hx hb dX1_takeTincture_31 (by decide) (fun _ => ?_) (fun h => absurd (by decide +kernel) h)
    refine lv_aload_n hx hb dX1_takeTincture_36 rfl (lv_at hl 1 rfl) ?_
    refine va_get (D := D) (ci := 5) (v := .ref h1) (C := RX1) (T := TX1) (N := 12) hx hb hgw in_X1 hown hK hP 2 rfl rfl 1 (by decide) (hgw _ m_1_239) (fun _ h9 => h9) rfl dX1_takeTincture_37 ?_
    refine lv_aload_n hx hb dX1_takeTincture_40 rfl (lv_at hl 1 rfl) ?_
    refine va_get (D := D) (ci := 5) (v := .int 0) (C := RX1) (T := TX1) (N := 12) hx hb hgw in_X1 hown hK hP 2 rfl rfl 3 (by decide) (hgw _ m_2_1) (fun _ h9 => h9) rfl dX1_takeTincture_41 ?_
    refine lv_iload_n hx hb dX1_takeTincture_44 rfl (lv_at hl 0 rfl) ?_
    refine kq_iast (k := 0) hx hb hK hP hD hS 0 0 rfl rfl (kq_in (by decide +kernel)) (by decide +kernel) dX1_takeTincture_45 (fun H locs hP hD hS => ?_)
    have hP : va_P D vwCl [(h1, .inl (dA 0, 24, .inl (upd f0 0 p0))), (h2, .inl (dA 0, 24, .inl (upd (fun _ => 0) 0 p0))), (h0, .inr (5, [.ref h2, .ref h1, .ref h3, .int 0, .int 0, .int 1, .int (-1), .int 0, .int 0, .int 0, .int 0, .int 0]))] H := hP
    have hD : va_D A [(h1, .inl (dA 0, 24, .inl (upd f0 0 p0))), (h2, .inl (dA 0, 24, .inl (upd (fun _ => 0) 0 p0))), (h0, .inr (5, [.ref h2, .ref h1, .ref h3, .int 0, .int 0, .int 1, .int (-1), .int 0, .int 0, .int 0, .int 0, .int 0]))] := hD
    refine lv_aload_n hx hb dX1_takeTincture_46 rfl (lv_at hl 1 rfl) ?_
    refine lv_iload_n hx hb dX1_takeTincture_47 rfl (lv_at hl 0 rfl) ?_
    refine va_put (D := D) (ci := 5) (v := .int p0) (ty := .int) (C := RX1) (T := TX1) (N := 12) hx hb hgw in_X1 tyX1 tyX1_ok nmX1 hown hK hP hD hS 2 rfl rfl 4 (by decide) (hgw _ m_2_2) (fun _ h9 => h9) rfl (by decide +kernel) rfl rfl (Nat.le_of_ble_eq_true rfl) dX1_takeTincture_48 (fun H locs hP hD hS => ?_)
    have hP : va_P D vwCl [(h1, .inl (dA 0, 24, .inl (upd f0 0 p0))), (h2, .inl (dA 0, 24, .inl (upd (fun _ => 0) 0 p0))), (h0, .inr (5, [.ref h2, .ref h1, .ref h3, .int 0, .int p0, .int 1, .int (-1), .int 0, .int 0, .int 0, .int 0, .int 0]))] H := hP
    have hD : va_D A [(h1, .inl (dA 0, 24, .inl (upd f0 0 p0))), (h2, .inl (dA 0, 24, .inl (upd (fun _ => 0) 0 p0))), (h0, .inr (5, [.ref h2, .ref h1, .ref h3, .int 0, .int p0, .int 1, .int (-1), .int 0, .int 0, .int 0, .int 0, .int 0]))] := hD
    refine lv_aload_n hx hb dX1_takeTincture_51 rfl (lv_at hl 1 rfl) ?_
    refine lv_dup hx hb dX1_takeTincture_52 rfl ?_
    refine va_get (D := D) (ci := 5) (v := .int 0) (C := RX1) (T := TX1) (N := 12) hx hb hgw in_X1 hown hK hP 2 rfl rfl 3 (by decide) (hgw _ m_2_1) (fun _ h9 => h9) rfl dX1_takeTincture_53 ?_
    refine lv_iconst (v := 1) hx hb dX1_takeTincture_56 (by decide) ?_
    refine lv_iadd hx hb dX1_takeTincture_57 ?_
    refine kq_topi (y := 1) (by decide +kernel) ?_
    refine va_put (D := D) (ci := 5) (v := .int 1) (ty := .int) (C := RX1) (T := TX1) (N := 12) hx hb hgw in_X1 tyX1 tyX1_ok nmX1 hown hK hP hD hS 2 rfl rfl 3 (by decide) (hgw _ m_2_1) (fun _ h9 => h9) rfl (by decide +kernel) rfl rfl (Nat.le_of_ble_eq_true rfl) dX1_takeTincture_58 (fun H locs hP hD hS => ?_)
    have hP : va_P D vwCl [(h1, .inl (dA 0, 24, .inl (upd f0 0 p0))), (h2, .inl (dA 0, 24, .inl (upd (fun _ => 0) 0 p0))), (h0, .inr (5, [.ref h2, .ref h1, .ref h3, .int 1, .int p0, .int 1, .int (-1), .int 0, .int 0, .int 0, .int 0, .int 0]))] H := hP
    have hD : va_D A [(h1, .inl (dA 0, 24, .inl (upd f0 0 p0))), (h2, .inl (dA 0, 24, .inl (upd (fun _ => 0) 0 p0))), (h0, .inr (5, [.ref h2, .ref h1, .ref h3, .int 1, .int p0, .int 1, .int (-1), .int 0, .int 0, .int 0, .int 0, .int 0]))] := hD
    refine lv_iload_n hx hb dX1_takeTincture_61 rfl (lv_at hl 0 rfl) ?_
    have hP9 := hP.sub (ws' := [(h1, .inl (dA 0, 24, .inl (upd f0 0 p0))), (h2, .inl (dA 0, 24, .inl (upd (fun _ => 0) 0 p0))), (h0, .inr (5, [.ref h2, .ref h1, .ref h3, .int 1, .int p0, .int 1, .int (-1), .int 0, .int 0, .int 0, .int 0, .int 0]))]) [0, 1, 2] rfl
    have hD9 := hD.sub (ws' := [(h1, .inl (dA 0, 24, .inl (upd f0 0 p0))), (h2, .inl (dA 0, 24, .inl (upd (fun _ => 0) 0 p0))), (h0, .inr (5, [.ref h2, .ref h1, .ref h3, .int 1, .int p0, .int 1, .int (-1), .int 0, .int 0, .int 0, .int 0, .int 0]))]) [0, 1, 2] (by decide) rfl
    exact (kq_iret (v := p0) hx hb hr hlocks hS rfl (Or.inr (Or.inr (Or.inr (Or.inr (Or.inr (Or.inr (Or.inr (⟨c_34, c_35, rfl, rfl⟩)))))))) hP9 hD9 (Nat.le_of_ble_eq_true rfl) (Nat.le_of_ble_eq_true rfl) dX1_takeTincture_62)
set_option maxHeartbeats 4000000 in
set_option maxRecDepth 100000 in
theorem c_X1_wordAt_2 (l : Launch) (hfl : l.stackTraces = false) (D : va_G) (dA : Nat → ClassId) (tE tC : Nat) (h0 : Nat) (h1 : Nat) (h2 : Nat) (h3 : Nat) (p0 : Int32) : Ct l D dA tE tC yX1_wordAt (Cond.code yX1_wordAt cX1_wordAt 2 (some .int) :: gW) ({ frames := 0, cells := 0, slots := 0, locals := 0 } : Room) [.ref h0, .int 1] [(h0, .inr (5, [.ref h1, .ref h2, .ref h3, .int 1, .int 0, .int 1, .int (-1), .int p0, .int 0, .int 0, .int 0, .int 0]))] (fun v w1 => (v = some (.int 0) ∧ w1 = [(h0, .inr (5, [.ref h1, .ref h2, .ref h3, .int 1, .int 0, .int 1, .int (-1), .int p0, .int 0, .int 0, .int 0, .int 0]))])) 0 0 := by
  refine Ct_of (by decide) (Nat.le_of_ble_eq_true rfl) ?_
  intro p e s m below meth c hx hb hr hml hown hnm hlocks hgw hK A hG hA hP hD ls hl
  have hl : lv_has ls 2 [(0, .ref h0), (1, .int 1)] := hl
  have hS : va_S A s.heap s.heap [] := va_S.rf
  refine lv_iload_n hx hb dX1_wordAt_0 rfl (lv_at hl 1 rfl) ?_
  refine lv_if_lt (tgt := 27) hx hb dX1_wordAt_1 (by decide) (fun h => absurd h (by decide +kernel)) (fun _ => ?_)
  refine lv_iload_n hx hb dX1_wordAt_4 rfl (lv_at hl 1 rfl) ?_
  refine lv_aload_n hx hb dX1_wordAt_5 rfl (lv_at hl 0 rfl) ?_
  refine va_get (D := D) (ci := 5) (v := .int 1) (C := RX1) (T := TX1) (N := 12) hx hb hgw in_X1 hown hK hP 0 rfl rfl 5 (by decide) (hgw _ m_2_5) (fun _ h9 => h9) rfl dX1_wordAt_6 ?_
  refine lv_icmp_ge (tgt := 27) hx hb dX1_wordAt_9 (by decide) (fun _ => ?_) (fun h => absurd (by decide +kernel) h)
  refine lv_iconst (v := 0) hx hb dX1_wordAt_27 (by decide) ?_
  have hP9 := hP.sub (ws' := [(h0, .inr (5, [.ref h1, .ref h2, .ref h3, .int 1, .int 0, .int 1, .int (-1), .int p0, .int 0, .int 0, .int 0, .int 0]))]) [0] rfl
  have hD9 := hD.sub (ws' := [(h0, .inr (5, [.ref h1, .ref h2, .ref h3, .int 1, .int 0, .int 1, .int (-1), .int p0, .int 0, .int 0, .int 0, .int 0]))]) [0] (by decide) rfl
  exact (kq_iret (v := 0) hx hb hr hlocks hS rfl ⟨rfl, rfl⟩ hP9 hD9 (Nat.le_of_ble_eq_true rfl) (Nat.le_of_ble_eq_true rfl) dX1_wordAt_28)
set_option maxHeartbeats 4000000 in
set_option maxRecDepth 100000 in
theorem c_X1_meaningOf_2 (l : Launch) (hfl : l.stackTraces = false) (D : va_G) (dA : Nat → ClassId) (tE tC : Nat) (h0 : Nat) (h1 : Nat) (h2 : Nat) (h3 : Nat) (p0 : Int32) : Ct l D dA tE tC yX1_meaningOf (Cond.code yX1_meaningOf cX1_meaningOf 3 (some .int) :: gW) ({ frames := 0, cells := 0, slots := 0, locals := 0 } : Room) [.ref h0, .int 0, .int 0] [(h0, .inr (5, [.ref h1, .ref h2, .ref h3, .int 1, .int 0, .int 1, .int (-1), .int p0, .int 0, .int 0, .int 0, .int 0]))] (fun v w1 => (v = some (.int 0) ∧ w1 = [(h0, .inr (5, [.ref h1, .ref h2, .ref h3, .int 1, .int 0, .int 1, .int (-1), .int p0, .int 0, .int 0, .int 0, .int 0]))])) 0 0 := by
  refine Ct_of (by decide) (Nat.le_of_ble_eq_true rfl) ?_
  intro p e s m below meth c hx hb hr hml hown hnm hlocks hgw hK A hG hA hP hD ls hl
  have hl : lv_has ls 3 [(0, .ref h0), (1, .int 0), (2, .int 0)] := hl
  have hS : va_S A s.heap s.heap [] := va_S.rf
  refine lv_iload_n hx hb dX1_meaningOf_0 rfl (lv_at hl 1 rfl) ?_
  refine lv_iconst (v := 1) hx hb dX1_meaningOf_1 (by decide) ?_
  refine lv_icmp_lt (tgt := 13) hx hb dX1_meaningOf_2 (by decide) (fun _ => ?_) (fun h => absurd (by decide +kernel) h)
  refine lv_iload_n hx hb dX1_meaningOf_13 rfl (lv_at hl 1 rfl) ?_
  refine lv_tableOut (tgt := 101) hx hb dX1_meaningOf_14 (by decide +kernel) (by decide) ?_
  refine lv_iconst (v := 0) hx hb dX1_meaningOf_101 (by decide) ?_
  have hP9 := hP.sub (ws' := [(h0, .inr (5, [.ref h1, .ref h2, .ref h3, .int 1, .int 0, .int 1, .int (-1), .int p0, .int 0, .int 0, .int 0, .int 0]))]) [0] rfl
  have hD9 := hD.sub (ws' := [(h0, .inr (5, [.ref h1, .ref h2, .ref h3, .int 1, .int 0, .int 1, .int (-1), .int p0, .int 0, .int 0, .int 0, .int 0]))]) [0] (by decide) rfl
  exact (kq_iret (v := 0) hx hb hr hlocks hS rfl ⟨rfl, rfl⟩ hP9 hD9 (Nat.le_of_ble_eq_true rfl) (Nat.le_of_ble_eq_true rfl) dX1_meaningOf_102)
set_option maxHeartbeats 4000000 in
set_option maxRecDepth 100000 in
theorem c_X1_takeTincture_2 (l : Launch) (hfl : l.stackTraces = false) (D : va_G) (dA : Nat → ClassId) (tE tC : Nat) (h0 : Nat) (h1 : Nat) (h2 : Nat) (h3 : Nat) (p0 : Int32) : Ct l D dA tE tC yX1_takeTincture (Cond.code yX1_takeTincture cX1_takeTincture 3 (some .int) :: gW) ({ frames := 1, cells := 0, slots := 0, locals := 22 } : Room) [.ref h0, .int 0] [(h0, .inr (5, [.ref h1, .ref h2, .ref h3, .int 1, .int 0, .int 1, .int (-1), .int p0, .int 0, .int 0, .int 0, .int 0]))] (fun v w1 => (v = some (.int 0) ∧ w1 = [(h0, .inr (5, [.ref h1, .ref h2, .ref h3, .int 1, .int 0, .int 1, .int (-1), .int p0, .int 0, .int 0, .int 0, .int 0]))])) 0 0 := by
  refine Ct_of (by decide) (Nat.le_of_ble_eq_true rfl) ?_
  intro p e s m below meth c hx hb hr hml hown hnm hlocks hgw hK A hG hA hP hD ls hl
  have hl : lv_has ls 3 [(0, .ref h0), (1, .int 0)] := hl
  have hS : va_S A s.heap s.heap [] := va_S.rf
  refine lv_aload_n hx hb dX1_takeTincture_0 rfl (lv_at hl 0 rfl) ?_
  refine lv_aload_n hx hb dX1_takeTincture_1 rfl (lv_at hl 0 rfl) ?_
  refine lv_aload_n hx hb dX1_takeTincture_2 rfl (lv_at hl 0 rfl) ?_
  refine va_get (D := D) (ci := 5) (v := .int 1) (C := RX1) (T := TX1) (N := 12) hx hb hgw in_X1 hown hK hP 0 rfl rfl 3 (by decide) (hgw _ m_2_1) (fun _ h9 => h9) rfl dX1_takeTincture_3 ?_
  refine kq_V (q0 := 0) (As := [.int 1]) (rest := [.ref h0]) (wr := []) hx hb hml hown hgw hK hG hA hP hD hS (c_X1_wordAt_2 l hfl D dA tE tC h0 h1 h2 h3 p0) m_3_123 m_3_124 m_3_125 m_1_6 m_3_126 hd_X1_wordAt rfl rfl ⟨(Nat.le_of_ble_eq_true rfl), (Nat.le_of_ble_eq_true rfl)⟩ [0] [] rfl rfl rfl rfl (by decide) rfl rfl rfl hl.1 rfl (Nat.le_of_ble_eq_true rfl) dX1_takeTincture_6 ⟨(Nat.le_of_ble_eq_true rfl), (Nat.le_of_ble_eq_true rfl)⟩ (fun v w1 H locs hQ hP hD hS => ?_)
  obtain ⟨rfl, rfl⟩ := hQ
  refine W.eq (g2 := F0 m 9 ls [.int 0, .ref h0]) rfl ?_
  have hP : va_P D vwCl [(h0, .inr (5, [.ref h1, .ref h2, .ref h3, .int 1, .int 0, .int 1, .int (-1), .int p0, .int 0, .int 0, .int 0, .int 0]))] H := hP
  have hD : va_D A [(h0, .inr (5, [.ref h1, .ref h2, .ref h3, .int 1, .int 0, .int 1, .int (-1), .int p0, .int 0, .int 0, .int 0, .int 0]))] := hD
  refine lv_iload_n hx hb dX1_takeTincture_9 rfl (lv_at hl 1 rfl) ?_
  refine kq_V (q0 := 0) (As := [.int 0, .int 0]) (rest := []) (wr := []) hx hb hml hown hgw hK hG hA hP hD hS (c_X1_meaningOf_2 l hfl D dA tE tC h0 h1 h2 h3 p0) m_3_135 m_3_137 m_s_4 m_1_6 m_3_138 hd_X1_meaningOf rfl rfl ⟨(Nat.le_of_ble_eq_true rfl), (Nat.le_of_ble_eq_true rfl)⟩ [0] [] rfl rfl rfl rfl (by decide) rfl rfl rfl hl.1 rfl (Nat.le_of_ble_eq_true rfl) dX1_takeTincture_10 ⟨(Nat.le_of_ble_eq_true rfl), (Nat.le_of_ble_eq_true rfl)⟩ (fun v w1 H locs hQ hP hD hS => ?_)
  obtain ⟨rfl, rfl⟩ := hQ
  refine W.eq (g2 := F0 m 13 ls [.int 0]) rfl ?_
  have hP : va_P D vwCl [(h0, .inr (5, [.ref h1, .ref h2, .ref h3, .int 1, .int 0, .int 1, .int (-1), .int p0, .int 0, .int 0, .int 0, .int 0]))] H := hP
  have hD : va_D A [(h0, .inr (5, [.ref h1, .ref h2, .ref h3, .int 1, .int 0, .int 1, .int (-1), .int p0, .int 0, .int 0, .int 0, .int 0]))] := hD
  refine lv_istore_n (lv' := [(2, .int 0), (0, .ref h0), (1, .int 0)]) hx hb dX1_takeTincture_13 rfl hl (by decide) rfl (fun ls hl => ?_)
  refine lv_iload_n hx hb dX1_takeTincture_14 rfl (lv_at hl 0 rfl) ?_
  refine lv_if_eq (tgt := 34) hx hb dX1_takeTincture_15 (by decide) (fun _ => ?_) (fun h => absurd (by decide +kernel) h)
  refine lv_iconst (v := 0) hx hb dX1_takeTincture_34 (by decide) ?_
  have hP9 := hP.sub (ws' := [(h0, .inr (5, [.ref h1, .ref h2, .ref h3, .int 1, .int 0, .int 1, .int (-1), .int p0, .int 0, .int 0, .int 0, .int 0]))]) [0] rfl
  have hD9 := hD.sub (ws' := [(h0, .inr (5, [.ref h1, .ref h2, .ref h3, .int 1, .int 0, .int 1, .int (-1), .int p0, .int 0, .int 0, .int 0, .int 0]))]) [0] (by decide) rfl
  exact (kq_iret (v := 0) hx hb hr hlocks hS rfl ⟨rfl, rfl⟩ hP9 hD9 (Nat.le_of_ble_eq_true rfl) (Nat.le_of_ble_eq_true rfl) dX1_takeTincture_35)
