set_option maxHeartbeats 4000000 in
set_option maxRecDepth 100000 in
theorem c_X3_init_1 (l : Launch) (hfl : l.stackTraces = false) (D : va_G) (dA : Nat → ClassId) (tE tC : Nat) (h0 : Nat) : Ct l D dA tE tC yX3_init (Cond.code yX3_init cX3_init 1 none :: gW) ({ frames := 1, cells := 0, slots := 0, locals := 12 } : Room) [.ref h0] [(h0, .inr (7, [.int 0, .int 0, .int 0, .int 0, .int 0, .int 0, .int 0, .int 0, .int 0, .int 0, .int 0, .int 0, .int 0]))] (fun v w1 => (v = none ∧ w1 = [(h0, .inr (7, [.int 0, .int 0, .int 0, .int 0, .int 0, .int 0, .int 0, .int 0, .int 0, .int 0, .int 0, .int 0, .int 0]))])) 0 0 := by
  refine Ct_of (by decide) (Nat.le_of_ble_eq_true rfl) ?_
  intro p e s m below meth c hx hb hr hml hown hnm hlocks hgw hK A hG hA hP hD ls hl
  have hl : lv_has ls 1 [(0, .ref h0)] := hl
  have hS : va_S A s.heap s.heap [] := va_S.rf
  refine lv_aload_n hx hb dX3_init_0 rfl (lv_at hl 0 rfl) ?_
  refine W.objInit hx hb hown (hgw _ m_1_64) (hgw _ m_1_49) (hgw _ m_1_50) rfl (hl.1.trans hml.symm) rfl dX3_init_1 (Nat.le_of_ble_eq_true rfl) (Nat.le_of_ble_eq_true rfl) ?_
  refine W.eq (g2 := F0 m 4 ls []) rfl ?_
  have hP9 := hP.sub (ws' := [(h0, .inr (7, [.int 0, .int 0, .int 0, .int 0, .int 0, .int 0, .int 0, .int 0, .int 0, .int 0, .int 0, .int 0, .int 0]))]) [0] rfl
  have hD9 := hD.sub (ws' := [(h0, .inr (7, [.int 0, .int 0, .int 0, .int 0, .int 0, .int 0, .int 0, .int 0, .int 0, .int 0, .int 0, .int 0, .int 0]))]) [0] (by decide) rfl
  exact (kq_vret hx hb hr hlocks hS ⟨rfl, rfl⟩ hP9 hD9 (Nat.le_of_ble_eq_true rfl) (Nat.le_of_ble_eq_true rfl) dX3_init_4)
set_option maxHeartbeats 4000000 in
set_option maxRecDepth 100000 in
theorem c_X8_init_1 (l : Launch) (hfl : l.stackTraces = false) (D : va_G) (dA : Nat → ClassId) (tE tC : Nat) (h0 : Nat) : Ct l D dA tE tC yX8_init (Cond.code yX8_init cX8_init 1 none :: gW) ({ frames := 1, cells := 3, slots := 48, locals := 12 } : Room) [.ref h0] [(h0, .inr (12, [.null, .null, .null, .int 0, .int 0]))] (fun v w1 => (∃ (q1 : Nat), ∃ (q2 : Nat), ∃ (q3 : Nat), v = none ∧ w1 = [(h0, .inr (12, [.ref q1, .ref q2, .ref q3, .int 0, .int 0]))])) 3 48 := by
  refine Ct_of (by decide) (Nat.le_of_ble_eq_true rfl) ?_
  intro p e s m below meth c hx hb hr hml hown hnm hlocks hgw hK A hG hA hP hD ls hl
  have hl : lv_has ls 1 [(0, .ref h0)] := hl
  have hS : va_S A s.heap s.heap [] := va_S.rf
  refine lv_aload_n hx hb dX8_init_0 rfl (lv_at hl 0 rfl) ?_
  refine W.objInit hx hb hown (hgw _ m_1_142) (hgw _ m_1_49) (hgw _ m_1_50) rfl (hl.1.trans hml.symm) rfl dX8_init_1 (Nat.le_of_ble_eq_true rfl) (Nat.le_of_ble_eq_true rfl) ?_
  refine W.eq (g2 := F0 m 4 ls []) rfl ?_
  refine lv_aload_n hx hb dX8_init_4 rfl (lv_at hl 0 rfl) ?_
  refine lv_bipush (v := 16) hx hb dX8_init_5 (by decide +kernel) ?_
  refine kq_newa hx hb 3 rfl rfl hgw m_1_163 hK hP hD hS hA (N' := 16) (a0 := (16, .inr (.inl (fun _ => 0)))) (fun _ => rfl) (by decide +kernel) (by decide +kernel) (Nat.le_of_ble_eq_true rfl) (Nat.le_of_ble_eq_true rfl) (Nat.le_of_ble_eq_true rfl) dX8_init_7 (fun q1 H hP hD hS => ?_)
  have hP : va_P D vwCl [(h0, .inr (12, [.null, .null, .null, .int 0, .int 0])), (q1, .inl (dA 3, 16, .inr (.inl (fun _ => 0))))] H := hP
  have hD : va_D A [(h0, .inr (12, [.null, .null, .null, .int 0, .int 0])), (q1, .inl (dA 3, 16, .inr (.inl (fun _ => 0))))] := hD
  refine va_putF (D := D) (ci := 12) (v := .ref q1) (ty := .array .long) (C := RX8) (T := TX8) (N := 5) hx hb hgw in_X8 tyX8 tyX8_ok nmX8 hown hK hP hD hS 0 rfl rfl 0 (by decide) (hgw _ m_1_143) (fun _ h9 => h9) rfl hnm rfl (by decide +kernel) rfl rfl (Nat.le_of_ble_eq_true rfl) dX8_init_9 (fun H locs hP hD hS => ?_)
  have hP : va_P D vwCl [(h0, .inr (12, [.ref q1, .null, .null, .int 0, .int 0])), (q1, .inl (dA 3, 16, .inr (.inl (fun _ => 0))))] H := hP
  have hD : va_D A [(h0, .inr (12, [.ref q1, .null, .null, .int 0, .int 0])), (q1, .inl (dA 3, 16, .inr (.inl (fun _ => 0))))] := hD
  refine lv_aload_n hx hb dX8_init_12 rfl (lv_at hl 0 rfl) ?_
  refine lv_bipush (v := 16) hx hb dX8_init_13 (by decide +kernel) ?_
  refine kq_newa hx hb 0 rfl rfl hgw m_1_136 hK hP hD hS hA (N' := 16) (a0 := (16, .inl (fun _ => 0))) (fun _ => rfl) (by decide +kernel) (by decide +kernel) (Nat.le_of_ble_eq_true rfl) (Nat.le_of_ble_eq_true rfl) (Nat.le_of_ble_eq_true rfl) dX8_init_15 (fun q2 H hP hD hS => ?_)
  have hP : va_P D vwCl [(h0, .inr (12, [.ref q1, .null, .null, .int 0, .int 0])), (q1, .inl (dA 3, 16, .inr (.inl (fun _ => 0)))), (q2, .inl (dA 0, 16, .inl (fun _ => 0)))] H := hP
  have hD : va_D A [(h0, .inr (12, [.ref q1, .null, .null, .int 0, .int 0])), (q1, .inl (dA 3, 16, .inr (.inl (fun _ => 0)))), (q2, .inl (dA 0, 16, .inl (fun _ => 0)))] := hD
  refine va_putF (D := D) (ci := 12) (v := .ref q2) (ty := .array .int) (C := RX8) (T := TX8) (N := 5) hx hb hgw in_X8 tyX8 tyX8_ok nmX8 hown hK hP hD hS 0 rfl rfl 1 (by decide) (hgw _ m_1_147) (fun _ h9 => h9) rfl hnm rfl (by decide +kernel) rfl rfl (Nat.le_of_ble_eq_true rfl) dX8_init_17 (fun H locs hP hD hS => ?_)
  have hP : va_P D vwCl [(h0, .inr (12, [.ref q1, .ref q2, .null, .int 0, .int 0])), (q1, .inl (dA 3, 16, .inr (.inl (fun _ => 0)))), (q2, .inl (dA 0, 16, .inl (fun _ => 0)))] H := hP
  have hD : va_D A [(h0, .inr (12, [.ref q1, .ref q2, .null, .int 0, .int 0])), (q1, .inl (dA 3, 16, .inr (.inl (fun _ => 0)))), (q2, .inl (dA 0, 16, .inl (fun _ => 0)))] := hD
  refine lv_aload_n hx hb dX8_init_20 rfl (lv_at hl 0 rfl) ?_
  refine lv_bipush (v := 16) hx hb dX8_init_21 (by decide +kernel) ?_
  refine kq_newa hx hb 3 rfl rfl hgw m_1_163 hK hP hD hS hA (N' := 16) (a0 := (16, .inr (.inl (fun _ => 0)))) (fun _ => rfl) (by decide +kernel) (by decide +kernel) (Nat.le_of_ble_eq_true rfl) (Nat.le_of_ble_eq_true rfl) (Nat.le_of_ble_eq_true rfl) dX8_init_23 (fun q3 H hP hD hS => ?_)
  have hP : va_P D vwCl [(h0, .inr (12, [.ref q1, .ref q2, .null, .int 0, .int 0])), (q1, .inl (dA 3, 16, .inr (.inl (fun _ => 0)))), (q2, .inl (dA 0, 16, .inl (fun _ => 0))), (q3, .inl (dA 3, 16, .inr (.inl (fun _ => 0))))] H := hP
  have hD : va_D A [(h0, .inr (12, [.ref q1, .ref q2, .null, .int 0, .int 0])), (q1, .inl (dA 3, 16, .inr (.inl (fun _ => 0)))), (q2, .inl (dA 0, 16, .inl (fun _ => 0))), (q3, .inl (dA 3, 16, .inr (.inl (fun _ => 0))))] := hD
  refine va_putF (D := D) (ci := 12) (v := .ref q3) (ty := .array .long) (C := RX8) (T := TX8) (N := 5) hx hb hgw in_X8 tyX8 tyX8_ok nmX8 hown hK hP hD hS 0 rfl rfl 2 (by decide) (hgw _ m_1_149) (fun _ h9 => h9) rfl hnm rfl (by decide +kernel) rfl rfl (Nat.le_of_ble_eq_true rfl) dX8_init_25 (fun H locs hP hD hS => ?_)
  have hP : va_P D vwCl [(h0, .inr (12, [.ref q1, .ref q2, .ref q3, .int 0, .int 0])), (q1, .inl (dA 3, 16, .inr (.inl (fun _ => 0)))), (q2, .inl (dA 0, 16, .inl (fun _ => 0))), (q3, .inl (dA 3, 16, .inr (.inl (fun _ => 0))))] H := hP
  have hD : va_D A [(h0, .inr (12, [.ref q1, .ref q2, .ref q3, .int 0, .int 0])), (q1, .inl (dA 3, 16, .inr (.inl (fun _ => 0)))), (q2, .inl (dA 0, 16, .inl (fun _ => 0))), (q3, .inl (dA 3, 16, .inr (.inl (fun _ => 0))))] := hD
  have hP9 := hP.sub (ws' := [(h0, .inr (12, [.ref q1, .ref q2, .ref q3, .int 0, .int 0]))]) [0] rfl
  have hD9 := hD.sub (ws' := [(h0, .inr (12, [.ref q1, .ref q2, .ref q3, .int 0, .int 0]))]) [0] (by decide) rfl
  exact (kq_vret hx hb hr hlocks hS ⟨q1, q2, q3, rfl, rfl⟩ hP9 hD9 (Nat.le_of_ble_eq_true rfl) (Nat.le_of_ble_eq_true rfl) dX8_init_28)
set_option maxHeartbeats 4000000 in
set_option maxRecDepth 100000 in
theorem c_X7_shift (l : Launch) (hfl : l.stackTraces = false) (D : va_G) (dA : Nat → ClassId) (tE tC : Nat) (p0 : Int32) : Ct l D dA tE tC yX7_shift (Cond.code yX7_shift cX7_shift 2 (some .int) :: gW) ({ frames := 0, cells := 0, slots := 0, locals := 0 } : Room) [.int 0, .int p0] [] (fun v w1 => (∃ (p9 : Int32), v = some (.int p9) ∧ w1 = [])) 0 0 := by
  refine Ct_of (by decide) (Nat.le_of_ble_eq_true rfl) ?_
  intro p e s m below meth c hx hb hr hml hown hnm hlocks hgw hK A hG hA hP hD ls hl
  have hl : lv_has ls 2 [(0, .int 0), (1, .int p0)] := hl
  have hS : va_S A s.heap s.heap [] := va_S.rf
  refine lv_iload_n hx hb dX7_shift_0 rfl (lv_at hl 1 rfl) ?_
  refine lv_iconst (v := 4) hx hb dX7_shift_1 (by decide) ?_
  refine lv_irem hx hb dX7_shift_2 (by decide) ?_
  refine lv_topi (fun x1 ex1 => ?_)
  refine lv_iconst (v := 2) hx hb dX7_shift_3 (by decide) ?_
  refine lv_icmp_lt (tgt := 11) hx hb dX7_shift_4 (by decide) (fun c_2 => ?_) (fun c_2 => ?_)
  · have c_2 := (kq_lt (x := x1) (y := 2) (a := x1.toInt) (b := 2) (by rfl) (by decide +kernel)).mp c_2
    refine lv_iconst (v := 0) hx hb dX7_shift_11 (by decide) ?_
    have hP9 := hP.sub (ws' := []) [] rfl
    have hD9 := hD.sub (ws' := []) [] (by decide) rfl
    exact (kq_iret (v := 0) hx hb hr hlocks hS rfl ⟨_, rfl, rfl⟩ hP9 hD9 (Nat.le_of_ble_eq_true rfl) (Nat.le_of_ble_eq_true rfl) dX7_shift_12)
  · have c_2 := mt (kq_lt (x := x1) (y := 2) (a := x1.toInt) (b := 2) (by rfl) (by decide +kernel)).mpr c_2
    refine lv_iload_n hx hb dX7_shift_7 rfl (lv_at hl 0 rfl) ?_
    refine lv_goto (tgt := 12) hx hb dX7_shift_8 (by decide) ?_
    have hP9 := hP.sub (ws' := []) [] rfl
    have hD9 := hD.sub (ws' := []) [] (by decide) rfl
    exact (kq_iret (v := 0) hx hb hr hlocks hS rfl ⟨_, rfl, rfl⟩ hP9 hD9 (Nat.le_of_ble_eq_true rfl) (Nat.le_of_ble_eq_true rfl) dX7_shift_12)
set_option maxHeartbeats 4000000 in
set_option maxRecDepth 100000 in
theorem c_X7_isSecond (l : Launch) (hfl : l.stackTraces = false) (D : va_G) (dA : Nat → ClassId) (tE tC : Nat) (p0 : Int32) (p1 : Int32) : Ct l D dA tE tC yX7_isSecond (Cond.code yX7_isSecond cX7_isSecond 4 (some .boolean) :: gW) ({ frames := 1, cells := 0, slots := 0, locals := 21 } : Room) [.int 11, .int 0, .int p0, .int p1] [] (fun v w1 => (∃ (p9 : Int32), narrow FieldType.boolean (.int p9) = .int p9 ∧ v = some (.int p9) ∧ w1 = [])) 0 0 := by
  refine Ct_of (by decide) (Nat.le_of_ble_eq_true rfl) ?_
  intro p e s m below meth c hx hb hr hml hown hnm hlocks hgw hK A hG hA hP hD ls hl
  have hl : lv_has ls 4 [(0, .int 11), (1, .int 0), (2, .int p0), (3, .int p1)] := hl
  have hS : va_S A s.heap s.heap [] := va_S.rf
  refine lv_iload_n hx hb dX7_isSecond_0 rfl (lv_at hl 0 rfl) ?_
  refine lv_tableIn (off := 31) (tgt := 32) hx hb dX7_isSecond_1 (by decide +kernel) (by decide +kernel) (by decide +kernel) (by decide) ?_
  refine lv_iload_n hx hb dX7_isSecond_32 rfl (lv_at hl 2 rfl) ?_
  refine lv_iload_n hx hb dX7_isSecond_33 rfl (lv_at hl 1 rfl) ?_
  refine lv_iload_n hx hb dX7_isSecond_34 rfl (lv_at hl 3 rfl) ?_
  refine kq_S (As := [.int 0, .int p1]) (rest := [.int p0]) (wr := []) hx hb hml hown hgw hK hG hA hP hD hS (c_X7_shift l hfl D dA tE tC p1) m_1_171 m_1_172 m_1_2 m_1_173 hd_X7_shift rfl rfl ⟨(Nat.le_of_ble_eq_true rfl), (Nat.le_of_ble_eq_true rfl)⟩ [] [] rfl rfl rfl rfl (by decide) hl.1 rfl (Nat.le_of_ble_eq_true rfl) dX7_isSecond_35 ⟨(Nat.le_of_ble_eq_true rfl), (Nat.le_of_ble_eq_true rfl)⟩ (fun v w1 H locs hQ hP hD hS => ?_)
  obtain ⟨x1, rfl, rfl⟩ := hQ
  refine W.eq (g2 := F0 m 38 ls [.int x1, .int p0]) rfl ?_
  have hP : va_P D vwCl [] H := hP
  have hD : va_D A [] := hD
  refine lv_iadd hx hb dX7_isSecond_38 ?_
  refine lv_topi (fun x2 ex2 => ?_)
  refine lv_bipush (v := 8) hx hb dX7_isSecond_39 (by decide +kernel) ?_
  refine lv_icmp_lt (tgt := 48) hx hb dX7_isSecond_41 (by decide) (fun c_3 => ?_) (fun c_3 => ?_)
  · have c_3 := (kq_lt (x := x2) (y := 8) (a := x2.toInt) (b := 8) (by rfl) (by decide +kernel)).mp c_3
    refine lv_iconst (v := 0) hx hb dX7_isSecond_48 (by decide) ?_
    have hP9 := hP.sub (ws' := []) [] rfl
    have hD9 := hD.sub (ws' := []) [] (by decide) rfl
    exact (kq_iret (v := 0) hx hb hr hlocks hS rfl ⟨_, rfl, rfl, rfl⟩ hP9 hD9 (Nat.le_of_ble_eq_true rfl) (Nat.le_of_ble_eq_true rfl) dX7_isSecond_49)
  · have c_3 := mt (kq_lt (x := x2) (y := 8) (a := x2.toInt) (b := 8) (by rfl) (by decide +kernel)).mpr c_3
    refine lv_iconst (v := 1) hx hb dX7_isSecond_44 (by decide) ?_
    refine lv_goto (tgt := 49) hx hb dX7_isSecond_45 (by decide) ?_
    have hP9 := hP.sub (ws' := []) [] rfl
    have hD9 := hD.sub (ws' := []) [] (by decide) rfl
    exact (kq_iret (v := 1) hx hb hr hlocks hS rfl ⟨_, rfl, rfl, rfl⟩ hP9 hD9 (Nat.le_of_ble_eq_true rfl) (Nat.le_of_ble_eq_true rfl) dX7_isSecond_49)
set_option maxHeartbeats 4000000 in
set_option maxRecDepth 100000 in
theorem c_X7_isSecond_1 (l : Launch) (hfl : l.stackTraces = false) (D : va_G) (dA : Nat → ClassId) (tE tC : Nat) (p0 : Int32) (p1 : Int32) : Ct l D dA tE tC yX7_isSecond (Cond.code yX7_isSecond cX7_isSecond 4 (some .boolean) :: gW) ({ frames := 1, cells := 0, slots := 0, locals := 21 } : Room) [.int 12, .int 0, .int p0, .int p1] [] (fun v w1 => (∃ (p9 : Int32), narrow FieldType.boolean (.int p9) = .int p9 ∧ v = some (.int p9) ∧ w1 = [])) 0 0 := by
  refine Ct_of (by decide) (Nat.le_of_ble_eq_true rfl) ?_
  intro p e s m below meth c hx hb hr hml hown hnm hlocks hgw hK A hG hA hP hD ls hl
  have hl : lv_has ls 4 [(0, .int 12), (1, .int 0), (2, .int p0), (3, .int p1)] := hl
  have hS : va_S A s.heap s.heap [] := va_S.rf
  refine lv_iload_n hx hb dX7_isSecond_0 rfl (lv_at hl 0 rfl) ?_
  refine lv_tableIn (off := 49) (tgt := 50) hx hb dX7_isSecond_1 (by decide +kernel) (by decide +kernel) (by decide +kernel) (by decide) ?_
  refine lv_iload_n hx hb dX7_isSecond_50 rfl (lv_at hl 3 rfl) ?_
  refine lv_iload_n hx hb dX7_isSecond_51 rfl (lv_at hl 1 rfl) ?_
  refine lv_iload_n hx hb dX7_isSecond_52 rfl (lv_at hl 2 rfl) ?_
  refine kq_S (As := [.int 0, .int p0]) (rest := [.int p1]) (wr := []) hx hb hml hown hgw hK hG hA hP hD hS (c_X7_shift l hfl D dA tE tC p0) m_1_171 m_1_172 m_1_2 m_1_173 hd_X7_shift rfl rfl ⟨(Nat.le_of_ble_eq_true rfl), (Nat.le_of_ble_eq_true rfl)⟩ [] [] rfl rfl rfl rfl (by decide) hl.1 rfl (Nat.le_of_ble_eq_true rfl) dX7_isSecond_53 ⟨(Nat.le_of_ble_eq_true rfl), (Nat.le_of_ble_eq_true rfl)⟩ (fun v w1 H locs hQ hP hD hS => ?_)
  obtain ⟨x1, rfl, rfl⟩ := hQ
  refine W.eq (g2 := F0 m 56 ls [.int x1, .int p1]) rfl ?_
  have hP : va_P D vwCl [] H := hP
  have hD : va_D A [] := hD
  refine lv_iadd hx hb dX7_isSecond_56 ?_
  refine lv_topi (fun x2 ex2 => ?_)
  refine lv_bipush (v := 8) hx hb dX7_isSecond_57 (by decide +kernel) ?_
  refine lv_icmp_lt (tgt := 66) hx hb dX7_isSecond_59 (by decide) (fun c_3 => ?_) (fun c_3 => ?_)
  · have c_3 := (kq_lt (x := x2) (y := 8) (a := x2.toInt) (b := 8) (by rfl) (by decide +kernel)).mp c_3
    refine lv_iconst (v := 0) hx hb dX7_isSecond_66 (by decide) ?_
    have hP9 := hP.sub (ws' := []) [] rfl
    have hD9 := hD.sub (ws' := []) [] (by decide) rfl
    exact (kq_iret (v := 0) hx hb hr hlocks hS rfl ⟨_, rfl, rfl, rfl⟩ hP9 hD9 (Nat.le_of_ble_eq_true rfl) (Nat.le_of_ble_eq_true rfl) dX7_isSecond_67)
  · have c_3 := mt (kq_lt (x := x2) (y := 8) (a := x2.toInt) (b := 8) (by rfl) (by decide +kernel)).mpr c_3
    refine lv_iconst (v := 1) hx hb dX7_isSecond_62 (by decide) ?_
    refine lv_goto (tgt := 67) hx hb dX7_isSecond_63 (by decide) ?_
    have hP9 := hP.sub (ws' := []) [] rfl
    have hD9 := hD.sub (ws' := []) [] (by decide) rfl
    exact (kq_iret (v := 1) hx hb hr hlocks hS rfl ⟨_, rfl, rfl, rfl⟩ hP9 hD9 (Nat.le_of_ble_eq_true rfl) (Nat.le_of_ble_eq_true rfl) dX7_isSecond_67)
set_option maxHeartbeats 4000000 in
set_option maxRecDepth 100000 in
theorem c_X7_isSecond_2 (l : Launch) (hfl : l.stackTraces = false) (D : va_G) (dA : Nat → ClassId) (tE tC : Nat) (p0 : Int32) (p1 : Int32) : Ct l D dA tE tC yX7_isSecond (Cond.code yX7_isSecond cX7_isSecond 4 (some .boolean) :: gW) ({ frames := 1, cells := 0, slots := 0, locals := 21 } : Room) [.int 13, .int 0, .int p0, .int p1] [] (fun v w1 => (∃ (p9 : Int32), narrow FieldType.boolean (.int p9) = .int p9 ∧ v = some (.int p9) ∧ w1 = [])) 0 0 := by
  refine Ct_of (by decide) (Nat.le_of_ble_eq_true rfl) ?_
  intro p e s m below meth c hx hb hr hml hown hnm hlocks hgw hK A hG hA hP hD ls hl
  have hl : lv_has ls 4 [(0, .int 13), (1, .int 0), (2, .int p0), (3, .int p1)] := hl
  have hS : va_S A s.heap s.heap [] := va_S.rf
  refine lv_iload_n hx hb dX7_isSecond_0 rfl (lv_at hl 0 rfl) ?_
  refine lv_tableIn (off := 67) (tgt := 68) hx hb dX7_isSecond_1 (by decide +kernel) (by decide +kernel) (by decide +kernel) (by decide) ?_
  refine lv_iload_n hx hb dX7_isSecond_68 rfl (lv_at hl 3 rfl) ?_
  refine lv_iload_n hx hb dX7_isSecond_69 rfl (lv_at hl 1 rfl) ?_
  refine lv_iload_n hx hb dX7_isSecond_70 rfl (lv_at hl 2 rfl) ?_
  refine kq_S (As := [.int 0, .int p0]) (rest := [.int p1]) (wr := []) hx hb hml hown hgw hK hG hA hP hD hS (c_X7_shift l hfl D dA tE tC p0) m_1_171 m_1_172 m_1_2 m_1_173 hd_X7_shift rfl rfl ⟨(Nat.le_of_ble_eq_true rfl), (Nat.le_of_ble_eq_true rfl)⟩ [] [] rfl rfl rfl rfl (by decide) hl.1 rfl (Nat.le_of_ble_eq_true rfl) dX7_isSecond_71 ⟨(Nat.le_of_ble_eq_true rfl), (Nat.le_of_ble_eq_true rfl)⟩ (fun v w1 H locs hQ hP hD hS => ?_)
  obtain ⟨x1, rfl, rfl⟩ := hQ
  refine W.eq (g2 := F0 m 74 ls [.int x1, .int p1]) rfl ?_
  have hP : va_P D vwCl [] H := hP
  have hD : va_D A [] := hD
  refine lv_iadd hx hb dX7_isSecond_74 ?_
  refine lv_topi (fun x2 ex2 => ?_)
  refine lv_iload_n hx hb dX7_isSecond_75 rfl (lv_at hl 2 rfl) ?_
  refine lv_icmp_le (tgt := 83) hx hb dX7_isSecond_76 (by decide) (fun c_3 => ?_) (fun c_3 => ?_)
  · have c_3 := (kq_le (x := x2) (y := p0) (a := x2.toInt) (b := p0.toInt) (by rfl) (by rfl)).mp c_3
    refine lv_iconst (v := 0) hx hb dX7_isSecond_83 (by decide) ?_
    have hP9 := hP.sub (ws' := []) [] rfl
    have hD9 := hD.sub (ws' := []) [] (by decide) rfl
    exact (kq_iret (v := 0) hx hb hr hlocks hS rfl ⟨_, rfl, rfl, rfl⟩ hP9 hD9 (Nat.le_of_ble_eq_true rfl) (Nat.le_of_ble_eq_true rfl) dX7_isSecond_84)
  · have c_3 := mt (kq_le (x := x2) (y := p0) (a := x2.toInt) (b := p0.toInt) (by rfl) (by rfl)).mpr c_3
    refine lv_iconst (v := 1) hx hb dX7_isSecond_79 (by decide) ?_
    refine lv_goto (tgt := 84) hx hb dX7_isSecond_80 (by decide) ?_
    have hP9 := hP.sub (ws' := []) [] rfl
    have hD9 := hD.sub (ws' := []) [] (by decide) rfl
    exact (kq_iret (v := 1) hx hb hr hlocks hS rfl ⟨_, rfl, rfl, rfl⟩ hP9 hD9 (Nat.le_of_ble_eq_true rfl) (Nat.le_of_ble_eq_true rfl) dX7_isSecond_84)
set_option maxHeartbeats 4000000 in
set_option maxRecDepth 100000 in
theorem c_X7_isSecond_3 (l : Launch) (hfl : l.stackTraces = false) (D : va_G) (dA : Nat → ClassId) (tE tC : Nat) (p0 : Int32) (p1 : Int32) : Ct l D dA tE tC yX7_isSecond (Cond.code yX7_isSecond cX7_isSecond 4 (some .boolean) :: gW) ({ frames := 1, cells := 0, slots := 0, locals := 14 } : Room) [.int 14, .int 0, .int p0, .int p1] [] (fun v w1 => (∃ (p9 : Int32), narrow FieldType.boolean (.int p9) = .int p9 ∧ v = some (.int p9) ∧ w1 = [])) 0 0 := by
  refine Ct_of (by decide) (Nat.le_of_ble_eq_true rfl) ?_
  intro p e s m below meth c hx hb hr hml hown hnm hlocks hgw hK A hG hA hP hD ls hl
  have hl : lv_has ls 4 [(0, .int 14), (1, .int 0), (2, .int p0), (3, .int p1)] := hl
  have hS : va_S A s.heap s.heap [] := va_S.rf
  refine lv_iload_n hx hb dX7_isSecond_0 rfl (lv_at hl 0 rfl) ?_
  refine lv_tableIn (off := 84) (tgt := 85) hx hb dX7_isSecond_1 (by decide +kernel) (by decide +kernel) (by decide +kernel) (by decide) ?_
  refine lv_iconst (v := 2) hx hb dX7_isSecond_85 (by decide) ?_
  refine lv_iload_n hx hb dX7_isSecond_86 rfl (lv_at hl 2 rfl) ?_
  refine lv_imul hx hb dX7_isSecond_87 ?_
  refine lv_topi (fun x1 ex1 => ?_)
  refine lv_bipush (v := 15) hx hb dX7_isSecond_88 (by decide +kernel) ?_
  refine lv_isub hx hb dX7_isSecond_90 ?_
  refine lv_topi (fun x2 ex2 => ?_)
  refine va_mabs hx hb (hml.trans hl.1.symm) hown (hgw _ mM_1_174) (hgw _ mM_1_175) (hgw _ m_1_5) (hgw _ mM_1_176) (Nat.le_of_ble_eq_true rfl) (Nat.le_of_ble_eq_true rfl) (Nat.le_of_ble_eq_true rfl) (Nat.le_of_ble_eq_true rfl) dX7_isSecond_91 ?_
  refine lv_topi (fun x3 ex3 => ?_)
  refine lv_iconst (v := 2) hx hb dX7_isSecond_94 (by decide) ?_
  refine lv_iload_n hx hb dX7_isSecond_95 rfl (lv_at hl 3 rfl) ?_
  refine lv_imul hx hb dX7_isSecond_96 ?_
  refine lv_topi (fun x4 ex4 => ?_)
  refine lv_bipush (v := 15) hx hb dX7_isSecond_97 (by decide +kernel) ?_
  refine lv_isub hx hb dX7_isSecond_99 ?_
  refine lv_topi (fun x5 ex5 => ?_)
  refine va_mabs hx hb (hml.trans hl.1.symm) hown (hgw _ mM_1_174) (hgw _ mM_1_175) (hgw _ m_1_5) (hgw _ mM_1_176) (Nat.le_of_ble_eq_true rfl) (Nat.le_of_ble_eq_true rfl) (Nat.le_of_ble_eq_true rfl) (Nat.le_of_ble_eq_true rfl) dX7_isSecond_100 ?_
  refine lv_topi (fun x6 ex6 => ?_)
  refine lv_icmp_le (tgt := 110) hx hb dX7_isSecond_103 (by decide) (fun c_7 => ?_) (fun c_7 => ?_)
  · have c_7 := (kq_le (x := x3) (y := x6) (a := x3.toInt) (b := x6.toInt) (by rfl) (by rfl)).mp c_7
    refine lv_iconst (v := 0) hx hb dX7_isSecond_110 (by decide) ?_
    have hP9 := hP.sub (ws' := []) [] rfl
    have hD9 := hD.sub (ws' := []) [] (by decide) rfl
    exact (kq_iret (v := 0) hx hb hr hlocks hS rfl ⟨_, rfl, rfl, rfl⟩ hP9 hD9 (Nat.le_of_ble_eq_true rfl) (Nat.le_of_ble_eq_true rfl) dX7_isSecond_111)
  · have c_7 := mt (kq_le (x := x3) (y := x6) (a := x3.toInt) (b := x6.toInt) (by rfl) (by rfl)).mpr c_7
    refine lv_iconst (v := 1) hx hb dX7_isSecond_106 (by decide) ?_
    refine lv_goto (tgt := 111) hx hb dX7_isSecond_107 (by decide) ?_
    have hP9 := hP.sub (ws' := []) [] rfl
    have hD9 := hD.sub (ws' := []) [] (by decide) rfl
    exact (kq_iret (v := 1) hx hb hr hlocks hS rfl ⟨_, rfl, rfl, rfl⟩ hP9 hD9 (Nat.le_of_ble_eq_true rfl) (Nat.le_of_ble_eq_true rfl) dX7_isSecond_111)
set_option maxHeartbeats 4000000 in
set_option maxRecDepth 100000 in
theorem c_X7_isSecond_4 (l : Launch) (hfl : l.stackTraces = false) (D : va_G) (dA : Nat → ClassId) (tE tC : Nat) (p0 : Int32) (p1 : Int32) : Ct l D dA tE tC yX7_isSecond (Cond.code yX7_isSecond cX7_isSecond 4 (some .boolean) :: gW) ({ frames := 0, cells := 0, slots := 0, locals := 0 } : Room) [.int 15, .int 0, .int p0, .int p1] [] (fun v w1 => (∃ (p9 : Int32), narrow FieldType.boolean (.int p9) = .int p9 ∧ v = some (.int p9) ∧ w1 = [])) 0 0 := by
  refine Ct_of (by decide) (Nat.le_of_ble_eq_true rfl) ?_
  intro p e s m below meth c hx hb hr hml hown hnm hlocks hgw hK A hG hA hP hD ls hl
  have hl : lv_has ls 4 [(0, .int 15), (1, .int 0), (2, .int p0), (3, .int p1)] := hl
  have hS : va_S A s.heap s.heap [] := va_S.rf
  refine lv_iload_n hx hb dX7_isSecond_0 rfl (lv_at hl 0 rfl) ?_
  refine lv_tableOut (tgt := 112) hx hb dX7_isSecond_1 (by decide +kernel) (by decide) ?_
  refine lv_iload_n hx hb dX7_isSecond_112 rfl (lv_at hl 2 rfl) ?_
  refine lv_bipush (v := 8) hx hb dX7_isSecond_113 (by decide +kernel) ?_
  refine lv_icmp_lt (tgt := 122) hx hb dX7_isSecond_115 (by decide) (fun c_1 => ?_) (fun c_1 => ?_)
  · have c_1 := (kq_lt (x := p0) (y := 8) (a := p0.toInt) (b := 8) (by rfl) (by decide +kernel)).mp c_1
    refine lv_iconst (v := 0) hx hb dX7_isSecond_122 (by decide) ?_
    refine lv_iload_n hx hb dX7_isSecond_123 rfl (lv_at hl 3 rfl) ?_
    refine lv_bipush (v := 8) hx hb dX7_isSecond_124 (by decide +kernel) ?_
    refine lv_icmp_lt (tgt := 133) hx hb dX7_isSecond_126 (by decide) (fun c_2 => ?_) (fun c_2 => ?_)
    · have c_2 := (kq_lt (x := p1) (y := 8) (a := p1.toInt) (b := 8) (by rfl) (by decide +kernel)).mp c_2
      refine lv_iconst (v := 0) hx hb dX7_isSecond_133 (by decide) ?_
      refine lv_icmp_eq (tgt := 141) hx hb dX7_isSecond_134 (by decide) (fun _ => ?_) (fun h => absurd (by decide +kernel) h)
      refine lv_iconst (v := 0) hx hb dX7_isSecond_141 (by decide) ?_
      have hP9 := hP.sub (ws' := []) [] rfl
      have hD9 := hD.sub (ws' := []) [] (by decide) rfl
      exact (kq_iret (v := 0) hx hb hr hlocks hS rfl ⟨_, rfl, rfl, rfl⟩ hP9 hD9 (Nat.le_of_ble_eq_true rfl) (Nat.le_of_ble_eq_true rfl) dX7_isSecond_142)
    · have c_2 := mt (kq_lt (x := p1) (y := 8) (a := p1.toInt) (b := 8) (by rfl) (by decide +kernel)).mpr c_2
      refine lv_iconst (v := 1) hx hb dX7_isSecond_129 (by decide) ?_
      refine lv_goto (tgt := 134) hx hb dX7_isSecond_130 (by decide) ?_
      refine lv_icmp_eq (tgt := 141) hx hb dX7_isSecond_134 (by decide) (fun h => absurd h (by decide +kernel)) (fun _ => ?_)
      refine lv_iconst (v := 1) hx hb dX7_isSecond_137 (by decide) ?_
      refine lv_goto (tgt := 142) hx hb dX7_isSecond_138 (by decide) ?_
      have hP9 := hP.sub (ws' := []) [] rfl
      have hD9 := hD.sub (ws' := []) [] (by decide) rfl
      exact (kq_iret (v := 1) hx hb hr hlocks hS rfl ⟨_, rfl, rfl, rfl⟩ hP9 hD9 (Nat.le_of_ble_eq_true rfl) (Nat.le_of_ble_eq_true rfl) dX7_isSecond_142)
  · have c_1 := mt (kq_lt (x := p0) (y := 8) (a := p0.toInt) (b := 8) (by rfl) (by decide +kernel)).mpr c_1
    refine lv_iconst (v := 1) hx hb dX7_isSecond_118 (by decide) ?_
    refine lv_goto (tgt := 123) hx hb dX7_isSecond_119 (by decide) ?_
    refine lv_iload_n hx hb dX7_isSecond_123 rfl (lv_at hl 3 rfl) ?_
    refine lv_bipush (v := 8) hx hb dX7_isSecond_124 (by decide +kernel) ?_
    refine lv_icmp_lt (tgt := 133) hx hb dX7_isSecond_126 (by decide) (fun c_3 => ?_) (fun c_3 => ?_)
    · have c_3 := (kq_lt (x := p1) (y := 8) (a := p1.toInt) (b := 8) (by rfl) (by decide +kernel)).mp c_3
      refine lv_iconst (v := 0) hx hb dX7_isSecond_133 (by decide) ?_
      refine lv_icmp_eq (tgt := 141) hx hb dX7_isSecond_134 (by decide) (fun h => absurd h (by decide +kernel)) (fun _ => ?_)
      refine lv_iconst (v := 1) hx hb dX7_isSecond_137 (by decide) ?_
      refine lv_goto (tgt := 142) hx hb dX7_isSecond_138 (by decide) ?_
      have hP9 := hP.sub (ws' := []) [] rfl
      have hD9 := hD.sub (ws' := []) [] (by decide) rfl
      exact (kq_iret (v := 1) hx hb hr hlocks hS rfl ⟨_, rfl, rfl, rfl⟩ hP9 hD9 (Nat.le_of_ble_eq_true rfl) (Nat.le_of_ble_eq_true rfl) dX7_isSecond_142)
    · have c_3 := mt (kq_lt (x := p1) (y := 8) (a := p1.toInt) (b := 8) (by rfl) (by decide +kernel)).mpr c_3
      refine lv_iconst (v := 1) hx hb dX7_isSecond_129 (by decide) ?_
      refine lv_goto (tgt := 134) hx hb dX7_isSecond_130 (by decide) ?_
      refine lv_icmp_eq (tgt := 141) hx hb dX7_isSecond_134 (by decide) (fun _ => ?_) (fun h => absurd (by decide +kernel) h)
      refine lv_iconst (v := 0) hx hb dX7_isSecond_141 (by decide) ?_
      have hP9 := hP.sub (ws' := []) [] rfl
      have hD9 := hD.sub (ws' := []) [] (by decide) rfl
      exact (kq_iret (v := 0) hx hb hr hlocks hS rfl ⟨_, rfl, rfl, rfl⟩ hP9 hD9 (Nat.le_of_ble_eq_true rfl) (Nat.le_of_ble_eq_true rfl) dX7_isSecond_142)
set_option maxHeartbeats 4000000 in
set_option maxRecDepth 100000 in
theorem c_X7_isFromTo (l : Launch) (hfl : l.stackTraces = false) (D : va_G) (dA : Nat → ClassId) (tE tC : Nat) (p0 : Int32) : Ct l D dA tE tC yX7_isFromTo (Cond.code yX7_isFromTo cX7_isFromTo 3 (some .boolean) :: gW) ({ frames := 0, cells := 0, slots := 0, locals := 0 } : Room) [.int p0, .int 6, .int 9] [] (fun v w1 => (∃ (p9 : Int32), narrow FieldType.boolean (.int p9) = .int p9 ∧ v = some (.int p9) ∧ w1 = [])) 0 0 := by
  refine Ct_of (by decide) (Nat.le_of_ble_eq_true rfl) ?_
  intro p e s m below meth c hx hb hr hml hown hnm hlocks hgw hK A hG hA hP hD ls hl
  have hl : lv_has ls 3 [(0, .int p0), (1, .int 6), (2, .int 9)] := hl
  have hS : va_S A s.heap s.heap [] := va_S.rf
  refine lv_iload_n hx hb dX7_isFromTo_0 rfl (lv_at hl 0 rfl) ?_
  refine lv_iload_n hx hb dX7_isFromTo_1 rfl (lv_at hl 1 rfl) ?_
  refine lv_icmp_lt (tgt := 14) hx hb dX7_isFromTo_2 (by decide) (fun c_1 => ?_) (fun c_1 => ?_)
  · have c_1 := (kq_lt (x := p0) (y := 6) (a := p0.toInt) (b := 6) (by rfl) (by decide +kernel)).mp c_1
    refine lv_iconst (v := 0) hx hb dX7_isFromTo_14 (by decide) ?_
    have hP9 := hP.sub (ws' := []) [] rfl
    have hD9 := hD.sub (ws' := []) [] (by decide) rfl
    exact (kq_iret (v := 0) hx hb hr hlocks hS rfl ⟨_, rfl, rfl, rfl⟩ hP9 hD9 (Nat.le_of_ble_eq_true rfl) (Nat.le_of_ble_eq_true rfl) dX7_isFromTo_15)
  · have c_1 := mt (kq_lt (x := p0) (y := 6) (a := p0.toInt) (b := 6) (by rfl) (by decide +kernel)).mpr c_1
    refine lv_iload_n hx hb dX7_isFromTo_5 rfl (lv_at hl 0 rfl) ?_
    refine lv_iload_n hx hb dX7_isFromTo_6 rfl (lv_at hl 2 rfl) ?_
    refine lv_icmp_gt (tgt := 14) hx hb dX7_isFromTo_7 (by decide) (fun c_2 => ?_) (fun c_2 => ?_)
    · have c_2 := (kq_lt (x := 9) (y := p0) (a := 9) (b := p0.toInt) (by decide +kernel) (by rfl)).mp c_2
      refine lv_iconst (v := 0) hx hb dX7_isFromTo_14 (by decide) ?_
      have hP9 := hP.sub (ws' := []) [] rfl
      have hD9 := hD.sub (ws' := []) [] (by decide) rfl
      exact (kq_iret (v := 0) hx hb hr hlocks hS rfl ⟨_, rfl, rfl, rfl⟩ hP9 hD9 (Nat.le_of_ble_eq_true rfl) (Nat.le_of_ble_eq_true rfl) dX7_isFromTo_15)
    · have c_2 := mt (kq_lt (x := 9) (y := p0) (a := 9) (b := p0.toInt) (by decide +kernel) (by rfl)).mpr c_2
      refine lv_iconst (v := 1) hx hb dX7_isFromTo_10 (by decide) ?_
      refine lv_goto (tgt := 15) hx hb dX7_isFromTo_11 (by decide) ?_
      have hP9 := hP.sub (ws' := []) [] rfl
      have hD9 := hD.sub (ws' := []) [] (by decide) rfl
      exact (kq_iret (v := 1) hx hb hr hlocks hS rfl ⟨_, rfl, rfl, rfl⟩ hP9 hD9 (Nat.le_of_ble_eq_true rfl) (Nat.le_of_ble_eq_true rfl) dX7_isFromTo_15)
set_option maxHeartbeats 4000000 in
set_option maxRecDepth 100000 in
theorem c_X7_isOnOrdinary (l : Launch) (hfl : l.stackTraces = false) (D : va_G) (dA : Nat → ClassId) (tE tC : Nat) (p0 : Int32) (p1 : Int32) : Ct l D dA tE tC yX7_isOnOrdinary (Cond.code yX7_isOnOrdinary cX7_isOnOrdinary 4 (some .boolean) :: gW) ({ frames := 1, cells := 0, slots := 0, locals := 22 } : Room) [.int 21, .int 0, .int p0, .int p1] [] (fun v w1 => (∃ (p9 : Int32), narrow FieldType.boolean (.int p9) = .int p9 ∧ v = some (.int p9) ∧ w1 = [])) 0 0 := by
  refine Ct_of (by decide) (Nat.le_of_ble_eq_true rfl) ?_
  intro p e s m below meth c hx hb hr hml hown hnm hlocks hgw hK A hG hA hP hD ls hl
  have hl : lv_has ls 4 [(0, .int 21), (1, .int 0), (2, .int p0), (3, .int p1)] := hl
  have hS : va_S A s.heap s.heap [] := va_S.rf
  refine lv_iload_n hx hb dX7_isOnOrdinary_0 rfl (lv_at hl 0 rfl) ?_
  refine lv_tableIn (off := 43) (tgt := 44) hx hb dX7_isOnOrdinary_1 (by decide +kernel) (by decide +kernel) (by decide +kernel) (by decide) ?_
  refine lv_iload_n hx hb dX7_isOnOrdinary_44 rfl (lv_at hl 2 rfl) ?_
  refine lv_iload_n hx hb dX7_isOnOrdinary_45 rfl (lv_at hl 1 rfl) ?_
  refine lv_iload_n hx hb dX7_isOnOrdinary_46 rfl (lv_at hl 3 rfl) ?_
  refine kq_S (As := [.int 0, .int p1]) (rest := [.int p0]) (wr := []) hx hb hml hown hgw hK hG hA hP hD hS (c_X7_shift l hfl D dA tE tC p1) m_1_171 m_1_172 m_1_2 m_1_173 hd_X7_shift rfl rfl ⟨(Nat.le_of_ble_eq_true rfl), (Nat.le_of_ble_eq_true rfl)⟩ [] [] rfl rfl rfl rfl (by decide) hl.1 rfl (Nat.le_of_ble_eq_true rfl) dX7_isOnOrdinary_47 ⟨(Nat.le_of_ble_eq_true rfl), (Nat.le_of_ble_eq_true rfl)⟩ (fun v w1 H locs hQ hP hD hS => ?_)
  obtain ⟨x1, rfl, rfl⟩ := hQ
  refine W.eq (g2 := F0 m 50 ls [.int x1, .int p0]) rfl ?_
  have hP : va_P D vwCl [] H := hP
  have hD : va_D A [] := hD
  refine lv_iadd hx hb dX7_isOnOrdinary_50 ?_
  refine lv_topi (fun x2 ex2 => ?_)
  refine lv_bipush (v := 6) hx hb dX7_isOnOrdinary_51 (by decide +kernel) ?_
  refine lv_bipush (v := 9) hx hb dX7_isOnOrdinary_53 (by decide +kernel) ?_
  refine kq_S (As := [.int x2, .int 6, .int 9]) (rest := []) (wr := []) hx hb hml hown hgw hK hG hA hP hD hS (c_X7_isFromTo l hfl D dA tE tC x2) m_1_180 m_1_181 m_1_2 m_1_182 hd_X7_isFromTo rfl rfl ⟨(Nat.le_of_ble_eq_true rfl), (Nat.le_of_ble_eq_true rfl)⟩ [] [] rfl rfl rfl rfl (by decide) hl.1 rfl (Nat.le_of_ble_eq_true rfl) dX7_isOnOrdinary_55 ⟨(Nat.le_of_ble_eq_true rfl), (Nat.le_of_ble_eq_true rfl)⟩ (fun v w1 H locs hQ hP hD hS => ?_)
  obtain ⟨x3, nx3, rfl, rfl⟩ := hQ
  refine W.eq (g2 := F0 m 58 ls [.int x3]) rfl ?_
  have hP : va_P D vwCl [] H := hP
  have hD : va_D A [] := hD
  have hP9 := hP.sub (ws' := []) [] rfl
  have hD9 := hD.sub (ws' := []) [] (by decide) rfl
  exact (kq_iret (v := x3) hx hb hr hlocks hS nx3 ⟨_, nx3, rfl, rfl⟩ hP9 hD9 (Nat.le_of_ble_eq_true rfl) (Nat.le_of_ble_eq_true rfl) dX7_isOnOrdinary_58)
set_option maxHeartbeats 4000000 in
set_option maxRecDepth 100000 in
theorem c_X7_isOnOrdinary_1 (l : Launch) (hfl : l.stackTraces = false) (D : va_G) (dA : Nat → ClassId) (tE tC : Nat) (p0 : Int32) (p1 : Int32) : Ct l D dA tE tC yX7_isOnOrdinary (Cond.code yX7_isOnOrdinary cX7_isOnOrdinary 4 (some .boolean) :: gW) ({ frames := 1, cells := 0, slots := 0, locals := 22 } : Room) [.int 22, .int 0, .int p0, .int p1] [] (fun v w1 => (∃ (p9 : Int32), narrow FieldType.boolean (.int p9) = .int p9 ∧ v = some (.int p9) ∧ w1 = [])) 0 0 := by
  refine Ct_of (by decide) (Nat.le_of_ble_eq_true rfl) ?_
  intro p e s m below meth c hx hb hr hml hown hnm hlocks hgw hK A hG hA hP hD ls hl
  have hl : lv_has ls 4 [(0, .int 22), (1, .int 0), (2, .int p0), (3, .int p1)] := hl
  have hS : va_S A s.heap s.heap [] := va_S.rf
  refine lv_iload_n hx hb dX7_isOnOrdinary_0 rfl (lv_at hl 0 rfl) ?_
  refine lv_tableIn (off := 58) (tgt := 59) hx hb dX7_isOnOrdinary_1 (by decide +kernel) (by decide +kernel) (by decide +kernel) (by decide) ?_
  refine lv_iload_n hx hb dX7_isOnOrdinary_59 rfl (lv_at hl 3 rfl) ?_
  refine lv_iload_n hx hb dX7_isOnOrdinary_60 rfl (lv_at hl 1 rfl) ?_
  refine lv_iload_n hx hb dX7_isOnOrdinary_61 rfl (lv_at hl 2 rfl) ?_
  refine kq_S (As := [.int 0, .int p0]) (rest := [.int p1]) (wr := []) hx hb hml hown hgw hK hG hA hP hD hS (c_X7_shift l hfl D dA tE tC p0) m_1_171 m_1_172 m_1_2 m_1_173 hd_X7_shift rfl rfl ⟨(Nat.le_of_ble_eq_true rfl), (Nat.le_of_ble_eq_true rfl)⟩ [] [] rfl rfl rfl rfl (by decide) hl.1 rfl (Nat.le_of_ble_eq_true rfl) dX7_isOnOrdinary_62 ⟨(Nat.le_of_ble_eq_true rfl), (Nat.le_of_ble_eq_true rfl)⟩ (fun v w1 H locs hQ hP hD hS => ?_)
  obtain ⟨x1, rfl, rfl⟩ := hQ
  refine W.eq (g2 := F0 m 65 ls [.int x1, .int p1]) rfl ?_
  have hP : va_P D vwCl [] H := hP
  have hD : va_D A [] := hD
  refine lv_iadd hx hb dX7_isOnOrdinary_65 ?_
  refine lv_topi (fun x2 ex2 => ?_)
  refine lv_bipush (v := 6) hx hb dX7_isOnOrdinary_66 (by decide +kernel) ?_
  refine lv_bipush (v := 9) hx hb dX7_isOnOrdinary_68 (by decide +kernel) ?_
  refine kq_S (As := [.int x2, .int 6, .int 9]) (rest := []) (wr := []) hx hb hml hown hgw hK hG hA hP hD hS (c_X7_isFromTo l hfl D dA tE tC x2) m_1_180 m_1_181 m_1_2 m_1_182 hd_X7_isFromTo rfl rfl ⟨(Nat.le_of_ble_eq_true rfl), (Nat.le_of_ble_eq_true rfl)⟩ [] [] rfl rfl rfl rfl (by decide) hl.1 rfl (Nat.le_of_ble_eq_true rfl) dX7_isOnOrdinary_70 ⟨(Nat.le_of_ble_eq_true rfl), (Nat.le_of_ble_eq_true rfl)⟩ (fun v w1 H locs hQ hP hD hS => ?_)
  obtain ⟨x3, nx3, rfl, rfl⟩ := hQ
  refine W.eq (g2 := F0 m 73 ls [.int x3]) rfl ?_
  have hP : va_P D vwCl [] H := hP
  have hD : va_D A [] := hD
  have hP9 := hP.sub (ws' := []) [] rfl
  have hD9 := hD.sub (ws' := []) [] (by decide) rfl
  exact (kq_iret (v := x3) hx hb hr hlocks hS nx3 ⟨_, nx3, rfl, rfl⟩ hP9 hD9 (Nat.le_of_ble_eq_true rfl) (Nat.le_of_ble_eq_true rfl) dX7_isOnOrdinary_73)
set_option maxHeartbeats 4000000 in
set_option maxRecDepth 100000 in
theorem c_X7_isFromTo_1 (l : Launch) (hfl : l.stackTraces = false) (D : va_G) (dA : Nat → ClassId) (tE tC : Nat) (p0 : Int32) : Ct l D dA tE tC yX7_isFromTo (Cond.code yX7_isFromTo cX7_isFromTo 3 (some .boolean) :: gW) ({ frames := 0, cells := 0, slots := 0, locals := 0 } : Room) [.int p0, .int (-2), .int 2] [] (fun v w1 => (∃ (p9 : Int32), narrow FieldType.boolean (.int p9) = .int p9 ∧ v = some (.int p9) ∧ w1 = [])) 0 0 := by
  refine Ct_of (by decide) (Nat.le_of_ble_eq_true rfl) ?_
  intro p e s m below meth c hx hb hr hml hown hnm hlocks hgw hK A hG hA hP hD ls hl
  have hl : lv_has ls 3 [(0, .int p0), (1, .int (-2)), (2, .int 2)] := hl
  have hS : va_S A s.heap s.heap [] := va_S.rf
  refine lv_iload_n hx hb dX7_isFromTo_0 rfl (lv_at hl 0 rfl) ?_
  refine lv_iload_n hx hb dX7_isFromTo_1 rfl (lv_at hl 1 rfl) ?_
  refine lv_icmp_lt (tgt := 14) hx hb dX7_isFromTo_2 (by decide) (fun c_1 => ?_) (fun c_1 => ?_)
  · have c_1 := (kq_lt (x := p0) (y := (-2)) (a := p0.toInt) (b := (-2)) (by rfl) (by decide +kernel)).mp c_1
    refine lv_iconst (v := 0) hx hb dX7_isFromTo_14 (by decide) ?_
    have hP9 := hP.sub (ws' := []) [] rfl
    have hD9 := hD.sub (ws' := []) [] (by decide) rfl
    exact (kq_iret (v := 0) hx hb hr hlocks hS rfl ⟨_, rfl, rfl, rfl⟩ hP9 hD9 (Nat.le_of_ble_eq_true rfl) (Nat.le_of_ble_eq_true rfl) dX7_isFromTo_15)
  · have c_1 := mt (kq_lt (x := p0) (y := (-2)) (a := p0.toInt) (b := (-2)) (by rfl) (by decide +kernel)).mpr c_1
    refine lv_iload_n hx hb dX7_isFromTo_5 rfl (lv_at hl 0 rfl) ?_
    refine lv_iload_n hx hb dX7_isFromTo_6 rfl (lv_at hl 2 rfl) ?_
    refine lv_icmp_gt (tgt := 14) hx hb dX7_isFromTo_7 (by decide) (fun c_2 => ?_) (fun c_2 => ?_)
    · have c_2 := (kq_lt (x := 2) (y := p0) (a := 2) (b := p0.toInt) (by decide +kernel) (by rfl)).mp c_2
      refine lv_iconst (v := 0) hx hb dX7_isFromTo_14 (by decide) ?_
      have hP9 := hP.sub (ws' := []) [] rfl
      have hD9 := hD.sub (ws' := []) [] (by decide) rfl
      exact (kq_iret (v := 0) hx hb hr hlocks hS rfl ⟨_, rfl, rfl, rfl⟩ hP9 hD9 (Nat.le_of_ble_eq_true rfl) (Nat.le_of_ble_eq_true rfl) dX7_isFromTo_15)
    · have c_2 := mt (kq_lt (x := 2) (y := p0) (a := 2) (b := p0.toInt) (by decide +kernel) (by rfl)).mpr c_2
      refine lv_iconst (v := 1) hx hb dX7_isFromTo_10 (by decide) ?_
      refine lv_goto (tgt := 15) hx hb dX7_isFromTo_11 (by decide) ?_
      have hP9 := hP.sub (ws' := []) [] rfl
      have hD9 := hD.sub (ws' := []) [] (by decide) rfl
      exact (kq_iret (v := 1) hx hb hr hlocks hS rfl ⟨_, rfl, rfl, rfl⟩ hP9 hD9 (Nat.le_of_ble_eq_true rfl) (Nat.le_of_ble_eq_true rfl) dX7_isFromTo_15)
set_option maxHeartbeats 4000000 in
set_option maxRecDepth 100000 in
theorem c_X7_isOnOrdinary_2 (l : Launch) (hfl : l.stackTraces = false) (D : va_G) (dA : Nat → ClassId) (tE tC : Nat) (p0 : Int32) (p1 : Int32) : Ct l D dA tE tC yX7_isOnOrdinary (Cond.code yX7_isOnOrdinary cX7_isOnOrdinary 4 (some .boolean) :: gW) ({ frames := 1, cells := 0, slots := 0, locals := 22 } : Room) [.int 23, .int 0, .int p0, .int p1] [] (fun v w1 => (∃ (p9 : Int32), narrow FieldType.boolean (.int p9) = .int p9 ∧ v = some (.int p9) ∧ w1 = [])) 0 0 := by
  refine Ct_of (by decide) (Nat.le_of_ble_eq_true rfl) ?_
  intro p e s m below meth c hx hb hr hml hown hnm hlocks hgw hK A hG hA hP hD ls hl
  have hl : lv_has ls 4 [(0, .int 23), (1, .int 0), (2, .int p0), (3, .int p1)] := hl
  have hS : va_S A s.heap s.heap [] := va_S.rf
  refine lv_iload_n hx hb dX7_isOnOrdinary_0 rfl (lv_at hl 0 rfl) ?_
  refine lv_tableIn (off := 73) (tgt := 74) hx hb dX7_isOnOrdinary_1 (by decide +kernel) (by decide +kernel) (by decide +kernel) (by decide) ?_
  refine lv_iload_n hx hb dX7_isOnOrdinary_74 rfl (lv_at hl 3 rfl) ?_
  refine lv_iload_n hx hb dX7_isOnOrdinary_75 rfl (lv_at hl 2 rfl) ?_
  refine lv_isub hx hb dX7_isOnOrdinary_76 ?_
  refine lv_topi (fun x1 ex1 => ?_)
  refine lv_iload_n hx hb dX7_isOnOrdinary_77 rfl (lv_at hl 1 rfl) ?_
  refine lv_iload_n hx hb dX7_isOnOrdinary_78 rfl (lv_at hl 2 rfl) ?_
  refine kq_S (As := [.int 0, .int p0]) (rest := [.int x1]) (wr := []) hx hb hml hown hgw hK hG hA hP hD hS (c_X7_shift l hfl D dA tE tC p0) m_1_171 m_1_172 m_1_2 m_1_173 hd_X7_shift rfl rfl ⟨(Nat.le_of_ble_eq_true rfl), (Nat.le_of_ble_eq_true rfl)⟩ [] [] rfl rfl rfl rfl (by decide) hl.1 rfl (Nat.le_of_ble_eq_true rfl) dX7_isOnOrdinary_79 ⟨(Nat.le_of_ble_eq_true rfl), (Nat.le_of_ble_eq_true rfl)⟩ (fun v w1 H locs hQ hP hD hS => ?_)
  obtain ⟨x2, rfl, rfl⟩ := hQ
  refine W.eq (g2 := F0 m 82 ls [.int x2, .int x1]) rfl ?_
  have hP : va_P D vwCl [] H := hP
  have hD : va_D A [] := hD
  refine lv_iadd hx hb dX7_isOnOrdinary_82 ?_
  refine lv_topi (fun x3 ex3 => ?_)
  refine lv_bipush (v := (-2)) hx hb dX7_isOnOrdinary_83 (by decide +kernel) ?_
  refine lv_iconst (v := 2) hx hb dX7_isOnOrdinary_85 (by decide) ?_
  refine kq_S (As := [.int x3, .int (-2), .int 2]) (rest := []) (wr := []) hx hb hml hown hgw hK hG hA hP hD hS (c_X7_isFromTo_1 l hfl D dA tE tC x3) m_1_180 m_1_181 m_1_2 m_1_182 hd_X7_isFromTo rfl rfl ⟨(Nat.le_of_ble_eq_true rfl), (Nat.le_of_ble_eq_true rfl)⟩ [] [] rfl rfl rfl rfl (by decide) hl.1 rfl (Nat.le_of_ble_eq_true rfl) dX7_isOnOrdinary_86 ⟨(Nat.le_of_ble_eq_true rfl), (Nat.le_of_ble_eq_true rfl)⟩ (fun v w1 H locs hQ hP hD hS => ?_)
  obtain ⟨x4, nx4, rfl, rfl⟩ := hQ
  refine W.eq (g2 := F0 m 89 ls [.int x4]) rfl ?_
  have hP : va_P D vwCl [] H := hP
  have hD : va_D A [] := hD
  have hP9 := hP.sub (ws' := []) [] rfl
  have hD9 := hD.sub (ws' := []) [] (by decide) rfl
  exact (kq_iret (v := x4) hx hb hr hlocks hS nx4 ⟨_, nx4, rfl, rfl⟩ hP9 hD9 (Nat.le_of_ble_eq_true rfl) (Nat.le_of_ble_eq_true rfl) dX7_isOnOrdinary_89)
set_option maxHeartbeats 4000000 in
set_option maxRecDepth 100000 in
theorem c_X7_isOnOrdinary_3 (l : Launch) (hfl : l.stackTraces = false) (D : va_G) (dA : Nat → ClassId) (tE tC : Nat) (p0 : Int32) (p1 : Int32) : Ct l D dA tE tC yX7_isOnOrdinary (Cond.code yX7_isOnOrdinary cX7_isOnOrdinary 4 (some .boolean) :: gW) ({ frames := 1, cells := 0, slots := 0, locals := 21 } : Room) [.int 24, .int 0, .int p0, .int p1] [] (fun v w1 => (∃ (p9 : Int32), narrow FieldType.boolean (.int p9) = .int p9 ∧ v = some (.int p9) ∧ w1 = [])) 0 0 := by
  refine Ct_of (by decide) (Nat.le_of_ble_eq_true rfl) ?_
  intro p e s m below meth c hx hb hr hml hown hnm hlocks hgw hK A hG hA hP hD ls hl
  have hl : lv_has ls 4 [(0, .int 24), (1, .int 0), (2, .int p0), (3, .int p1)] := hl
  have hS : va_S A s.heap s.heap [] := va_S.rf
  refine lv_iload_n hx hb dX7_isOnOrdinary_0 rfl (lv_at hl 0 rfl) ?_
  refine lv_tableIn (off := 89) (tgt := 90) hx hb dX7_isOnOrdinary_1 (by decide +kernel) (by decide +kernel) (by decide +kernel) (by decide) ?_
  refine lv_iload_n hx hb dX7_isOnOrdinary_90 rfl (lv_at hl 3 rfl) ?_
  refine lv_iload_n hx hb dX7_isOnOrdinary_91 rfl (lv_at hl 1 rfl) ?_
  refine lv_iload_n hx hb dX7_isOnOrdinary_92 rfl (lv_at hl 2 rfl) ?_
  refine kq_S (As := [.int 0, .int p0]) (rest := [.int p1]) (wr := []) hx hb hml hown hgw hK hG hA hP hD hS (c_X7_shift l hfl D dA tE tC p0) m_1_171 m_1_172 m_1_2 m_1_173 hd_X7_shift rfl rfl ⟨(Nat.le_of_ble_eq_true rfl), (Nat.le_of_ble_eq_true rfl)⟩ [] [] rfl rfl rfl rfl (by decide) hl.1 rfl (Nat.le_of_ble_eq_true rfl) dX7_isOnOrdinary_93 ⟨(Nat.le_of_ble_eq_true rfl), (Nat.le_of_ble_eq_true rfl)⟩ (fun v w1 H locs hQ hP hD hS => ?_)
  obtain ⟨x1, rfl, rfl⟩ := hQ
  refine W.eq (g2 := F0 m 96 ls [.int x1, .int p1]) rfl ?_
  have hP : va_P D vwCl [] H := hP
  have hD : va_D A [] := hD
  refine lv_iadd hx hb dX7_isOnOrdinary_96 ?_
  refine lv_topi (fun x2 ex2 => ?_)
  refine lv_iconst (v := 4) hx hb dX7_isOnOrdinary_97 (by decide) ?_
  refine lv_icmp_gt (tgt := 105) hx hb dX7_isOnOrdinary_98 (by decide) (fun c_3 => ?_) (fun c_3 => ?_)
  · have c_3 := (kq_lt (x := 4) (y := x2) (a := 4) (b := x2.toInt) (by decide +kernel) (by rfl)).mp c_3
    refine lv_iconst (v := 0) hx hb dX7_isOnOrdinary_105 (by decide) ?_
    have hP9 := hP.sub (ws' := []) [] rfl
    have hD9 := hD.sub (ws' := []) [] (by decide) rfl
    exact (kq_iret (v := 0) hx hb hr hlocks hS rfl ⟨_, rfl, rfl, rfl⟩ hP9 hD9 (Nat.le_of_ble_eq_true rfl) (Nat.le_of_ble_eq_true rfl) dX7_isOnOrdinary_106)
  · have c_3 := mt (kq_lt (x := 4) (y := x2) (a := 4) (b := x2.toInt) (by decide +kernel) (by rfl)).mpr c_3
    refine lv_iconst (v := 1) hx hb dX7_isOnOrdinary_101 (by decide) ?_
    refine lv_goto (tgt := 106) hx hb dX7_isOnOrdinary_102 (by decide) ?_
    have hP9 := hP.sub (ws' := []) [] rfl
    have hD9 := hD.sub (ws' := []) [] (by decide) rfl
    exact (kq_iret (v := 1) hx hb hr hlocks hS rfl ⟨_, rfl, rfl, rfl⟩ hP9 hD9 (Nat.le_of_ble_eq_true rfl) (Nat.le_of_ble_eq_true rfl) dX7_isOnOrdinary_106)
set_option maxHeartbeats 4000000 in
set_option maxRecDepth 100000 in
theorem c_X7_isFromTo_2 (l : Launch) (hfl : l.stackTraces = false) (D : va_G) (dA : Nat → ClassId) (tE tC : Nat) (p0 : Int32) : Ct l D dA tE tC yX7_isFromTo (Cond.code yX7_isFromTo cX7_isFromTo 3 (some .boolean) :: gW) ({ frames := 0, cells := 0, slots := 0, locals := 0 } : Room) [.int p0, .int 7, .int 8] [] (fun v w1 => (∃ (p9 : Int32), narrow FieldType.boolean (.int p9) = .int p9 ∧ v = some (.int p9) ∧ w1 = [])) 0 0 := by
  refine Ct_of (by decide) (Nat.le_of_ble_eq_true rfl) ?_
  intro p e s m below meth c hx hb hr hml hown hnm hlocks hgw hK A hG hA hP hD ls hl
  have hl : lv_has ls 3 [(0, .int p0), (1, .int 7), (2, .int 8)] := hl
  have hS : va_S A s.heap s.heap [] := va_S.rf
  refine lv_iload_n hx hb dX7_isFromTo_0 rfl (lv_at hl 0 rfl) ?_
  refine lv_iload_n hx hb dX7_isFromTo_1 rfl (lv_at hl 1 rfl) ?_
  refine lv_icmp_lt (tgt := 14) hx hb dX7_isFromTo_2 (by decide) (fun c_1 => ?_) (fun c_1 => ?_)
  · have c_1 := (kq_lt (x := p0) (y := 7) (a := p0.toInt) (b := 7) (by rfl) (by decide +kernel)).mp c_1
    refine lv_iconst (v := 0) hx hb dX7_isFromTo_14 (by decide) ?_
    have hP9 := hP.sub (ws' := []) [] rfl
    have hD9 := hD.sub (ws' := []) [] (by decide) rfl
    exact (kq_iret (v := 0) hx hb hr hlocks hS rfl ⟨_, rfl, rfl, rfl⟩ hP9 hD9 (Nat.le_of_ble_eq_true rfl) (Nat.le_of_ble_eq_true rfl) dX7_isFromTo_15)
  · have c_1 := mt (kq_lt (x := p0) (y := 7) (a := p0.toInt) (b := 7) (by rfl) (by decide +kernel)).mpr c_1
    refine lv_iload_n hx hb dX7_isFromTo_5 rfl (lv_at hl 0 rfl) ?_
    refine lv_iload_n hx hb dX7_isFromTo_6 rfl (lv_at hl 2 rfl) ?_
    refine lv_icmp_gt (tgt := 14) hx hb dX7_isFromTo_7 (by decide) (fun c_2 => ?_) (fun c_2 => ?_)
    · have c_2 := (kq_lt (x := 8) (y := p0) (a := 8) (b := p0.toInt) (by decide +kernel) (by rfl)).mp c_2
      refine lv_iconst (v := 0) hx hb dX7_isFromTo_14 (by decide) ?_
      have hP9 := hP.sub (ws' := []) [] rfl
      have hD9 := hD.sub (ws' := []) [] (by decide) rfl
      exact (kq_iret (v := 0) hx hb hr hlocks hS rfl ⟨_, rfl, rfl, rfl⟩ hP9 hD9 (Nat.le_of_ble_eq_true rfl) (Nat.le_of_ble_eq_true rfl) dX7_isFromTo_15)
    · have c_2 := mt (kq_lt (x := 8) (y := p0) (a := 8) (b := p0.toInt) (by decide +kernel) (by rfl)).mpr c_2
      refine lv_iconst (v := 1) hx hb dX7_isFromTo_10 (by decide) ?_
      refine lv_goto (tgt := 15) hx hb dX7_isFromTo_11 (by decide) ?_
      have hP9 := hP.sub (ws' := []) [] rfl
      have hD9 := hD.sub (ws' := []) [] (by decide) rfl
      exact (kq_iret (v := 1) hx hb hr hlocks hS rfl ⟨_, rfl, rfl, rfl⟩ hP9 hD9 (Nat.le_of_ble_eq_true rfl) (Nat.le_of_ble_eq_true rfl) dX7_isFromTo_15)
set_option maxHeartbeats 4000000 in
set_option maxRecDepth 100000 in
theorem c_X7_isOnOrdinary_4 (l : Launch) (hfl : l.stackTraces = false) (D : va_G) (dA : Nat → ClassId) (tE tC : Nat) (p0 : Int32) (p1 : Int32) : Ct l D dA tE tC yX7_isOnOrdinary (Cond.code yX7_isOnOrdinary cX7_isOnOrdinary 4 (some .boolean) :: gW) ({ frames := 1, cells := 0, slots := 0, locals := 22 } : Room) [.int 25, .int 0, .int p0, .int p1] [] (fun v w1 => (∃ (p9 : Int32), narrow FieldType.boolean (.int p9) = .int p9 ∧ v = some (.int p9) ∧ w1 = [])) 0 0 := by
  refine Ct_of (by decide) (Nat.le_of_ble_eq_true rfl) ?_
  intro p e s m below meth c hx hb hr hml hown hnm hlocks hgw hK A hG hA hP hD ls hl
  have hl : lv_has ls 4 [(0, .int 25), (1, .int 0), (2, .int p0), (3, .int p1)] := hl
  have hS : va_S A s.heap s.heap [] := va_S.rf
  refine lv_iload_n hx hb dX7_isOnOrdinary_0 rfl (lv_at hl 0 rfl) ?_
  refine lv_tableIn (off := 106) (tgt := 107) hx hb dX7_isOnOrdinary_1 (by decide +kernel) (by decide +kernel) (by decide +kernel) (by decide) ?_
  refine lv_iload_n hx hb dX7_isOnOrdinary_107 rfl (lv_at hl 2 rfl) ?_
  refine lv_bipush (v := 7) hx hb dX7_isOnOrdinary_108 (by decide +kernel) ?_
  refine lv_bipush (v := 8) hx hb dX7_isOnOrdinary_110 (by decide +kernel) ?_
  refine kq_S (As := [.int p0, .int 7, .int 8]) (rest := []) (wr := []) hx hb hml hown hgw hK hG hA hP hD hS (c_X7_isFromTo_2 l hfl D dA tE tC p0) m_1_180 m_1_181 m_1_2 m_1_182 hd_X7_isFromTo rfl rfl ⟨(Nat.le_of_ble_eq_true rfl), (Nat.le_of_ble_eq_true rfl)⟩ [] [] rfl rfl rfl rfl (by decide) hl.1 rfl (Nat.le_of_ble_eq_true rfl) dX7_isOnOrdinary_112 ⟨(Nat.le_of_ble_eq_true rfl), (Nat.le_of_ble_eq_true rfl)⟩ (fun v w1 H locs hQ hP hD hS => ?_)
  obtain ⟨x1, nx1, rfl, rfl⟩ := hQ
  refine W.eq (g2 := F0 m 115 ls [.int x1]) rfl ?_
  have hP : va_P D vwCl [] H := hP
  have hD : va_D A [] := hD
  refine lv_if_ne (tgt := 129) hx hb dX7_isOnOrdinary_115 (by decide) (fun c_2 => ?_) (fun c_2 => ?_)
  · have c_2 := mt (kq_eq (x := x1) (y := 0) (a := x1.toInt) (b := 0) (by rfl) (by decide +kernel)).mpr c_2
    refine lv_iconst (v := 1) hx hb dX7_isOnOrdinary_129 (by decide) ?_
    refine lv_goto (tgt := 134) hx hb dX7_isOnOrdinary_130 (by decide) ?_
    have hP9 := hP.sub (ws' := []) [] rfl
    have hD9 := hD.sub (ws' := []) [] (by decide) rfl
    exact (kq_iret (v := 1) hx hb hr hlocks hS rfl ⟨_, rfl, rfl, rfl⟩ hP9 hD9 (Nat.le_of_ble_eq_true rfl) (Nat.le_of_ble_eq_true rfl) dX7_isOnOrdinary_134)
  · have c_2 := (kq_eq (x := x1) (y := 0) (a := x1.toInt) (b := 0) (by rfl) (by decide +kernel)).mp c_2
    refine lv_iload_n hx hb dX7_isOnOrdinary_118 rfl (lv_at hl 3 rfl) ?_
    refine lv_bipush (v := 7) hx hb dX7_isOnOrdinary_119 (by decide +kernel) ?_
    refine lv_bipush (v := 8) hx hb dX7_isOnOrdinary_121 (by decide +kernel) ?_
    refine kq_S (As := [.int p1, .int 7, .int 8]) (rest := []) (wr := []) hx hb hml hown hgw hK hG hA hP hD hS (c_X7_isFromTo_2 l hfl D dA tE tC p1) m_1_180 m_1_181 m_1_2 m_1_182 hd_X7_isFromTo rfl rfl ⟨(Nat.le_of_ble_eq_true rfl), (Nat.le_of_ble_eq_true rfl)⟩ [] [] rfl rfl rfl rfl (by decide) hl.1 rfl (Nat.le_of_ble_eq_true rfl) dX7_isOnOrdinary_123 ⟨(Nat.le_of_ble_eq_true rfl), (Nat.le_of_ble_eq_true rfl)⟩ (fun v w1 H locs hQ hP hD hS => ?_)
    obtain ⟨x3, nx3, rfl, rfl⟩ := hQ
    refine W.eq (g2 := F0 m 126 ls [.int x3]) rfl ?_
    have hP : va_P D vwCl [] H := hP
    have hD : va_D A [] := hD
    refine lv_if_eq (tgt := 133) hx hb dX7_isOnOrdinary_126 (by decide) (fun c_4 => ?_) (fun c_4 => ?_)
    · have c_4 := (kq_eq (x := x3) (y := 0) (a := x3.toInt) (b := 0) (by rfl) (by decide +kernel)).mp c_4
      refine lv_iconst (v := 0) hx hb dX7_isOnOrdinary_133 (by decide) ?_
      have hP9 := hP.sub (ws' := []) [] rfl
      have hD9 := hD.sub (ws' := []) [] (by decide) rfl
      exact (kq_iret (v := 0) hx hb hr hlocks hS rfl ⟨_, rfl, rfl, rfl⟩ hP9 hD9 (Nat.le_of_ble_eq_true rfl) (Nat.le_of_ble_eq_true rfl) dX7_isOnOrdinary_134)
    · have c_4 := mt (kq_eq (x := x3) (y := 0) (a := x3.toInt) (b := 0) (by rfl) (by decide +kernel)).mpr c_4
      refine lv_iconst (v := 1) hx hb dX7_isOnOrdinary_129 (by decide) ?_
      refine lv_goto (tgt := 134) hx hb dX7_isOnOrdinary_130 (by decide) ?_
      have hP9 := hP.sub (ws' := []) [] rfl
      have hD9 := hD.sub (ws' := []) [] (by decide) rfl
      exact (kq_iret (v := 1) hx hb hr hlocks hS rfl ⟨_, rfl, rfl, rfl⟩ hP9 hD9 (Nat.le_of_ble_eq_true rfl) (Nat.le_of_ble_eq_true rfl) dX7_isOnOrdinary_134)
set_option maxHeartbeats 4000000 in
set_option maxRecDepth 100000 in
theorem c_X7_isFromTo_3 (l : Launch) (hfl : l.stackTraces = false) (D : va_G) (dA : Nat → ClassId) (tE tC : Nat) (p0 : Int32) : Ct l D dA tE tC yX7_isFromTo (Cond.code yX7_isFromTo cX7_isFromTo 3 (some .boolean) :: gW) ({ frames := 0, cells := 0, slots := 0, locals := 0 } : Room) [.int p0, .int (-1), .int 1] [] (fun v w1 => (∃ (p9 : Int32), narrow FieldType.boolean (.int p9) = .int p9 ∧ v = some (.int p9) ∧ w1 = [])) 0 0 := by
  refine Ct_of (by decide) (Nat.le_of_ble_eq_true rfl) ?_
  intro p e s m below meth c hx hb hr hml hown hnm hlocks hgw hK A hG hA hP hD ls hl
  have hl : lv_has ls 3 [(0, .int p0), (1, .int (-1)), (2, .int 1)] := hl
  have hS : va_S A s.heap s.heap [] := va_S.rf
  refine lv_iload_n hx hb dX7_isFromTo_0 rfl (lv_at hl 0 rfl) ?_
  refine lv_iload_n hx hb dX7_isFromTo_1 rfl (lv_at hl 1 rfl) ?_
  refine lv_icmp_lt (tgt := 14) hx hb dX7_isFromTo_2 (by decide) (fun c_1 => ?_) (fun c_1 => ?_)
  · have c_1 := (kq_lt (x := p0) (y := (-1)) (a := p0.toInt) (b := (-1)) (by rfl) (by decide +kernel)).mp c_1
    refine lv_iconst (v := 0) hx hb dX7_isFromTo_14 (by decide) ?_
    have hP9 := hP.sub (ws' := []) [] rfl
    have hD9 := hD.sub (ws' := []) [] (by decide) rfl
    exact (kq_iret (v := 0) hx hb hr hlocks hS rfl ⟨_, rfl, rfl, rfl⟩ hP9 hD9 (Nat.le_of_ble_eq_true rfl) (Nat.le_of_ble_eq_true rfl) dX7_isFromTo_15)
  · have c_1 := mt (kq_lt (x := p0) (y := (-1)) (a := p0.toInt) (b := (-1)) (by rfl) (by decide +kernel)).mpr c_1
    refine lv_iload_n hx hb dX7_isFromTo_5 rfl (lv_at hl 0 rfl) ?_
    refine lv_iload_n hx hb dX7_isFromTo_6 rfl (lv_at hl 2 rfl) ?_
    refine lv_icmp_gt (tgt := 14) hx hb dX7_isFromTo_7 (by decide) (fun c_2 => ?_) (fun c_2 => ?_)
    · have c_2 := (kq_lt (x := 1) (y := p0) (a := 1) (b := p0.toInt) (by decide +kernel) (by rfl)).mp c_2
      refine lv_iconst (v := 0) hx hb dX7_isFromTo_14 (by decide) ?_
      have hP9 := hP.sub (ws' := []) [] rfl
      have hD9 := hD.sub (ws' := []) [] (by decide) rfl
      exact (kq_iret (v := 0) hx hb hr hlocks hS rfl ⟨_, rfl, rfl, rfl⟩ hP9 hD9 (Nat.le_of_ble_eq_true rfl) (Nat.le_of_ble_eq_true rfl) dX7_isFromTo_15)
    · have c_2 := mt (kq_lt (x := 1) (y := p0) (a := 1) (b := p0.toInt) (by decide +kernel) (by rfl)).mpr c_2
      refine lv_iconst (v := 1) hx hb dX7_isFromTo_10 (by decide) ?_
      refine lv_goto (tgt := 15) hx hb dX7_isFromTo_11 (by decide) ?_
      have hP9 := hP.sub (ws' := []) [] rfl
      have hD9 := hD.sub (ws' := []) [] (by decide) rfl
      exact (kq_iret (v := 1) hx hb hr hlocks hS rfl ⟨_, rfl, rfl, rfl⟩ hP9 hD9 (Nat.le_of_ble_eq_true rfl) (Nat.le_of_ble_eq_true rfl) dX7_isFromTo_15)
set_option maxHeartbeats 4000000 in
set_option maxRecDepth 100000 in
theorem c_X7_isOnOrdinary_5 (l : Launch) (hfl : l.stackTraces = false) (D : va_G) (dA : Nat → ClassId) (tE tC : Nat) (p0 : Int32) (p1 : Int32) : Ct l D dA tE tC yX7_isOnOrdinary (Cond.code yX7_isOnOrdinary cX7_isOnOrdinary 4 (some .boolean) :: gW) ({ frames := 1, cells := 0, slots := 0, locals := 22 } : Room) [.int 26, .int 0, .int p0, .int p1] [] (fun v w1 => (∃ (p9 : Int32), narrow FieldType.boolean (.int p9) = .int p9 ∧ v = some (.int p9) ∧ w1 = [])) 0 0 := by
  refine Ct_of (by decide) (Nat.le_of_ble_eq_true rfl) ?_
  intro p e s m below meth c hx hb hr hml hown hnm hlocks hgw hK A hG hA hP hD ls hl
  have hl : lv_has ls 4 [(0, .int 26), (1, .int 0), (2, .int p0), (3, .int p1)] := hl
  have hS : va_S A s.heap s.heap [] := va_S.rf
  refine lv_iload_n hx hb dX7_isOnOrdinary_0 rfl (lv_at hl 0 rfl) ?_
  refine lv_tableIn (off := 134) (tgt := 135) hx hb dX7_isOnOrdinary_1 (by decide +kernel) (by decide +kernel) (by decide +kernel) (by decide) ?_
  refine lv_iload_n hx hb dX7_isOnOrdinary_135 rfl (lv_at hl 2 rfl) ?_
  refine lv_iload_n hx hb dX7_isOnOrdinary_136 rfl (lv_at hl 3 rfl) ?_
  refine lv_isub hx hb dX7_isOnOrdinary_137 ?_
  refine lv_topi (fun x1 ex1 => ?_)
  refine lv_iconst (v := (-1)) hx hb dX7_isOnOrdinary_138 (by decide) ?_
  refine lv_iconst (v := 1) hx hb dX7_isOnOrdinary_139 (by decide) ?_
  refine kq_S (As := [.int x1, .int (-1), .int 1]) (rest := []) (wr := []) hx hb hml hown hgw hK hG hA hP hD hS (c_X7_isFromTo_3 l hfl D dA tE tC x1) m_1_180 m_1_181 m_1_2 m_1_182 hd_X7_isFromTo rfl rfl ⟨(Nat.le_of_ble_eq_true rfl), (Nat.le_of_ble_eq_true rfl)⟩ [] [] rfl rfl rfl rfl (by decide) hl.1 rfl (Nat.le_of_ble_eq_true rfl) dX7_isOnOrdinary_140 ⟨(Nat.le_of_ble_eq_true rfl), (Nat.le_of_ble_eq_true rfl)⟩ (fun v w1 H locs hQ hP hD hS => ?_)
  obtain ⟨x2, nx2, rfl, rfl⟩ := hQ
  refine W.eq (g2 := F0 m 143 ls [.int x2]) rfl ?_
  have hP : va_P D vwCl [] H := hP
  have hD : va_D A [] := hD
  refine lv_if_ne (tgt := 160) hx hb dX7_isOnOrdinary_143 (by decide) (fun c_3 => ?_) (fun c_3 => ?_)
  · have c_3 := mt (kq_eq (x := x2) (y := 0) (a := x2.toInt) (b := 0) (by rfl) (by decide +kernel)).mpr c_3
    refine lv_iconst (v := 1) hx hb dX7_isOnOrdinary_160 (by decide) ?_
    refine lv_goto (tgt := 165) hx hb dX7_isOnOrdinary_161 (by decide) ?_
    have hP9 := hP.sub (ws' := []) [] rfl
    have hD9 := hD.sub (ws' := []) [] (by decide) rfl
    exact (kq_iret (v := 1) hx hb hr hlocks hS rfl ⟨_, rfl, rfl, rfl⟩ hP9 hD9 (Nat.le_of_ble_eq_true rfl) (Nat.le_of_ble_eq_true rfl) dX7_isOnOrdinary_165)
  · have c_3 := (kq_eq (x := x2) (y := 0) (a := x2.toInt) (b := 0) (by rfl) (by decide +kernel)).mp c_3
    refine lv_iload_n hx hb dX7_isOnOrdinary_146 rfl (lv_at hl 2 rfl) ?_
    refine lv_iload_n hx hb dX7_isOnOrdinary_147 rfl (lv_at hl 3 rfl) ?_
    refine lv_iadd hx hb dX7_isOnOrdinary_148 ?_
    refine lv_topi (fun x4 ex4 => ?_)
    refine lv_bipush (v := 15) hx hb dX7_isOnOrdinary_149 (by decide +kernel) ?_
    refine lv_isub hx hb dX7_isOnOrdinary_151 ?_
    refine lv_topi (fun x5 ex5 => ?_)
    refine lv_iconst (v := (-1)) hx hb dX7_isOnOrdinary_152 (by decide) ?_
    refine lv_iconst (v := 1) hx hb dX7_isOnOrdinary_153 (by decide) ?_
    refine kq_S (As := [.int x5, .int (-1), .int 1]) (rest := []) (wr := []) hx hb hml hown hgw hK hG hA hP hD hS (c_X7_isFromTo_3 l hfl D dA tE tC x5) m_1_180 m_1_181 m_1_2 m_1_182 hd_X7_isFromTo rfl rfl ⟨(Nat.le_of_ble_eq_true rfl), (Nat.le_of_ble_eq_true rfl)⟩ [] [] rfl rfl rfl rfl (by decide) hl.1 rfl (Nat.le_of_ble_eq_true rfl) dX7_isOnOrdinary_154 ⟨(Nat.le_of_ble_eq_true rfl), (Nat.le_of_ble_eq_true rfl)⟩ (fun v w1 H locs hQ hP hD hS => ?_)
    obtain ⟨x6, nx6, rfl, rfl⟩ := hQ
    refine W.eq (g2 := F0 m 157 ls [.int x6]) rfl ?_
    have hP : va_P D vwCl [] H := hP
    have hD : va_D A [] := hD
    refine lv_if_eq (tgt := 164) hx hb dX7_isOnOrdinary_157 (by decide) (fun c_7 => ?_) (fun c_7 => ?_)
    · have c_7 := (kq_eq (x := x6) (y := 0) (a := x6.toInt) (b := 0) (by rfl) (by decide +kernel)).mp c_7
      refine lv_iconst (v := 0) hx hb dX7_isOnOrdinary_164 (by decide) ?_
      have hP9 := hP.sub (ws' := []) [] rfl
      have hD9 := hD.sub (ws' := []) [] (by decide) rfl
      exact (kq_iret (v := 0) hx hb hr hlocks hS rfl ⟨_, rfl, rfl, rfl⟩ hP9 hD9 (Nat.le_of_ble_eq_true rfl) (Nat.le_of_ble_eq_true rfl) dX7_isOnOrdinary_165)
    · have c_7 := mt (kq_eq (x := x6) (y := 0) (a := x6.toInt) (b := 0) (by rfl) (by decide +kernel)).mpr c_7
      refine lv_iconst (v := 1) hx hb dX7_isOnOrdinary_160 (by decide) ?_
      refine lv_goto (tgt := 165) hx hb dX7_isOnOrdinary_161 (by decide) ?_
      have hP9 := hP.sub (ws' := []) [] rfl
      have hD9 := hD.sub (ws' := []) [] (by decide) rfl
      exact (kq_iret (v := 1) hx hb hr hlocks hS rfl ⟨_, rfl, rfl, rfl⟩ hP9 hD9 (Nat.le_of_ble_eq_true rfl) (Nat.le_of_ble_eq_true rfl) dX7_isOnOrdinary_165)
set_option maxHeartbeats 4000000 in
set_option maxRecDepth 100000 in
theorem c_X7_isFromTo_4 (l : Launch) (hfl : l.stackTraces = false) (D : va_G) (dA : Nat → ClassId) (tE tC : Nat) (p0 : Int32) : Ct l D dA tE tC yX7_isFromTo (Cond.code yX7_isFromTo cX7_isFromTo 3 (some .boolean) :: gW) ({ frames := 0, cells := 0, slots := 0, locals := 0 } : Room) [.int p0, .int 3, .int 6] [] (fun v w1 => (∃ (p9 : Int32), narrow FieldType.boolean (.int p9) = .int p9 ∧ v = some (.int p9) ∧ w1 = [])) 0 0 := by
  refine Ct_of (by decide) (Nat.le_of_ble_eq_true rfl) ?_
  intro p e s m below meth c hx hb hr hml hown hnm hlocks hgw hK A hG hA hP hD ls hl
  have hl : lv_has ls 3 [(0, .int p0), (1, .int 3), (2, .int 6)] := hl
  have hS : va_S A s.heap s.heap [] := va_S.rf
  refine lv_iload_n hx hb dX7_isFromTo_0 rfl (lv_at hl 0 rfl) ?_
  refine lv_iload_n hx hb dX7_isFromTo_1 rfl (lv_at hl 1 rfl) ?_
  refine lv_icmp_lt (tgt := 14) hx hb dX7_isFromTo_2 (by decide) (fun c_1 => ?_) (fun c_1 => ?_)
  · have c_1 := (kq_lt (x := p0) (y := 3) (a := p0.toInt) (b := 3) (by rfl) (by decide +kernel)).mp c_1
    refine lv_iconst (v := 0) hx hb dX7_isFromTo_14 (by decide) ?_
    have hP9 := hP.sub (ws' := []) [] rfl
    have hD9 := hD.sub (ws' := []) [] (by decide) rfl
    exact (kq_iret (v := 0) hx hb hr hlocks hS rfl ⟨_, rfl, rfl, rfl⟩ hP9 hD9 (Nat.le_of_ble_eq_true rfl) (Nat.le_of_ble_eq_true rfl) dX7_isFromTo_15)
  · have c_1 := mt (kq_lt (x := p0) (y := 3) (a := p0.toInt) (b := 3) (by rfl) (by decide +kernel)).mpr c_1
    refine lv_iload_n hx hb dX7_isFromTo_5 rfl (lv_at hl 0 rfl) ?_
    refine lv_iload_n hx hb dX7_isFromTo_6 rfl (lv_at hl 2 rfl) ?_
    refine lv_icmp_gt (tgt := 14) hx hb dX7_isFromTo_7 (by decide) (fun c_2 => ?_) (fun c_2 => ?_)
    · have c_2 := (kq_lt (x := 6) (y := p0) (a := 6) (b := p0.toInt) (by decide +kernel) (by rfl)).mp c_2
      refine lv_iconst (v := 0) hx hb dX7_isFromTo_14 (by decide) ?_
      have hP9 := hP.sub (ws' := []) [] rfl
      have hD9 := hD.sub (ws' := []) [] (by decide) rfl
      exact (kq_iret (v := 0) hx hb hr hlocks hS rfl ⟨_, rfl, rfl, rfl⟩ hP9 hD9 (Nat.le_of_ble_eq_true rfl) (Nat.le_of_ble_eq_true rfl) dX7_isFromTo_15)
    · have c_2 := mt (kq_lt (x := 6) (y := p0) (a := 6) (b := p0.toInt) (by decide +kernel) (by rfl)).mpr c_2
      refine lv_iconst (v := 1) hx hb dX7_isFromTo_10 (by decide) ?_
      refine lv_goto (tgt := 15) hx hb dX7_isFromTo_11 (by decide) ?_
      have hP9 := hP.sub (ws' := []) [] rfl
      have hD9 := hD.sub (ws' := []) [] (by decide) rfl
      exact (kq_iret (v := 1) hx hb hr hlocks hS rfl ⟨_, rfl, rfl, rfl⟩ hP9 hD9 (Nat.le_of_ble_eq_true rfl) (Nat.le_of_ble_eq_true rfl) dX7_isFromTo_15)
set_option maxHeartbeats 4000000 in
set_option maxRecDepth 100000 in
theorem c_X7_isOnOrdinary_6 (l : Launch) (hfl : l.stackTraces = false) (D : va_G) (dA : Nat → ClassId) (tE tC : Nat) (p0 : Int32) (p1 : Int32) : Ct l D dA tE tC yX7_isOnOrdinary (Cond.code yX7_isOnOrdinary cX7_isOnOrdinary 4 (some .boolean) :: gW) ({ frames := 1, cells := 0, slots := 0, locals := 22 } : Room) [.int 27, .int 0, .int p0, .int p1] [] (fun v w1 => (∃ (p9 : Int32), narrow FieldType.boolean (.int p9) = .int p9 ∧ v = some (.int p9) ∧ w1 = [])) 0 0 := by
  refine Ct_of (by decide) (Nat.le_of_ble_eq_true rfl) ?_
  intro p e s m below meth c hx hb hr hml hown hnm hlocks hgw hK A hG hA hP hD ls hl
  have hl : lv_has ls 4 [(0, .int 27), (1, .int 0), (2, .int p0), (3, .int p1)] := hl
  have hS : va_S A s.heap s.heap [] := va_S.rf
  refine lv_iload_n hx hb dX7_isOnOrdinary_0 rfl (lv_at hl 0 rfl) ?_
  refine lv_tableIn (off := 165) (tgt := 166) hx hb dX7_isOnOrdinary_1 (by decide +kernel) (by decide +kernel) (by decide +kernel) (by decide) ?_
  refine lv_iload_n hx hb dX7_isOnOrdinary_166 rfl (lv_at hl 3 rfl) ?_
  refine lv_iload_n hx hb dX7_isOnOrdinary_167 rfl (lv_at hl 1 rfl) ?_
  refine lv_iload_n hx hb dX7_isOnOrdinary_168 rfl (lv_at hl 2 rfl) ?_
  refine kq_S (As := [.int 0, .int p0]) (rest := [.int p1]) (wr := []) hx hb hml hown hgw hK hG hA hP hD hS (c_X7_shift l hfl D dA tE tC p0) m_1_171 m_1_172 m_1_2 m_1_173 hd_X7_shift rfl rfl ⟨(Nat.le_of_ble_eq_true rfl), (Nat.le_of_ble_eq_true rfl)⟩ [] [] rfl rfl rfl rfl (by decide) hl.1 rfl (Nat.le_of_ble_eq_true rfl) dX7_isOnOrdinary_169 ⟨(Nat.le_of_ble_eq_true rfl), (Nat.le_of_ble_eq_true rfl)⟩ (fun v w1 H locs hQ hP hD hS => ?_)
  obtain ⟨x1, rfl, rfl⟩ := hQ
  refine W.eq (g2 := F0 m 172 ls [.int x1, .int p1]) rfl ?_
  have hP : va_P D vwCl [] H := hP
  have hD : va_D A [] := hD
  refine lv_iadd hx hb dX7_isOnOrdinary_172 ?_
  refine lv_topi (fun x2 ex2 => ?_)
  refine lv_iconst (v := 2) hx hb dX7_isOnOrdinary_173 (by decide) ?_
  refine lv_iload_n hx hb dX7_isOnOrdinary_174 rfl (lv_at hl 2 rfl) ?_
  refine lv_imul hx hb dX7_isOnOrdinary_175 ?_
  refine lv_topi (fun x3 ex3 => ?_)
  refine lv_bipush (v := 15) hx hb dX7_isOnOrdinary_176 (by decide +kernel) ?_
  refine lv_isub hx hb dX7_isOnOrdinary_178 ?_
  refine lv_topi (fun x4 ex4 => ?_)
  refine va_mabs hx hb (hml.trans hl.1.symm) hown (hgw _ mM_1_174) (hgw _ mM_1_175) (hgw _ m_1_5) (hgw _ mM_1_176) (Nat.le_of_ble_eq_true rfl) (Nat.le_of_ble_eq_true rfl) (Nat.le_of_ble_eq_true rfl) (Nat.le_of_ble_eq_true rfl) dX7_isOnOrdinary_179 ?_
  refine lv_topi (fun x5 ex5 => ?_)
  refine lv_iconst (v := 2) hx hb dX7_isOnOrdinary_182 (by decide) ?_
  refine lv_idiv hx hb dX7_isOnOrdinary_183 (by decide) ?_
  refine lv_topi (fun x6 ex6 => ?_)
  refine lv_isub hx hb dX7_isOnOrdinary_184 ?_
  refine lv_topi (fun x7 ex7 => ?_)
  refine lv_iconst (v := 3) hx hb dX7_isOnOrdinary_185 (by decide) ?_
  refine lv_bipush (v := 6) hx hb dX7_isOnOrdinary_186 (by decide +kernel) ?_
  refine kq_S (As := [.int x7, .int 3, .int 6]) (rest := []) (wr := []) hx hb hml hown hgw hK hG hA hP hD hS (c_X7_isFromTo_4 l hfl D dA tE tC x7) m_1_180 m_1_181 m_1_2 m_1_182 hd_X7_isFromTo rfl rfl ⟨(Nat.le_of_ble_eq_true rfl), (Nat.le_of_ble_eq_true rfl)⟩ [] [] rfl rfl rfl rfl (by decide) hl.1 rfl (Nat.le_of_ble_eq_true rfl) dX7_isOnOrdinary_188 ⟨(Nat.le_of_ble_eq_true rfl), (Nat.le_of_ble_eq_true rfl)⟩ (fun v w1 H locs hQ hP hD hS => ?_)
  obtain ⟨x8, nx8, rfl, rfl⟩ := hQ
  refine W.eq (g2 := F0 m 191 ls [.int x8]) rfl ?_
  have hP : va_P D vwCl [] H := hP
  have hD : va_D A [] := hD
  have hP9 := hP.sub (ws' := []) [] rfl
  have hD9 := hD.sub (ws' := []) [] (by decide) rfl
  exact (kq_iret (v := x8) hx hb hr hlocks hS nx8 ⟨_, nx8, rfl, rfl⟩ hP9 hD9 (Nat.le_of_ble_eq_true rfl) (Nat.le_of_ble_eq_true rfl) dX7_isOnOrdinary_191)
set_option maxHeartbeats 4000000 in
set_option maxRecDepth 100000 in
theorem c_X7_isFromTo_5 (l : Launch) (hfl : l.stackTraces = false) (D : va_G) (dA : Nat → ClassId) (tE tC : Nat) (p0 : Int32) : Ct l D dA tE tC yX7_isFromTo (Cond.code yX7_isFromTo cX7_isFromTo 3 (some .boolean) :: gW) ({ frames := 0, cells := 0, slots := 0, locals := 0 } : Room) [.int p0, .int 2, .int 13] [] (fun v w1 => (∃ (p9 : Int32), narrow FieldType.boolean (.int p9) = .int p9 ∧ v = some (.int p9) ∧ w1 = [])) 0 0 := by
  refine Ct_of (by decide) (Nat.le_of_ble_eq_true rfl) ?_
  intro p e s m below meth c hx hb hr hml hown hnm hlocks hgw hK A hG hA hP hD ls hl
  have hl : lv_has ls 3 [(0, .int p0), (1, .int 2), (2, .int 13)] := hl
  have hS : va_S A s.heap s.heap [] := va_S.rf
  refine lv_iload_n hx hb dX7_isFromTo_0 rfl (lv_at hl 0 rfl) ?_
  refine lv_iload_n hx hb dX7_isFromTo_1 rfl (lv_at hl 1 rfl) ?_
  refine lv_icmp_lt (tgt := 14) hx hb dX7_isFromTo_2 (by decide) (fun c_1 => ?_) (fun c_1 => ?_)
  · have c_1 := (kq_lt (x := p0) (y := 2) (a := p0.toInt) (b := 2) (by rfl) (by decide +kernel)).mp c_1
    refine lv_iconst (v := 0) hx hb dX7_isFromTo_14 (by decide) ?_
    have hP9 := hP.sub (ws' := []) [] rfl
    have hD9 := hD.sub (ws' := []) [] (by decide) rfl
    exact (kq_iret (v := 0) hx hb hr hlocks hS rfl ⟨_, rfl, rfl, rfl⟩ hP9 hD9 (Nat.le_of_ble_eq_true rfl) (Nat.le_of_ble_eq_true rfl) dX7_isFromTo_15)
  · have c_1 := mt (kq_lt (x := p0) (y := 2) (a := p0.toInt) (b := 2) (by rfl) (by decide +kernel)).mpr c_1
    refine lv_iload_n hx hb dX7_isFromTo_5 rfl (lv_at hl 0 rfl) ?_
    refine lv_iload_n hx hb dX7_isFromTo_6 rfl (lv_at hl 2 rfl) ?_
    refine lv_icmp_gt (tgt := 14) hx hb dX7_isFromTo_7 (by decide) (fun c_2 => ?_) (fun c_2 => ?_)
    · have c_2 := (kq_lt (x := 13) (y := p0) (a := 13) (b := p0.toInt) (by decide +kernel) (by rfl)).mp c_2
      refine lv_iconst (v := 0) hx hb dX7_isFromTo_14 (by decide) ?_
      have hP9 := hP.sub (ws' := []) [] rfl
      have hD9 := hD.sub (ws' := []) [] (by decide) rfl
      exact (kq_iret (v := 0) hx hb hr hlocks hS rfl ⟨_, rfl, rfl, rfl⟩ hP9 hD9 (Nat.le_of_ble_eq_true rfl) (Nat.le_of_ble_eq_true rfl) dX7_isFromTo_15)
    · have c_2 := mt (kq_lt (x := 13) (y := p0) (a := 13) (b := p0.toInt) (by decide +kernel) (by rfl)).mpr c_2
      refine lv_iconst (v := 1) hx hb dX7_isFromTo_10 (by decide) ?_
      refine lv_goto (tgt := 15) hx hb dX7_isFromTo_11 (by decide) ?_
      have hP9 := hP.sub (ws' := []) [] rfl
      have hD9 := hD.sub (ws' := []) [] (by decide) rfl
      exact (kq_iret (v := 1) hx hb hr hlocks hS rfl ⟨_, rfl, rfl, rfl⟩ hP9 hD9 (Nat.le_of_ble_eq_true rfl) (Nat.le_of_ble_eq_true rfl) dX7_isFromTo_15)
set_option maxHeartbeats 4000000 in
set_option maxRecDepth 100000 in
theorem c_X7_isOnOrdinary_7 (l : Launch) (hfl : l.stackTraces = false) (D : va_G) (dA : Nat → ClassId) (tE tC : Nat) (p0 : Int32) (p1 : Int32) : Ct l D dA tE tC yX7_isOnOrdinary (Cond.code yX7_isOnOrdinary cX7_isOnOrdinary 4 (some .boolean) :: gW) ({ frames := 1, cells := 0, slots := 0, locals := 22 } : Room) [.int 28, .int 0, .int p0, .int p1] [] (fun v w1 => (∃ (p9 : Int32), narrow FieldType.boolean (.int p9) = .int p9 ∧ v = some (.int p9) ∧ w1 = [])) 0 0 := by
  refine Ct_of (by decide) (Nat.le_of_ble_eq_true rfl) ?_
  intro p e s m below meth c hx hb hr hml hown hnm hlocks hgw hK A hG hA hP hD ls hl
  have hl : lv_has ls 4 [(0, .int 28), (1, .int 0), (2, .int p0), (3, .int p1)] := hl
  have hS : va_S A s.heap s.heap [] := va_S.rf
  refine lv_iload_n hx hb dX7_isOnOrdinary_0 rfl (lv_at hl 0 rfl) ?_
  refine lv_tableOut (tgt := 192) hx hb dX7_isOnOrdinary_1 (by decide +kernel) (by decide) ?_
  refine lv_iload_n hx hb dX7_isOnOrdinary_192 rfl (lv_at hl 2 rfl) ?_
  refine lv_iconst (v := 2) hx hb dX7_isOnOrdinary_193 (by decide) ?_
  refine lv_bipush (v := 13) hx hb dX7_isOnOrdinary_194 (by decide +kernel) ?_
  refine kq_S (As := [.int p0, .int 2, .int 13]) (rest := []) (wr := []) hx hb hml hown hgw hK hG hA hP hD hS (c_X7_isFromTo_5 l hfl D dA tE tC p0) m_1_180 m_1_181 m_1_2 m_1_182 hd_X7_isFromTo rfl rfl ⟨(Nat.le_of_ble_eq_true rfl), (Nat.le_of_ble_eq_true rfl)⟩ [] [] rfl rfl rfl rfl (by decide) hl.1 rfl (Nat.le_of_ble_eq_true rfl) dX7_isOnOrdinary_196 ⟨(Nat.le_of_ble_eq_true rfl), (Nat.le_of_ble_eq_true rfl)⟩ (fun v w1 H locs hQ hP hD hS => ?_)
  obtain ⟨x1, nx1, rfl, rfl⟩ := hQ
  refine W.eq (g2 := F0 m 199 ls [.int x1]) rfl ?_
  have hP : va_P D vwCl [] H := hP
  have hD : va_D A [] := hD
  refine lv_if_eq (tgt := 212) hx hb dX7_isOnOrdinary_199 (by decide) (fun c_2 => ?_) (fun c_2 => ?_)
  · have c_2 := (kq_eq (x := x1) (y := 0) (a := x1.toInt) (b := 0) (by rfl) (by decide +kernel)).mp c_2
    refine lv_iconst (v := 1) hx hb dX7_isOnOrdinary_212 (by decide) ?_
    refine lv_goto (tgt := 217) hx hb dX7_isOnOrdinary_213 (by decide) ?_
    have hP9 := hP.sub (ws' := []) [] rfl
    have hD9 := hD.sub (ws' := []) [] (by decide) rfl
    exact (kq_iret (v := 1) hx hb hr hlocks hS rfl ⟨_, rfl, rfl, rfl⟩ hP9 hD9 (Nat.le_of_ble_eq_true rfl) (Nat.le_of_ble_eq_true rfl) dX7_isOnOrdinary_217)
  · have c_2 := mt (kq_eq (x := x1) (y := 0) (a := x1.toInt) (b := 0) (by rfl) (by decide +kernel)).mpr c_2
    refine lv_iload_n hx hb dX7_isOnOrdinary_202 rfl (lv_at hl 3 rfl) ?_
    refine lv_iconst (v := 2) hx hb dX7_isOnOrdinary_203 (by decide) ?_
    refine lv_bipush (v := 13) hx hb dX7_isOnOrdinary_204 (by decide +kernel) ?_
    refine kq_S (As := [.int p1, .int 2, .int 13]) (rest := []) (wr := []) hx hb hml hown hgw hK hG hA hP hD hS (c_X7_isFromTo_5 l hfl D dA tE tC p1) m_1_180 m_1_181 m_1_2 m_1_182 hd_X7_isFromTo rfl rfl ⟨(Nat.le_of_ble_eq_true rfl), (Nat.le_of_ble_eq_true rfl)⟩ [] [] rfl rfl rfl rfl (by decide) hl.1 rfl (Nat.le_of_ble_eq_true rfl) dX7_isOnOrdinary_206 ⟨(Nat.le_of_ble_eq_true rfl), (Nat.le_of_ble_eq_true rfl)⟩ (fun v w1 H locs hQ hP hD hS => ?_)
    obtain ⟨x3, nx3, rfl, rfl⟩ := hQ
    refine W.eq (g2 := F0 m 209 ls [.int x3]) rfl ?_
    have hP : va_P D vwCl [] H := hP
    have hD : va_D A [] := hD
    refine lv_if_ne (tgt := 216) hx hb dX7_isOnOrdinary_209 (by decide) (fun c_4 => ?_) (fun c_4 => ?_)
    · have c_4 := mt (kq_eq (x := x3) (y := 0) (a := x3.toInt) (b := 0) (by rfl) (by decide +kernel)).mpr c_4
      refine lv_iconst (v := 0) hx hb dX7_isOnOrdinary_216 (by decide) ?_
      have hP9 := hP.sub (ws' := []) [] rfl
      have hD9 := hD.sub (ws' := []) [] (by decide) rfl
      exact (kq_iret (v := 0) hx hb hr hlocks hS rfl ⟨_, rfl, rfl, rfl⟩ hP9 hD9 (Nat.le_of_ble_eq_true rfl) (Nat.le_of_ble_eq_true rfl) dX7_isOnOrdinary_217)
    · have c_4 := (kq_eq (x := x3) (y := 0) (a := x3.toInt) (b := 0) (by rfl) (by decide +kernel)).mp c_4
      refine lv_iconst (v := 1) hx hb dX7_isOnOrdinary_212 (by decide) ?_
      refine lv_goto (tgt := 217) hx hb dX7_isOnOrdinary_213 (by decide) ?_
      have hP9 := hP.sub (ws' := []) [] rfl
      have hD9 := hD.sub (ws' := []) [] (by decide) rfl
      exact (kq_iret (v := 1) hx hb hr hlocks hS rfl ⟨_, rfl, rfl, rfl⟩ hP9 hD9 (Nat.le_of_ble_eq_true rfl) (Nat.le_of_ble_eq_true rfl) dX7_isOnOrdinary_217)
set_option maxHeartbeats 4000000 in
set_option maxRecDepth 100000 in
theorem c_X7_shift_1 (l : Launch) (hfl : l.stackTraces = false) (D : va_G) (dA : Nat → ClassId) (tE tC : Nat) (p0 : Int32) : Ct l D dA tE tC yX7_shift (Cond.code yX7_shift cX7_shift 2 (some .int) :: gW) ({ frames := 0, cells := 0, slots := 0, locals := 0 } : Room) [.int 1, .int p0] [] (fun v w1 => (∃ (p9 : Int32), v = some (.int p9) ∧ w1 = [])) 0 0 := by
  refine Ct_of (by decide) (Nat.le_of_ble_eq_true rfl) ?_
  intro p e s m below meth c hx hb hr hml hown hnm hlocks hgw hK A hG hA hP hD ls hl
  have hl : lv_has ls 2 [(0, .int 1), (1, .int p0)] := hl
  have hS : va_S A s.heap s.heap [] := va_S.rf
  refine lv_iload_n hx hb dX7_shift_0 rfl (lv_at hl 1 rfl) ?_
  refine lv_iconst (v := 4) hx hb dX7_shift_1 (by decide) ?_
  refine lv_irem hx hb dX7_shift_2 (by decide) ?_
  refine lv_topi (fun x1 ex1 => ?_)
  refine lv_iconst (v := 2) hx hb dX7_shift_3 (by decide) ?_
  refine lv_icmp_lt (tgt := 11) hx hb dX7_shift_4 (by decide) (fun c_2 => ?_) (fun c_2 => ?_)
  · have c_2 := (kq_lt (x := x1) (y := 2) (a := x1.toInt) (b := 2) (by rfl) (by decide +kernel)).mp c_2
    refine lv_iconst (v := 0) hx hb dX7_shift_11 (by decide) ?_
    have hP9 := hP.sub (ws' := []) [] rfl
    have hD9 := hD.sub (ws' := []) [] (by decide) rfl
    exact (kq_iret (v := 0) hx hb hr hlocks hS rfl ⟨_, rfl, rfl⟩ hP9 hD9 (Nat.le_of_ble_eq_true rfl) (Nat.le_of_ble_eq_true rfl) dX7_shift_12)
  · have c_2 := mt (kq_lt (x := x1) (y := 2) (a := x1.toInt) (b := 2) (by rfl) (by decide +kernel)).mpr c_2
    refine lv_iload_n hx hb dX7_shift_7 rfl (lv_at hl 0 rfl) ?_
    refine lv_goto (tgt := 12) hx hb dX7_shift_8 (by decide) ?_
    have hP9 := hP.sub (ws' := []) [] rfl
    have hD9 := hD.sub (ws' := []) [] (by decide) rfl
    exact (kq_iret (v := 1) hx hb hr hlocks hS rfl ⟨_, rfl, rfl⟩ hP9 hD9 (Nat.le_of_ble_eq_true rfl) (Nat.le_of_ble_eq_true rfl) dX7_shift_12)
set_option maxHeartbeats 4000000 in
set_option maxRecDepth 100000 in
theorem c_X7_isSecond_5 (l : Launch) (hfl : l.stackTraces = false) (D : va_G) (dA : Nat → ClassId) (tE tC : Nat) (p0 : Int32) (p1 : Int32) : Ct l D dA tE tC yX7_isSecond (Cond.code yX7_isSecond cX7_isSecond 4 (some .boolean) :: gW) ({ frames := 1, cells := 0, slots := 0, locals := 21 } : Room) [.int 11, .int 1, .int p0, .int p1] [] (fun v w1 => (∃ (p9 : Int32), narrow FieldType.boolean (.int p9) = .int p9 ∧ v = some (.int p9) ∧ w1 = [])) 0 0 := by
  refine Ct_of (by decide) (Nat.le_of_ble_eq_true rfl) ?_
  intro p e s m below meth c hx hb hr hml hown hnm hlocks hgw hK A hG hA hP hD ls hl
  have hl : lv_has ls 4 [(0, .int 11), (1, .int 1), (2, .int p0), (3, .int p1)] := hl
  have hS : va_S A s.heap s.heap [] := va_S.rf
  refine lv_iload_n hx hb dX7_isSecond_0 rfl (lv_at hl 0 rfl) ?_
  refine lv_tableIn (off := 31) (tgt := 32) hx hb dX7_isSecond_1 (by decide +kernel) (by decide +kernel) (by decide +kernel) (by decide) ?_
  refine lv_iload_n hx hb dX7_isSecond_32 rfl (lv_at hl 2 rfl) ?_
  refine lv_iload_n hx hb dX7_isSecond_33 rfl (lv_at hl 1 rfl) ?_
  refine lv_iload_n hx hb dX7_isSecond_34 rfl (lv_at hl 3 rfl) ?_
  refine kq_S (As := [.int 1, .int p1]) (rest := [.int p0]) (wr := []) hx hb hml hown hgw hK hG hA hP hD hS (c_X7_shift_1 l hfl D dA tE tC p1) m_1_171 m_1_172 m_1_2 m_1_173 hd_X7_shift rfl rfl ⟨(Nat.le_of_ble_eq_true rfl), (Nat.le_of_ble_eq_true rfl)⟩ [] [] rfl rfl rfl rfl (by decide) hl.1 rfl (Nat.le_of_ble_eq_true rfl) dX7_isSecond_35 ⟨(Nat.le_of_ble_eq_true rfl), (Nat.le_of_ble_eq_true rfl)⟩ (fun v w1 H locs hQ hP hD hS => ?_)
  obtain ⟨x1, rfl, rfl⟩ := hQ
  refine W.eq (g2 := F0 m 38 ls [.int x1, .int p0]) rfl ?_
  have hP : va_P D vwCl [] H := hP
  have hD : va_D A [] := hD
  refine lv_iadd hx hb dX7_isSecond_38 ?_
  refine lv_topi (fun x2 ex2 => ?_)
  refine lv_bipush (v := 8) hx hb dX7_isSecond_39 (by decide +kernel) ?_
  refine lv_icmp_lt (tgt := 48) hx hb dX7_isSecond_41 (by decide) (fun c_3 => ?_) (fun c_3 => ?_)
  · have c_3 := (kq_lt (x := x2) (y := 8) (a := x2.toInt) (b := 8) (by rfl) (by decide +kernel)).mp c_3
    refine lv_iconst (v := 0) hx hb dX7_isSecond_48 (by decide) ?_
    have hP9 := hP.sub (ws' := []) [] rfl
    have hD9 := hD.sub (ws' := []) [] (by decide) rfl
    exact (kq_iret (v := 0) hx hb hr hlocks hS rfl ⟨_, rfl, rfl, rfl⟩ hP9 hD9 (Nat.le_of_ble_eq_true rfl) (Nat.le_of_ble_eq_true rfl) dX7_isSecond_49)
  · have c_3 := mt (kq_lt (x := x2) (y := 8) (a := x2.toInt) (b := 8) (by rfl) (by decide +kernel)).mpr c_3
    refine lv_iconst (v := 1) hx hb dX7_isSecond_44 (by decide) ?_
    refine lv_goto (tgt := 49) hx hb dX7_isSecond_45 (by decide) ?_
    have hP9 := hP.sub (ws' := []) [] rfl
    have hD9 := hD.sub (ws' := []) [] (by decide) rfl
    exact (kq_iret (v := 1) hx hb hr hlocks hS rfl ⟨_, rfl, rfl, rfl⟩ hP9 hD9 (Nat.le_of_ble_eq_true rfl) (Nat.le_of_ble_eq_true rfl) dX7_isSecond_49)
set_option maxHeartbeats 4000000 in
set_option maxRecDepth 100000 in
theorem c_X7_isSecond_6 (l : Launch) (hfl : l.stackTraces = false) (D : va_G) (dA : Nat → ClassId) (tE tC : Nat) (p0 : Int32) (p1 : Int32) : Ct l D dA tE tC yX7_isSecond (Cond.code yX7_isSecond cX7_isSecond 4 (some .boolean) :: gW) ({ frames := 1, cells := 0, slots := 0, locals := 21 } : Room) [.int 12, .int 1, .int p0, .int p1] [] (fun v w1 => (∃ (p9 : Int32), narrow FieldType.boolean (.int p9) = .int p9 ∧ v = some (.int p9) ∧ w1 = [])) 0 0 := by
  refine Ct_of (by decide) (Nat.le_of_ble_eq_true rfl) ?_
  intro p e s m below meth c hx hb hr hml hown hnm hlocks hgw hK A hG hA hP hD ls hl
  have hl : lv_has ls 4 [(0, .int 12), (1, .int 1), (2, .int p0), (3, .int p1)] := hl
  have hS : va_S A s.heap s.heap [] := va_S.rf
  refine lv_iload_n hx hb dX7_isSecond_0 rfl (lv_at hl 0 rfl) ?_
  refine lv_tableIn (off := 49) (tgt := 50) hx hb dX7_isSecond_1 (by decide +kernel) (by decide +kernel) (by decide +kernel) (by decide) ?_
  refine lv_iload_n hx hb dX7_isSecond_50 rfl (lv_at hl 3 rfl) ?_
  refine lv_iload_n hx hb dX7_isSecond_51 rfl (lv_at hl 1 rfl) ?_
  refine lv_iload_n hx hb dX7_isSecond_52 rfl (lv_at hl 2 rfl) ?_
  refine kq_S (As := [.int 1, .int p0]) (rest := [.int p1]) (wr := []) hx hb hml hown hgw hK hG hA hP hD hS (c_X7_shift_1 l hfl D dA tE tC p0) m_1_171 m_1_172 m_1_2 m_1_173 hd_X7_shift rfl rfl ⟨(Nat.le_of_ble_eq_true rfl), (Nat.le_of_ble_eq_true rfl)⟩ [] [] rfl rfl rfl rfl (by decide) hl.1 rfl (Nat.le_of_ble_eq_true rfl) dX7_isSecond_53 ⟨(Nat.le_of_ble_eq_true rfl), (Nat.le_of_ble_eq_true rfl)⟩ (fun v w1 H locs hQ hP hD hS => ?_)
  obtain ⟨x1, rfl, rfl⟩ := hQ
  refine W.eq (g2 := F0 m 56 ls [.int x1, .int p1]) rfl ?_
  have hP : va_P D vwCl [] H := hP
  have hD : va_D A [] := hD
  refine lv_iadd hx hb dX7_isSecond_56 ?_
  refine lv_topi (fun x2 ex2 => ?_)
  refine lv_bipush (v := 8) hx hb dX7_isSecond_57 (by decide +kernel) ?_
  refine lv_icmp_lt (tgt := 66) hx hb dX7_isSecond_59 (by decide) (fun c_3 => ?_) (fun c_3 => ?_)
  · have c_3 := (kq_lt (x := x2) (y := 8) (a := x2.toInt) (b := 8) (by rfl) (by decide +kernel)).mp c_3
    refine lv_iconst (v := 0) hx hb dX7_isSecond_66 (by decide) ?_
    have hP9 := hP.sub (ws' := []) [] rfl
    have hD9 := hD.sub (ws' := []) [] (by decide) rfl
    exact (kq_iret (v := 0) hx hb hr hlocks hS rfl ⟨_, rfl, rfl, rfl⟩ hP9 hD9 (Nat.le_of_ble_eq_true rfl) (Nat.le_of_ble_eq_true rfl) dX7_isSecond_67)
  · have c_3 := mt (kq_lt (x := x2) (y := 8) (a := x2.toInt) (b := 8) (by rfl) (by decide +kernel)).mpr c_3
    refine lv_iconst (v := 1) hx hb dX7_isSecond_62 (by decide) ?_
    refine lv_goto (tgt := 67) hx hb dX7_isSecond_63 (by decide) ?_
    have hP9 := hP.sub (ws' := []) [] rfl
    have hD9 := hD.sub (ws' := []) [] (by decide) rfl
    exact (kq_iret (v := 1) hx hb hr hlocks hS rfl ⟨_, rfl, rfl, rfl⟩ hP9 hD9 (Nat.le_of_ble_eq_true rfl) (Nat.le_of_ble_eq_true rfl) dX7_isSecond_67)
set_option maxHeartbeats 4000000 in
set_option maxRecDepth 100000 in
theorem c_X7_isSecond_7 (l : Launch) (hfl : l.stackTraces = false) (D : va_G) (dA : Nat → ClassId) (tE tC : Nat) (p0 : Int32) (p1 : Int32) : Ct l D dA tE tC yX7_isSecond (Cond.code yX7_isSecond cX7_isSecond 4 (some .boolean) :: gW) ({ frames := 1, cells := 0, slots := 0, locals := 21 } : Room) [.int 13, .int 1, .int p0, .int p1] [] (fun v w1 => (∃ (p9 : Int32), narrow FieldType.boolean (.int p9) = .int p9 ∧ v = some (.int p9) ∧ w1 = [])) 0 0 := by
  refine Ct_of (by decide) (Nat.le_of_ble_eq_true rfl) ?_
  intro p e s m below meth c hx hb hr hml hown hnm hlocks hgw hK A hG hA hP hD ls hl
  have hl : lv_has ls 4 [(0, .int 13), (1, .int 1), (2, .int p0), (3, .int p1)] := hl
  have hS : va_S A s.heap s.heap [] := va_S.rf
  refine lv_iload_n hx hb dX7_isSecond_0 rfl (lv_at hl 0 rfl) ?_
  refine lv_tableIn (off := 67) (tgt := 68) hx hb dX7_isSecond_1 (by decide +kernel) (by decide +kernel) (by decide +kernel) (by decide) ?_
  refine lv_iload_n hx hb dX7_isSecond_68 rfl (lv_at hl 3 rfl) ?_
  refine lv_iload_n hx hb dX7_isSecond_69 rfl (lv_at hl 1 rfl) ?_
  refine lv_iload_n hx hb dX7_isSecond_70 rfl (lv_at hl 2 rfl) ?_
  refine kq_S (As := [.int 1, .int p0]) (rest := [.int p1]) (wr := []) hx hb hml hown hgw hK hG hA hP hD hS (c_X7_shift_1 l hfl D dA tE tC p0) m_1_171 m_1_172 m_1_2 m_1_173 hd_X7_shift rfl rfl ⟨(Nat.le_of_ble_eq_true rfl), (Nat.le_of_ble_eq_true rfl)⟩ [] [] rfl rfl rfl rfl (by decide) hl.1 rfl (Nat.le_of_ble_eq_true rfl) dX7_isSecond_71 ⟨(Nat.le_of_ble_eq_true rfl), (Nat.le_of_ble_eq_true rfl)⟩ (fun v w1 H locs hQ hP hD hS => ?_)
  obtain ⟨x1, rfl, rfl⟩ := hQ
  refine W.eq (g2 := F0 m 74 ls [.int x1, .int p1]) rfl ?_
  have hP : va_P D vwCl [] H := hP
  have hD : va_D A [] := hD
  refine lv_iadd hx hb dX7_isSecond_74 ?_
  refine lv_topi (fun x2 ex2 => ?_)
  refine lv_iload_n hx hb dX7_isSecond_75 rfl (lv_at hl 2 rfl) ?_
  refine lv_icmp_le (tgt := 83) hx hb dX7_isSecond_76 (by decide) (fun c_3 => ?_) (fun c_3 => ?_)
  · have c_3 := (kq_le (x := x2) (y := p0) (a := x2.toInt) (b := p0.toInt) (by rfl) (by rfl)).mp c_3
    refine lv_iconst (v := 0) hx hb dX7_isSecond_83 (by decide) ?_
    have hP9 := hP.sub (ws' := []) [] rfl
    have hD9 := hD.sub (ws' := []) [] (by decide) rfl
    exact (kq_iret (v := 0) hx hb hr hlocks hS rfl ⟨_, rfl, rfl, rfl⟩ hP9 hD9 (Nat.le_of_ble_eq_true rfl) (Nat.le_of_ble_eq_true rfl) dX7_isSecond_84)
  · have c_3 := mt (kq_le (x := x2) (y := p0) (a := x2.toInt) (b := p0.toInt) (by rfl) (by rfl)).mpr c_3
    refine lv_iconst (v := 1) hx hb dX7_isSecond_79 (by decide) ?_
    refine lv_goto (tgt := 84) hx hb dX7_isSecond_80 (by decide) ?_
    have hP9 := hP.sub (ws' := []) [] rfl
    have hD9 := hD.sub (ws' := []) [] (by decide) rfl
    exact (kq_iret (v := 1) hx hb hr hlocks hS rfl ⟨_, rfl, rfl, rfl⟩ hP9 hD9 (Nat.le_of_ble_eq_true rfl) (Nat.le_of_ble_eq_true rfl) dX7_isSecond_84)
set_option maxHeartbeats 4000000 in
set_option maxRecDepth 100000 in
theorem c_X7_isSecond_8 (l : Launch) (hfl : l.stackTraces = false) (D : va_G) (dA : Nat → ClassId) (tE tC : Nat) (p0 : Int32) (p1 : Int32) : Ct l D dA tE tC yX7_isSecond (Cond.code yX7_isSecond cX7_isSecond 4 (some .boolean) :: gW) ({ frames := 1, cells := 0, slots := 0, locals := 14 } : Room) [.int 14, .int 1, .int p0, .int p1] [] (fun v w1 => (∃ (p9 : Int32), narrow FieldType.boolean (.int p9) = .int p9 ∧ v = some (.int p9) ∧ w1 = [])) 0 0 := by
  refine Ct_of (by decide) (Nat.le_of_ble_eq_true rfl) ?_
  intro p e s m below meth c hx hb hr hml hown hnm hlocks hgw hK A hG hA hP hD ls hl
  have hl : lv_has ls 4 [(0, .int 14), (1, .int 1), (2, .int p0), (3, .int p1)] := hl
  have hS : va_S A s.heap s.heap [] := va_S.rf
  refine lv_iload_n hx hb dX7_isSecond_0 rfl (lv_at hl 0 rfl) ?_
  refine lv_tableIn (off := 84) (tgt := 85) hx hb dX7_isSecond_1 (by decide +kernel) (by decide +kernel) (by decide +kernel) (by decide) ?_
  refine lv_iconst (v := 2) hx hb dX7_isSecond_85 (by decide) ?_
  refine lv_iload_n hx hb dX7_isSecond_86 rfl (lv_at hl 2 rfl) ?_
  refine lv_imul hx hb dX7_isSecond_87 ?_
  refine lv_topi (fun x1 ex1 => ?_)
  refine lv_bipush (v := 15) hx hb dX7_isSecond_88 (by decide +kernel) ?_
  refine lv_isub hx hb dX7_isSecond_90 ?_
  refine lv_topi (fun x2 ex2 => ?_)
  refine va_mabs hx hb (hml.trans hl.1.symm) hown (hgw _ mM_1_174) (hgw _ mM_1_175) (hgw _ m_1_5) (hgw _ mM_1_176) (Nat.le_of_ble_eq_true rfl) (Nat.le_of_ble_eq_true rfl) (Nat.le_of_ble_eq_true rfl) (Nat.le_of_ble_eq_true rfl) dX7_isSecond_91 ?_
  refine lv_topi (fun x3 ex3 => ?_)
  refine lv_iconst (v := 2) hx hb dX7_isSecond_94 (by decide) ?_
  refine lv_iload_n hx hb dX7_isSecond_95 rfl (lv_at hl 3 rfl) ?_
  refine lv_imul hx hb dX7_isSecond_96 ?_
  refine lv_topi (fun x4 ex4 => ?_)
  refine lv_bipush (v := 15) hx hb dX7_isSecond_97 (by decide +kernel) ?_
  refine lv_isub hx hb dX7_isSecond_99 ?_
  refine lv_topi (fun x5 ex5 => ?_)
  refine va_mabs hx hb (hml.trans hl.1.symm) hown (hgw _ mM_1_174) (hgw _ mM_1_175) (hgw _ m_1_5) (hgw _ mM_1_176) (Nat.le_of_ble_eq_true rfl) (Nat.le_of_ble_eq_true rfl) (Nat.le_of_ble_eq_true rfl) (Nat.le_of_ble_eq_true rfl) dX7_isSecond_100 ?_
  refine lv_topi (fun x6 ex6 => ?_)
  refine lv_icmp_le (tgt := 110) hx hb dX7_isSecond_103 (by decide) (fun c_7 => ?_) (fun c_7 => ?_)
  · have c_7 := (kq_le (x := x3) (y := x6) (a := x3.toInt) (b := x6.toInt) (by rfl) (by rfl)).mp c_7
    refine lv_iconst (v := 0) hx hb dX7_isSecond_110 (by decide) ?_
    have hP9 := hP.sub (ws' := []) [] rfl
    have hD9 := hD.sub (ws' := []) [] (by decide) rfl
    exact (kq_iret (v := 0) hx hb hr hlocks hS rfl ⟨_, rfl, rfl, rfl⟩ hP9 hD9 (Nat.le_of_ble_eq_true rfl) (Nat.le_of_ble_eq_true rfl) dX7_isSecond_111)
  · have c_7 := mt (kq_le (x := x3) (y := x6) (a := x3.toInt) (b := x6.toInt) (by rfl) (by rfl)).mpr c_7
    refine lv_iconst (v := 1) hx hb dX7_isSecond_106 (by decide) ?_
    refine lv_goto (tgt := 111) hx hb dX7_isSecond_107 (by decide) ?_
    have hP9 := hP.sub (ws' := []) [] rfl
    have hD9 := hD.sub (ws' := []) [] (by decide) rfl
    exact (kq_iret (v := 1) hx hb hr hlocks hS rfl ⟨_, rfl, rfl, rfl⟩ hP9 hD9 (Nat.le_of_ble_eq_true rfl) (Nat.le_of_ble_eq_true rfl) dX7_isSecond_111)
set_option maxHeartbeats 4000000 in
set_option maxRecDepth 100000 in
theorem c_X7_isSecond_9 (l : Launch) (hfl : l.stackTraces = false) (D : va_G) (dA : Nat → ClassId) (tE tC : Nat) (p0 : Int32) (p1 : Int32) : Ct l D dA tE tC yX7_isSecond (Cond.code yX7_isSecond cX7_isSecond 4 (some .boolean) :: gW) ({ frames := 0, cells := 0, slots := 0, locals := 0 } : Room) [.int 15, .int 1, .int p0, .int p1] [] (fun v w1 => (∃ (p9 : Int32), narrow FieldType.boolean (.int p9) = .int p9 ∧ v = some (.int p9) ∧ w1 = [])) 0 0 := by
  refine Ct_of (by decide) (Nat.le_of_ble_eq_true rfl) ?_
  intro p e s m below meth c hx hb hr hml hown hnm hlocks hgw hK A hG hA hP hD ls hl
  have hl : lv_has ls 4 [(0, .int 15), (1, .int 1), (2, .int p0), (3, .int p1)] := hl
  have hS : va_S A s.heap s.heap [] := va_S.rf
  refine lv_iload_n hx hb dX7_isSecond_0 rfl (lv_at hl 0 rfl) ?_
  refine lv_tableOut (tgt := 112) hx hb dX7_isSecond_1 (by decide +kernel) (by decide) ?_
  refine lv_iload_n hx hb dX7_isSecond_112 rfl (lv_at hl 2 rfl) ?_
  refine lv_bipush (v := 8) hx hb dX7_isSecond_113 (by decide +kernel) ?_
  refine lv_icmp_lt (tgt := 122) hx hb dX7_isSecond_115 (by decide) (fun c_1 => ?_) (fun c_1 => ?_)
  · have c_1 := (kq_lt (x := p0) (y := 8) (a := p0.toInt) (b := 8) (by rfl) (by decide +kernel)).mp c_1
    refine lv_iconst (v := 0) hx hb dX7_isSecond_122 (by decide) ?_
    refine lv_iload_n hx hb dX7_isSecond_123 rfl (lv_at hl 3 rfl) ?_
    refine lv_bipush (v := 8) hx hb dX7_isSecond_124 (by decide +kernel) ?_
    refine lv_icmp_lt (tgt := 133) hx hb dX7_isSecond_126 (by decide) (fun c_2 => ?_) (fun c_2 => ?_)
    · have c_2 := (kq_lt (x := p1) (y := 8) (a := p1.toInt) (b := 8) (by rfl) (by decide +kernel)).mp c_2
      refine lv_iconst (v := 0) hx hb dX7_isSecond_133 (by decide) ?_
      refine lv_icmp_eq (tgt := 141) hx hb dX7_isSecond_134 (by decide) (fun _ => ?_) (fun h => absurd (by decide +kernel) h)
      refine lv_iconst (v := 0) hx hb dX7_isSecond_141 (by decide) ?_
      have hP9 := hP.sub (ws' := []) [] rfl
      have hD9 := hD.sub (ws' := []) [] (by decide) rfl
      exact (kq_iret (v := 0) hx hb hr hlocks hS rfl ⟨_, rfl, rfl, rfl⟩ hP9 hD9 (Nat.le_of_ble_eq_true rfl) (Nat.le_of_ble_eq_true rfl) dX7_isSecond_142)
    · have c_2 := mt (kq_lt (x := p1) (y := 8) (a := p1.toInt) (b := 8) (by rfl) (by decide +kernel)).mpr c_2
      refine lv_iconst (v := 1) hx hb dX7_isSecond_129 (by decide) ?_
      refine lv_goto (tgt := 134) hx hb dX7_isSecond_130 (by decide) ?_
      refine lv_icmp_eq (tgt := 141) hx hb dX7_isSecond_134 (by decide) (fun h => absurd h (by decide +kernel)) (fun _ => ?_)
      refine lv_iconst (v := 1) hx hb dX7_isSecond_137 (by decide) ?_
      refine lv_goto (tgt := 142) hx hb dX7_isSecond_138 (by decide) ?_
      have hP9 := hP.sub (ws' := []) [] rfl
      have hD9 := hD.sub (ws' := []) [] (by decide) rfl
      exact (kq_iret (v := 1) hx hb hr hlocks hS rfl ⟨_, rfl, rfl, rfl⟩ hP9 hD9 (Nat.le_of_ble_eq_true rfl) (Nat.le_of_ble_eq_true rfl) dX7_isSecond_142)
  · have c_1 := mt (kq_lt (x := p0) (y := 8) (a := p0.toInt) (b := 8) (by rfl) (by decide +kernel)).mpr c_1
    refine lv_iconst (v := 1) hx hb dX7_isSecond_118 (by decide) ?_
    refine lv_goto (tgt := 123) hx hb dX7_isSecond_119 (by decide) ?_
    refine lv_iload_n hx hb dX7_isSecond_123 rfl (lv_at hl 3 rfl) ?_
    refine lv_bipush (v := 8) hx hb dX7_isSecond_124 (by decide +kernel) ?_
    refine lv_icmp_lt (tgt := 133) hx hb dX7_isSecond_126 (by decide) (fun c_3 => ?_) (fun c_3 => ?_)
    · have c_3 := (kq_lt (x := p1) (y := 8) (a := p1.toInt) (b := 8) (by rfl) (by decide +kernel)).mp c_3
      refine lv_iconst (v := 0) hx hb dX7_isSecond_133 (by decide) ?_
      refine lv_icmp_eq (tgt := 141) hx hb dX7_isSecond_134 (by decide) (fun h => absurd h (by decide +kernel)) (fun _ => ?_)
      refine lv_iconst (v := 1) hx hb dX7_isSecond_137 (by decide) ?_
      refine lv_goto (tgt := 142) hx hb dX7_isSecond_138 (by decide) ?_
      have hP9 := hP.sub (ws' := []) [] rfl
      have hD9 := hD.sub (ws' := []) [] (by decide) rfl
      exact (kq_iret (v := 1) hx hb hr hlocks hS rfl ⟨_, rfl, rfl, rfl⟩ hP9 hD9 (Nat.le_of_ble_eq_true rfl) (Nat.le_of_ble_eq_true rfl) dX7_isSecond_142)
    · have c_3 := mt (kq_lt (x := p1) (y := 8) (a := p1.toInt) (b := 8) (by rfl) (by decide +kernel)).mpr c_3
      refine lv_iconst (v := 1) hx hb dX7_isSecond_129 (by decide) ?_
      refine lv_goto (tgt := 134) hx hb dX7_isSecond_130 (by decide) ?_
      refine lv_icmp_eq (tgt := 141) hx hb dX7_isSecond_134 (by decide) (fun _ => ?_) (fun h => absurd (by decide +kernel) h)
      refine lv_iconst (v := 0) hx hb dX7_isSecond_141 (by decide) ?_
      have hP9 := hP.sub (ws' := []) [] rfl
      have hD9 := hD.sub (ws' := []) [] (by decide) rfl
      exact (kq_iret (v := 0) hx hb hr hlocks hS rfl ⟨_, rfl, rfl, rfl⟩ hP9 hD9 (Nat.le_of_ble_eq_true rfl) (Nat.le_of_ble_eq_true rfl) dX7_isSecond_142)
set_option maxHeartbeats 4000000 in
set_option maxRecDepth 100000 in
theorem c_X7_isOnOrdinary_8 (l : Launch) (hfl : l.stackTraces = false) (D : va_G) (dA : Nat → ClassId) (tE tC : Nat) (p0 : Int32) (p1 : Int32) : Ct l D dA tE tC yX7_isOnOrdinary (Cond.code yX7_isOnOrdinary cX7_isOnOrdinary 4 (some .boolean) :: gW) ({ frames := 1, cells := 0, slots := 0, locals := 22 } : Room) [.int 21, .int 1, .int p0, .int p1] [] (fun v w1 => (∃ (p9 : Int32), narrow FieldType.boolean (.int p9) = .int p9 ∧ v = some (.int p9) ∧ w1 = [])) 0 0 := by
  refine Ct_of (by decide) (Nat.le_of_ble_eq_true rfl) ?_
  intro p e s m below meth c hx hb hr hml hown hnm hlocks hgw hK A hG hA hP hD ls hl
  have hl : lv_has ls 4 [(0, .int 21), (1, .int 1), (2, .int p0), (3, .int p1)] := hl
  have hS : va_S A s.heap s.heap [] := va_S.rf
  refine lv_iload_n hx hb dX7_isOnOrdinary_0 rfl (lv_at hl 0 rfl) ?_
  refine lv_tableIn (off := 43) (tgt := 44) hx hb dX7_isOnOrdinary_1 (by decide +kernel) (by decide +kernel) (by decide +kernel) (by decide) ?_
  refine lv_iload_n hx hb dX7_isOnOrdinary_44 rfl (lv_at hl 2 rfl) ?_
  refine lv_iload_n hx hb dX7_isOnOrdinary_45 rfl (lv_at hl 1 rfl) ?_
  refine lv_iload_n hx hb dX7_isOnOrdinary_46 rfl (lv_at hl 3 rfl) ?_
  refine kq_S (As := [.int 1, .int p1]) (rest := [.int p0]) (wr := []) hx hb hml hown hgw hK hG hA hP hD hS (c_X7_shift_1 l hfl D dA tE tC p1) m_1_171 m_1_172 m_1_2 m_1_173 hd_X7_shift rfl rfl ⟨(Nat.le_of_ble_eq_true rfl), (Nat.le_of_ble_eq_true rfl)⟩ [] [] rfl rfl rfl rfl (by decide) hl.1 rfl (Nat.le_of_ble_eq_true rfl) dX7_isOnOrdinary_47 ⟨(Nat.le_of_ble_eq_true rfl), (Nat.le_of_ble_eq_true rfl)⟩ (fun v w1 H locs hQ hP hD hS => ?_)
  obtain ⟨x1, rfl, rfl⟩ := hQ
  refine W.eq (g2 := F0 m 50 ls [.int x1, .int p0]) rfl ?_
  have hP : va_P D vwCl [] H := hP
  have hD : va_D A [] := hD
  refine lv_iadd hx hb dX7_isOnOrdinary_50 ?_
  refine lv_topi (fun x2 ex2 => ?_)
  refine lv_bipush (v := 6) hx hb dX7_isOnOrdinary_51 (by decide +kernel) ?_
  refine lv_bipush (v := 9) hx hb dX7_isOnOrdinary_53 (by decide +kernel) ?_
  refine kq_S (As := [.int x2, .int 6, .int 9]) (rest := []) (wr := []) hx hb hml hown hgw hK hG hA hP hD hS (c_X7_isFromTo l hfl D dA tE tC x2) m_1_180 m_1_181 m_1_2 m_1_182 hd_X7_isFromTo rfl rfl ⟨(Nat.le_of_ble_eq_true rfl), (Nat.le_of_ble_eq_true rfl)⟩ [] [] rfl rfl rfl rfl (by decide) hl.1 rfl (Nat.le_of_ble_eq_true rfl) dX7_isOnOrdinary_55 ⟨(Nat.le_of_ble_eq_true rfl), (Nat.le_of_ble_eq_true rfl)⟩ (fun v w1 H locs hQ hP hD hS => ?_)
  obtain ⟨x3, nx3, rfl, rfl⟩ := hQ
  refine W.eq (g2 := F0 m 58 ls [.int x3]) rfl ?_
  have hP : va_P D vwCl [] H := hP
  have hD : va_D A [] := hD
  have hP9 := hP.sub (ws' := []) [] rfl
  have hD9 := hD.sub (ws' := []) [] (by decide) rfl
  exact (kq_iret (v := x3) hx hb hr hlocks hS nx3 ⟨_, nx3, rfl, rfl⟩ hP9 hD9 (Nat.le_of_ble_eq_true rfl) (Nat.le_of_ble_eq_true rfl) dX7_isOnOrdinary_58)
set_option maxHeartbeats 4000000 in
set_option maxRecDepth 100000 in
theorem c_X7_isOnOrdinary_9 (l : Launch) (hfl : l.stackTraces = false) (D : va_G) (dA : Nat → ClassId) (tE tC : Nat) (p0 : Int32) (p1 : Int32) : Ct l D dA tE tC yX7_isOnOrdinary (Cond.code yX7_isOnOrdinary cX7_isOnOrdinary 4 (some .boolean) :: gW) ({ frames := 1, cells := 0, slots := 0, locals := 22 } : Room) [.int 22, .int 1, .int p0, .int p1] [] (fun v w1 => (∃ (p9 : Int32), narrow FieldType.boolean (.int p9) = .int p9 ∧ v = some (.int p9) ∧ w1 = [])) 0 0 := by
  refine Ct_of (by decide) (Nat.le_of_ble_eq_true rfl) ?_
  intro p e s m below meth c hx hb hr hml hown hnm hlocks hgw hK A hG hA hP hD ls hl
  have hl : lv_has ls 4 [(0, .int 22), (1, .int 1), (2, .int p0), (3, .int p1)] := hl
  have hS : va_S A s.heap s.heap [] := va_S.rf
  refine lv_iload_n hx hb dX7_isOnOrdinary_0 rfl (lv_at hl 0 rfl) ?_
  refine lv_tableIn (off := 58) (tgt := 59) hx hb dX7_isOnOrdinary_1 (by decide +kernel) (by decide +kernel) (by decide +kernel) (by decide) ?_
  refine lv_iload_n hx hb dX7_isOnOrdinary_59 rfl (lv_at hl 3 rfl) ?_
  refine lv_iload_n hx hb dX7_isOnOrdinary_60 rfl (lv_at hl 1 rfl) ?_
  refine lv_iload_n hx hb dX7_isOnOrdinary_61 rfl (lv_at hl 2 rfl) ?_
  refine kq_S (As := [.int 1, .int p0]) (rest := [.int p1]) (wr := []) hx hb hml hown hgw hK hG hA hP hD hS (c_X7_shift_1 l hfl D dA tE tC p0) m_1_171 m_1_172 m_1_2 m_1_173 hd_X7_shift rfl rfl ⟨(Nat.le_of_ble_eq_true rfl), (Nat.le_of_ble_eq_true rfl)⟩ [] [] rfl rfl rfl rfl (by decide) hl.1 rfl (Nat.le_of_ble_eq_true rfl) dX7_isOnOrdinary_62 ⟨(Nat.le_of_ble_eq_true rfl), (Nat.le_of_ble_eq_true rfl)⟩ (fun v w1 H locs hQ hP hD hS => ?_)
  obtain ⟨x1, rfl, rfl⟩ := hQ
  refine W.eq (g2 := F0 m 65 ls [.int x1, .int p1]) rfl ?_
  have hP : va_P D vwCl [] H := hP
  have hD : va_D A [] := hD
  refine lv_iadd hx hb dX7_isOnOrdinary_65 ?_
  refine lv_topi (fun x2 ex2 => ?_)
  refine lv_bipush (v := 6) hx hb dX7_isOnOrdinary_66 (by decide +kernel) ?_
  refine lv_bipush (v := 9) hx hb dX7_isOnOrdinary_68 (by decide +kernel) ?_
  refine kq_S (As := [.int x2, .int 6, .int 9]) (rest := []) (wr := []) hx hb hml hown hgw hK hG hA hP hD hS (c_X7_isFromTo l hfl D dA tE tC x2) m_1_180 m_1_181 m_1_2 m_1_182 hd_X7_isFromTo rfl rfl ⟨(Nat.le_of_ble_eq_true rfl), (Nat.le_of_ble_eq_true rfl)⟩ [] [] rfl rfl rfl rfl (by decide) hl.1 rfl (Nat.le_of_ble_eq_true rfl) dX7_isOnOrdinary_70 ⟨(Nat.le_of_ble_eq_true rfl), (Nat.le_of_ble_eq_true rfl)⟩ (fun v w1 H locs hQ hP hD hS => ?_)
  obtain ⟨x3, nx3, rfl, rfl⟩ := hQ
  refine W.eq (g2 := F0 m 73 ls [.int x3]) rfl ?_
  have hP : va_P D vwCl [] H := hP
  have hD : va_D A [] := hD
  have hP9 := hP.sub (ws' := []) [] rfl
  have hD9 := hD.sub (ws' := []) [] (by decide) rfl
  exact (kq_iret (v := x3) hx hb hr hlocks hS nx3 ⟨_, nx3, rfl, rfl⟩ hP9 hD9 (Nat.le_of_ble_eq_true rfl) (Nat.le_of_ble_eq_true rfl) dX7_isOnOrdinary_73)
set_option maxHeartbeats 4000000 in
set_option maxRecDepth 100000 in
theorem c_X7_isOnOrdinary_10 (l : Launch) (hfl : l.stackTraces = false) (D : va_G) (dA : Nat → ClassId) (tE tC : Nat) (p0 : Int32) (p1 : Int32) : Ct l D dA tE tC yX7_isOnOrdinary (Cond.code yX7_isOnOrdinary cX7_isOnOrdinary 4 (some .boolean) :: gW) ({ frames := 1, cells := 0, slots := 0, locals := 22 } : Room) [.int 23, .int 1, .int p0, .int p1] [] (fun v w1 => (∃ (p9 : Int32), narrow FieldType.boolean (.int p9) = .int p9 ∧ v = some (.int p9) ∧ w1 = [])) 0 0 := by
  refine Ct_of (by decide) (Nat.le_of_ble_eq_true rfl) ?_
  intro p e s m below meth c hx hb hr hml hown hnm hlocks hgw hK A hG hA hP hD ls hl
  have hl : lv_has ls 4 [(0, .int 23), (1, .int 1), (2, .int p0), (3, .int p1)] := hl
  have hS : va_S A s.heap s.heap [] := va_S.rf
  refine lv_iload_n hx hb dX7_isOnOrdinary_0 rfl (lv_at hl 0 rfl) ?_
  refine lv_tableIn (off := 73) (tgt := 74) hx hb dX7_isOnOrdinary_1 (by decide +kernel) (by decide +kernel) (by decide +kernel) (by decide) ?_
  refine lv_iload_n hx hb dX7_isOnOrdinary_74 rfl (lv_at hl 3 rfl) ?_
  refine lv_iload_n hx hb dX7_isOnOrdinary_75 rfl (lv_at hl 2 rfl) ?_
  refine lv_isub hx hb dX7_isOnOrdinary_76 ?_
  refine lv_topi (fun x1 ex1 => ?_)
  refine lv_iload_n hx hb dX7_isOnOrdinary_77 rfl (lv_at hl 1 rfl) ?_
  refine lv_iload_n hx hb dX7_isOnOrdinary_78 rfl (lv_at hl 2 rfl) ?_
  refine kq_S (As := [.int 1, .int p0]) (rest := [.int x1]) (wr := []) hx hb hml hown hgw hK hG hA hP hD hS (c_X7_shift_1 l hfl D dA tE tC p0) m_1_171 m_1_172 m_1_2 m_1_173 hd_X7_shift rfl rfl ⟨(Nat.le_of_ble_eq_true rfl), (Nat.le_of_ble_eq_true rfl)⟩ [] [] rfl rfl rfl rfl (by decide) hl.1 rfl (Nat.le_of_ble_eq_true rfl) dX7_isOnOrdinary_79 ⟨(Nat.le_of_ble_eq_true rfl), (Nat.le_of_ble_eq_true rfl)⟩ (fun v w1 H locs hQ hP hD hS => ?_)
  obtain ⟨x2, rfl, rfl⟩ := hQ
  refine W.eq (g2 := F0 m 82 ls [.int x2, .int x1]) rfl ?_
  have hP : va_P D vwCl [] H := hP
  have hD : va_D A [] := hD
  refine lv_iadd hx hb dX7_isOnOrdinary_82 ?_
  refine lv_topi (fun x3 ex3 => ?_)
  refine lv_bipush (v := (-2)) hx hb dX7_isOnOrdinary_83 (by decide +kernel) ?_
  refine lv_iconst (v := 2) hx hb dX7_isOnOrdinary_85 (by decide) ?_
  refine kq_S (As := [.int x3, .int (-2), .int 2]) (rest := []) (wr := []) hx hb hml hown hgw hK hG hA hP hD hS (c_X7_isFromTo_1 l hfl D dA tE tC x3) m_1_180 m_1_181 m_1_2 m_1_182 hd_X7_isFromTo rfl rfl ⟨(Nat.le_of_ble_eq_true rfl), (Nat.le_of_ble_eq_true rfl)⟩ [] [] rfl rfl rfl rfl (by decide) hl.1 rfl (Nat.le_of_ble_eq_true rfl) dX7_isOnOrdinary_86 ⟨(Nat.le_of_ble_eq_true rfl), (Nat.le_of_ble_eq_true rfl)⟩ (fun v w1 H locs hQ hP hD hS => ?_)
  obtain ⟨x4, nx4, rfl, rfl⟩ := hQ
  refine W.eq (g2 := F0 m 89 ls [.int x4]) rfl ?_
  have hP : va_P D vwCl [] H := hP
  have hD : va_D A [] := hD
  have hP9 := hP.sub (ws' := []) [] rfl
  have hD9 := hD.sub (ws' := []) [] (by decide) rfl
  exact (kq_iret (v := x4) hx hb hr hlocks hS nx4 ⟨_, nx4, rfl, rfl⟩ hP9 hD9 (Nat.le_of_ble_eq_true rfl) (Nat.le_of_ble_eq_true rfl) dX7_isOnOrdinary_89)
set_option maxHeartbeats 4000000 in
set_option maxRecDepth 100000 in
theorem c_X7_isOnOrdinary_11 (l : Launch) (hfl : l.stackTraces = false) (D : va_G) (dA : Nat → ClassId) (tE tC : Nat) (p0 : Int32) (p1 : Int32) : Ct l D dA tE tC yX7_isOnOrdinary (Cond.code yX7_isOnOrdinary cX7_isOnOrdinary 4 (some .boolean) :: gW) ({ frames := 1, cells := 0, slots := 0, locals := 21 } : Room) [.int 24, .int 1, .int p0, .int p1] [] (fun v w1 => (∃ (p9 : Int32), narrow FieldType.boolean (.int p9) = .int p9 ∧ v = some (.int p9) ∧ w1 = [])) 0 0 := by
  refine Ct_of (by decide) (Nat.le_of_ble_eq_true rfl) ?_
  intro p e s m below meth c hx hb hr hml hown hnm hlocks hgw hK A hG hA hP hD ls hl
  have hl : lv_has ls 4 [(0, .int 24), (1, .int 1), (2, .int p0), (3, .int p1)] := hl
  have hS : va_S A s.heap s.heap [] := va_S.rf
  refine lv_iload_n hx hb dX7_isOnOrdinary_0 rfl (lv_at hl 0 rfl) ?_
  refine lv_tableIn (off := 89) (tgt := 90) hx hb dX7_isOnOrdinary_1 (by decide +kernel) (by decide +kernel) (by decide +kernel) (by decide) ?_
  refine lv_iload_n hx hb dX7_isOnOrdinary_90 rfl (lv_at hl 3 rfl) ?_
  refine lv_iload_n hx hb dX7_isOnOrdinary_91 rfl (lv_at hl 1 rfl) ?_
  refine lv_iload_n hx hb dX7_isOnOrdinary_92 rfl (lv_at hl 2 rfl) ?_
  refine kq_S (As := [.int 1, .int p0]) (rest := [.int p1]) (wr := []) hx hb hml hown hgw hK hG hA hP hD hS (c_X7_shift_1 l hfl D dA tE tC p0) m_1_171 m_1_172 m_1_2 m_1_173 hd_X7_shift rfl rfl ⟨(Nat.le_of_ble_eq_true rfl), (Nat.le_of_ble_eq_true rfl)⟩ [] [] rfl rfl rfl rfl (by decide) hl.1 rfl (Nat.le_of_ble_eq_true rfl) dX7_isOnOrdinary_93 ⟨(Nat.le_of_ble_eq_true rfl), (Nat.le_of_ble_eq_true rfl)⟩ (fun v w1 H locs hQ hP hD hS => ?_)
  obtain ⟨x1, rfl, rfl⟩ := hQ
  refine W.eq (g2 := F0 m 96 ls [.int x1, .int p1]) rfl ?_
  have hP : va_P D vwCl [] H := hP
  have hD : va_D A [] := hD
  refine lv_iadd hx hb dX7_isOnOrdinary_96 ?_
  refine lv_topi (fun x2 ex2 => ?_)
  refine lv_iconst (v := 4) hx hb dX7_isOnOrdinary_97 (by decide) ?_
  refine lv_icmp_gt (tgt := 105) hx hb dX7_isOnOrdinary_98 (by decide) (fun c_3 => ?_) (fun c_3 => ?_)
  · have c_3 := (kq_lt (x := 4) (y := x2) (a := 4) (b := x2.toInt) (by decide +kernel) (by rfl)).mp c_3
    refine lv_iconst (v := 0) hx hb dX7_isOnOrdinary_105 (by decide) ?_
    have hP9 := hP.sub (ws' := []) [] rfl
    have hD9 := hD.sub (ws' := []) [] (by decide) rfl
    exact (kq_iret (v := 0) hx hb hr hlocks hS rfl ⟨_, rfl, rfl, rfl⟩ hP9 hD9 (Nat.le_of_ble_eq_true rfl) (Nat.le_of_ble_eq_true rfl) dX7_isOnOrdinary_106)
  · have c_3 := mt (kq_lt (x := 4) (y := x2) (a := 4) (b := x2.toInt) (by decide +kernel) (by rfl)).mpr c_3
    refine lv_iconst (v := 1) hx hb dX7_isOnOrdinary_101 (by decide) ?_
    refine lv_goto (tgt := 106) hx hb dX7_isOnOrdinary_102 (by decide) ?_
    have hP9 := hP.sub (ws' := []) [] rfl
    have hD9 := hD.sub (ws' := []) [] (by decide) rfl
    exact (kq_iret (v := 1) hx hb hr hlocks hS rfl ⟨_, rfl, rfl, rfl⟩ hP9 hD9 (Nat.le_of_ble_eq_true rfl) (Nat.le_of_ble_eq_true rfl) dX7_isOnOrdinary_106)
set_option maxHeartbeats 4000000 in
set_option maxRecDepth 100000 in
theorem c_X7_isOnOrdinary_12 (l : Launch) (hfl : l.stackTraces = false) (D : va_G) (dA : Nat → ClassId) (tE tC : Nat) (p0 : Int32) (p1 : Int32) : Ct l D dA tE tC yX7_isOnOrdinary (Cond.code yX7_isOnOrdinary cX7_isOnOrdinary 4 (some .boolean) :: gW) ({ frames := 1, cells := 0, slots := 0, locals := 22 } : Room) [.int 25, .int 1, .int p0, .int p1] [] (fun v w1 => (∃ (p9 : Int32), narrow FieldType.boolean (.int p9) = .int p9 ∧ v = some (.int p9) ∧ w1 = [])) 0 0 := by
  refine Ct_of (by decide) (Nat.le_of_ble_eq_true rfl) ?_
  intro p e s m below meth c hx hb hr hml hown hnm hlocks hgw hK A hG hA hP hD ls hl
  have hl : lv_has ls 4 [(0, .int 25), (1, .int 1), (2, .int p0), (3, .int p1)] := hl
  have hS : va_S A s.heap s.heap [] := va_S.rf
  refine lv_iload_n hx hb dX7_isOnOrdinary_0 rfl (lv_at hl 0 rfl) ?_
  refine lv_tableIn (off := 106) (tgt := 107) hx hb dX7_isOnOrdinary_1 (by decide +kernel) (by decide +kernel) (by decide +kernel) (by decide) ?_
  refine lv_iload_n hx hb dX7_isOnOrdinary_107 rfl (lv_at hl 2 rfl) ?_
  refine lv_bipush (v := 7) hx hb dX7_isOnOrdinary_108 (by decide +kernel) ?_
  refine lv_bipush (v := 8) hx hb dX7_isOnOrdinary_110 (by decide +kernel) ?_
  refine kq_S (As := [.int p0, .int 7, .int 8]) (rest := []) (wr := []) hx hb hml hown hgw hK hG hA hP hD hS (c_X7_isFromTo_2 l hfl D dA tE tC p0) m_1_180 m_1_181 m_1_2 m_1_182 hd_X7_isFromTo rfl rfl ⟨(Nat.le_of_ble_eq_true rfl), (Nat.le_of_ble_eq_true rfl)⟩ [] [] rfl rfl rfl rfl (by decide) hl.1 rfl (Nat.le_of_ble_eq_true rfl) dX7_isOnOrdinary_112 ⟨(Nat.le_of_ble_eq_true rfl), (Nat.le_of_ble_eq_true rfl)⟩ (fun v w1 H locs hQ hP hD hS => ?_)
  obtain ⟨x1, nx1, rfl, rfl⟩ := hQ
  refine W.eq (g2 := F0 m 115 ls [.int x1]) rfl ?_
  have hP : va_P D vwCl [] H := hP
  have hD : va_D A [] := hD
  refine lv_if_ne (tgt := 129) hx hb dX7_isOnOrdinary_115 (by decide) (fun c_2 => ?_) (fun c_2 => ?_)
  · have c_2 := mt (kq_eq (x := x1) (y := 0) (a := x1.toInt) (b := 0) (by rfl) (by decide +kernel)).mpr c_2
    refine lv_iconst (v := 1) hx hb dX7_isOnOrdinary_129 (by decide) ?_
    refine lv_goto (tgt := 134) hx hb dX7_isOnOrdinary_130 (by decide) ?_
    have hP9 := hP.sub (ws' := []) [] rfl
    have hD9 := hD.sub (ws' := []) [] (by decide) rfl
    exact (kq_iret (v := 1) hx hb hr hlocks hS rfl ⟨_, rfl, rfl, rfl⟩ hP9 hD9 (Nat.le_of_ble_eq_true rfl) (Nat.le_of_ble_eq_true rfl) dX7_isOnOrdinary_134)
  · have c_2 := (kq_eq (x := x1) (y := 0) (a := x1.toInt) (b := 0) (by rfl) (by decide +kernel)).mp c_2
    refine lv_iload_n hx hb dX7_isOnOrdinary_118 rfl (lv_at hl 3 rfl) ?_
    refine lv_bipush (v := 7) hx hb dX7_isOnOrdinary_119 (by decide +kernel) ?_
    refine lv_bipush (v := 8) hx hb dX7_isOnOrdinary_121 (by decide +kernel) ?_
    refine kq_S (As := [.int p1, .int 7, .int 8]) (rest := []) (wr := []) hx hb hml hown hgw hK hG hA hP hD hS (c_X7_isFromTo_2 l hfl D dA tE tC p1) m_1_180 m_1_181 m_1_2 m_1_182 hd_X7_isFromTo rfl rfl ⟨(Nat.le_of_ble_eq_true rfl), (Nat.le_of_ble_eq_true rfl)⟩ [] [] rfl rfl rfl rfl (by decide) hl.1 rfl (Nat.le_of_ble_eq_true rfl) dX7_isOnOrdinary_123 ⟨(Nat.le_of_ble_eq_true rfl), (Nat.le_of_ble_eq_true rfl)⟩ (fun v w1 H locs hQ hP hD hS => ?_)
    obtain ⟨x3, nx3, rfl, rfl⟩ := hQ
    refine W.eq (g2 := F0 m 126 ls [.int x3]) rfl ?_
    have hP : va_P D vwCl [] H := hP
    have hD : va_D A [] := hD
    refine lv_if_eq (tgt := 133) hx hb dX7_isOnOrdinary_126 (by decide) (fun c_4 => ?_) (fun c_4 => ?_)
    · have c_4 := (kq_eq (x := x3) (y := 0) (a := x3.toInt) (b := 0) (by rfl) (by decide +kernel)).mp c_4
      refine lv_iconst (v := 0) hx hb dX7_isOnOrdinary_133 (by decide) ?_
      have hP9 := hP.sub (ws' := []) [] rfl
      have hD9 := hD.sub (ws' := []) [] (by decide) rfl
      exact (kq_iret (v := 0) hx hb hr hlocks hS rfl ⟨_, rfl, rfl, rfl⟩ hP9 hD9 (Nat.le_of_ble_eq_true rfl) (Nat.le_of_ble_eq_true rfl) dX7_isOnOrdinary_134)
    · have c_4 := mt (kq_eq (x := x3) (y := 0) (a := x3.toInt) (b := 0) (by rfl) (by decide +kernel)).mpr c_4
      refine lv_iconst (v := 1) hx hb dX7_isOnOrdinary_129 (by decide) ?_
      refine lv_goto (tgt := 134) hx hb dX7_isOnOrdinary_130 (by decide) ?_
      have hP9 := hP.sub (ws' := []) [] rfl
      have hD9 := hD.sub (ws' := []) [] (by decide) rfl
      exact (kq_iret (v := 1) hx hb hr hlocks hS rfl ⟨_, rfl, rfl, rfl⟩ hP9 hD9 (Nat.le_of_ble_eq_true rfl) (Nat.le_of_ble_eq_true rfl) dX7_isOnOrdinary_134)
set_option maxHeartbeats 4000000 in
set_option maxRecDepth 100000 in
theorem c_X7_isOnOrdinary_13 (l : Launch) (hfl : l.stackTraces = false) (D : va_G) (dA : Nat → ClassId) (tE tC : Nat) (p0 : Int32) (p1 : Int32) : Ct l D dA tE tC yX7_isOnOrdinary (Cond.code yX7_isOnOrdinary cX7_isOnOrdinary 4 (some .boolean) :: gW) ({ frames := 1, cells := 0, slots := 0, locals := 22 } : Room) [.int 26, .int 1, .int p0, .int p1] [] (fun v w1 => (∃ (p9 : Int32), narrow FieldType.boolean (.int p9) = .int p9 ∧ v = some (.int p9) ∧ w1 = [])) 0 0 := by
  refine Ct_of (by decide) (Nat.le_of_ble_eq_true rfl) ?_
  intro p e s m below meth c hx hb hr hml hown hnm hlocks hgw hK A hG hA hP hD ls hl
  have hl : lv_has ls 4 [(0, .int 26), (1, .int 1), (2, .int p0), (3, .int p1)] := hl
  have hS : va_S A s.heap s.heap [] := va_S.rf
  refine lv_iload_n hx hb dX7_isOnOrdinary_0 rfl (lv_at hl 0 rfl) ?_
  refine lv_tableIn (off := 134) (tgt := 135) hx hb dX7_isOnOrdinary_1 (by decide +kernel) (by decide +kernel) (by decide +kernel) (by decide) ?_
  refine lv_iload_n hx hb dX7_isOnOrdinary_135 rfl (lv_at hl 2 rfl) ?_
  refine lv_iload_n hx hb dX7_isOnOrdinary_136 rfl (lv_at hl 3 rfl) ?_
  refine lv_isub hx hb dX7_isOnOrdinary_137 ?_
  refine lv_topi (fun x1 ex1 => ?_)
  refine lv_iconst (v := (-1)) hx hb dX7_isOnOrdinary_138 (by decide) ?_
  refine lv_iconst (v := 1) hx hb dX7_isOnOrdinary_139 (by decide) ?_
  refine kq_S (As := [.int x1, .int (-1), .int 1]) (rest := []) (wr := []) hx hb hml hown hgw hK hG hA hP hD hS (c_X7_isFromTo_3 l hfl D dA tE tC x1) m_1_180 m_1_181 m_1_2 m_1_182 hd_X7_isFromTo rfl rfl ⟨(Nat.le_of_ble_eq_true rfl), (Nat.le_of_ble_eq_true rfl)⟩ [] [] rfl rfl rfl rfl (by decide) hl.1 rfl (Nat.le_of_ble_eq_true rfl) dX7_isOnOrdinary_140 ⟨(Nat.le_of_ble_eq_true rfl), (Nat.le_of_ble_eq_true rfl)⟩ (fun v w1 H locs hQ hP hD hS => ?_)
  obtain ⟨x2, nx2, rfl, rfl⟩ := hQ
  refine W.eq (g2 := F0 m 143 ls [.int x2]) rfl ?_
  have hP : va_P D vwCl [] H := hP
  have hD : va_D A [] := hD
  refine lv_if_ne (tgt := 160) hx hb dX7_isOnOrdinary_143 (by decide) (fun c_3 => ?_) (fun c_3 => ?_)
  · have c_3 := mt (kq_eq (x := x2) (y := 0) (a := x2.toInt) (b := 0) (by rfl) (by decide +kernel)).mpr c_3
    refine lv_iconst (v := 1) hx hb dX7_isOnOrdinary_160 (by decide) ?_
    refine lv_goto (tgt := 165) hx hb dX7_isOnOrdinary_161 (by decide) ?_
    have hP9 := hP.sub (ws' := []) [] rfl
    have hD9 := hD.sub (ws' := []) [] (by decide) rfl
    exact (kq_iret (v := 1) hx hb hr hlocks hS rfl ⟨_, rfl, rfl, rfl⟩ hP9 hD9 (Nat.le_of_ble_eq_true rfl) (Nat.le_of_ble_eq_true rfl) dX7_isOnOrdinary_165)
  · have c_3 := (kq_eq (x := x2) (y := 0) (a := x2.toInt) (b := 0) (by rfl) (by decide +kernel)).mp c_3
    refine lv_iload_n hx hb dX7_isOnOrdinary_146 rfl (lv_at hl 2 rfl) ?_
    refine lv_iload_n hx hb dX7_isOnOrdinary_147 rfl (lv_at hl 3 rfl) ?_
    refine lv_iadd hx hb dX7_isOnOrdinary_148 ?_
    refine lv_topi (fun x4 ex4 => ?_)
    refine lv_bipush (v := 15) hx hb dX7_isOnOrdinary_149 (by decide +kernel) ?_
    refine lv_isub hx hb dX7_isOnOrdinary_151 ?_
    refine lv_topi (fun x5 ex5 => ?_)
    refine lv_iconst (v := (-1)) hx hb dX7_isOnOrdinary_152 (by decide) ?_
    refine lv_iconst (v := 1) hx hb dX7_isOnOrdinary_153 (by decide) ?_
    refine kq_S (As := [.int x5, .int (-1), .int 1]) (rest := []) (wr := []) hx hb hml hown hgw hK hG hA hP hD hS (c_X7_isFromTo_3 l hfl D dA tE tC x5) m_1_180 m_1_181 m_1_2 m_1_182 hd_X7_isFromTo rfl rfl ⟨(Nat.le_of_ble_eq_true rfl), (Nat.le_of_ble_eq_true rfl)⟩ [] [] rfl rfl rfl rfl (by decide) hl.1 rfl (Nat.le_of_ble_eq_true rfl) dX7_isOnOrdinary_154 ⟨(Nat.le_of_ble_eq_true rfl), (Nat.le_of_ble_eq_true rfl)⟩ (fun v w1 H locs hQ hP hD hS => ?_)
    obtain ⟨x6, nx6, rfl, rfl⟩ := hQ
    refine W.eq (g2 := F0 m 157 ls [.int x6]) rfl ?_
    have hP : va_P D vwCl [] H := hP
    have hD : va_D A [] := hD
    refine lv_if_eq (tgt := 164) hx hb dX7_isOnOrdinary_157 (by decide) (fun c_7 => ?_) (fun c_7 => ?_)
    · have c_7 := (kq_eq (x := x6) (y := 0) (a := x6.toInt) (b := 0) (by rfl) (by decide +kernel)).mp c_7
      refine lv_iconst (v := 0) hx hb dX7_isOnOrdinary_164 (by decide) ?_
      have hP9 := hP.sub (ws' := []) [] rfl
      have hD9 := hD.sub (ws' := []) [] (by decide) rfl
      exact (kq_iret (v := 0) hx hb hr hlocks hS rfl ⟨_, rfl, rfl, rfl⟩ hP9 hD9 (Nat.le_of_ble_eq_true rfl) (Nat.le_of_ble_eq_true rfl) dX7_isOnOrdinary_165)
    · have c_7 := mt (kq_eq (x := x6) (y := 0) (a := x6.toInt) (b := 0) (by rfl) (by decide +kernel)).mpr c_7
      refine lv_iconst (v := 1) hx hb dX7_isOnOrdinary_160 (by decide) ?_
      refine lv_goto (tgt := 165) hx hb dX7_isOnOrdinary_161 (by decide) ?_
      have hP9 := hP.sub (ws' := []) [] rfl
      have hD9 := hD.sub (ws' := []) [] (by decide) rfl
      exact (kq_iret (v := 1) hx hb hr hlocks hS rfl ⟨_, rfl, rfl, rfl⟩ hP9 hD9 (Nat.le_of_ble_eq_true rfl) (Nat.le_of_ble_eq_true rfl) dX7_isOnOrdinary_165)
set_option maxHeartbeats 4000000 in
set_option maxRecDepth 100000 in
theorem c_X7_isOnOrdinary_14 (l : Launch) (hfl : l.stackTraces = false) (D : va_G) (dA : Nat → ClassId) (tE tC : Nat) (p0 : Int32) (p1 : Int32) : Ct l D dA tE tC yX7_isOnOrdinary (Cond.code yX7_isOnOrdinary cX7_isOnOrdinary 4 (some .boolean) :: gW) ({ frames := 1, cells := 0, slots := 0, locals := 22 } : Room) [.int 27, .int 1, .int p0, .int p1] [] (fun v w1 => (∃ (p9 : Int32), narrow FieldType.boolean (.int p9) = .int p9 ∧ v = some (.int p9) ∧ w1 = [])) 0 0 := by
  refine Ct_of (by decide) (Nat.le_of_ble_eq_true rfl) ?_
  intro p e s m below meth c hx hb hr hml hown hnm hlocks hgw hK A hG hA hP hD ls hl
  have hl : lv_has ls 4 [(0, .int 27), (1, .int 1), (2, .int p0), (3, .int p1)] := hl
  have hS : va_S A s.heap s.heap [] := va_S.rf
  refine lv_iload_n hx hb dX7_isOnOrdinary_0 rfl (lv_at hl 0 rfl) ?_
  refine lv_tableIn (off := 165) (tgt := 166) hx hb dX7_isOnOrdinary_1 (by decide +kernel) (by decide +kernel) (by decide +kernel) (by decide) ?_
  refine lv_iload_n hx hb dX7_isOnOrdinary_166 rfl (lv_at hl 3 rfl) ?_
  refine lv_iload_n hx hb dX7_isOnOrdinary_167 rfl (lv_at hl 1 rfl) ?_
  refine lv_iload_n hx hb dX7_isOnOrdinary_168 rfl (lv_at hl 2 rfl) ?_
  refine kq_S (As := [.int 1, .int p0]) (rest := [.int p1]) (wr := []) hx hb hml hown hgw hK hG hA hP hD hS (c_X7_shift_1 l hfl D dA tE tC p0) m_1_171 m_1_172 m_1_2 m_1_173 hd_X7_shift rfl rfl ⟨(Nat.le_of_ble_eq_true rfl), (Nat.le_of_ble_eq_true rfl)⟩ [] [] rfl rfl rfl rfl (by decide) hl.1 rfl (Nat.le_of_ble_eq_true rfl) dX7_isOnOrdinary_169 ⟨(Nat.le_of_ble_eq_true rfl), (Nat.le_of_ble_eq_true rfl)⟩ (fun v w1 H locs hQ hP hD hS => ?_)
  obtain ⟨x1, rfl, rfl⟩ := hQ
  refine W.eq (g2 := F0 m 172 ls [.int x1, .int p1]) rfl ?_
  have hP : va_P D vwCl [] H := hP
  have hD : va_D A [] := hD
  refine lv_iadd hx hb dX7_isOnOrdinary_172 ?_
  refine lv_topi (fun x2 ex2 => ?_)
  refine lv_iconst (v := 2) hx hb dX7_isOnOrdinary_173 (by decide) ?_
  refine lv_iload_n hx hb dX7_isOnOrdinary_174 rfl (lv_at hl 2 rfl) ?_
  refine lv_imul hx hb dX7_isOnOrdinary_175 ?_
  refine lv_topi (fun x3 ex3 => ?_)
  refine lv_bipush (v := 15) hx hb dX7_isOnOrdinary_176 (by decide +kernel) ?_
  refine lv_isub hx hb dX7_isOnOrdinary_178 ?_
  refine lv_topi (fun x4 ex4 => ?_)
  refine va_mabs hx hb (hml.trans hl.1.symm) hown (hgw _ mM_1_174) (hgw _ mM_1_175) (hgw _ m_1_5) (hgw _ mM_1_176) (Nat.le_of_ble_eq_true rfl) (Nat.le_of_ble_eq_true rfl) (Nat.le_of_ble_eq_true rfl) (Nat.le_of_ble_eq_true rfl) dX7_isOnOrdinary_179 ?_
  refine lv_topi (fun x5 ex5 => ?_)
  refine lv_iconst (v := 2) hx hb dX7_isOnOrdinary_182 (by decide) ?_
  refine lv_idiv hx hb dX7_isOnOrdinary_183 (by decide) ?_
  refine lv_topi (fun x6 ex6 => ?_)
  refine lv_isub hx hb dX7_isOnOrdinary_184 ?_
  refine lv_topi (fun x7 ex7 => ?_)
  refine lv_iconst (v := 3) hx hb dX7_isOnOrdinary_185 (by decide) ?_
  refine lv_bipush (v := 6) hx hb dX7_isOnOrdinary_186 (by decide +kernel) ?_
  refine kq_S (As := [.int x7, .int 3, .int 6]) (rest := []) (wr := []) hx hb hml hown hgw hK hG hA hP hD hS (c_X7_isFromTo_4 l hfl D dA tE tC x7) m_1_180 m_1_181 m_1_2 m_1_182 hd_X7_isFromTo rfl rfl ⟨(Nat.le_of_ble_eq_true rfl), (Nat.le_of_ble_eq_true rfl)⟩ [] [] rfl rfl rfl rfl (by decide) hl.1 rfl (Nat.le_of_ble_eq_true rfl) dX7_isOnOrdinary_188 ⟨(Nat.le_of_ble_eq_true rfl), (Nat.le_of_ble_eq_true rfl)⟩ (fun v w1 H locs hQ hP hD hS => ?_)
  obtain ⟨x8, nx8, rfl, rfl⟩ := hQ
  refine W.eq (g2 := F0 m 191 ls [.int x8]) rfl ?_
  have hP : va_P D vwCl [] H := hP
  have hD : va_D A [] := hD
  have hP9 := hP.sub (ws' := []) [] rfl
  have hD9 := hD.sub (ws' := []) [] (by decide) rfl
  exact (kq_iret (v := x8) hx hb hr hlocks hS nx8 ⟨_, nx8, rfl, rfl⟩ hP9 hD9 (Nat.le_of_ble_eq_true rfl) (Nat.le_of_ble_eq_true rfl) dX7_isOnOrdinary_191)
set_option maxHeartbeats 4000000 in
set_option maxRecDepth 100000 in
theorem c_X7_isOnOrdinary_15 (l : Launch) (hfl : l.stackTraces = false) (D : va_G) (dA : Nat → ClassId) (tE tC : Nat) (p0 : Int32) (p1 : Int32) : Ct l D dA tE tC yX7_isOnOrdinary (Cond.code yX7_isOnOrdinary cX7_isOnOrdinary 4 (some .boolean) :: gW) ({ frames := 1, cells := 0, slots := 0, locals := 22 } : Room) [.int 28, .int 1, .int p0, .int p1] [] (fun v w1 => (∃ (p9 : Int32), narrow FieldType.boolean (.int p9) = .int p9 ∧ v = some (.int p9) ∧ w1 = [])) 0 0 := by
  refine Ct_of (by decide) (Nat.le_of_ble_eq_true rfl) ?_
  intro p e s m below meth c hx hb hr hml hown hnm hlocks hgw hK A hG hA hP hD ls hl
  have hl : lv_has ls 4 [(0, .int 28), (1, .int 1), (2, .int p0), (3, .int p1)] := hl
  have hS : va_S A s.heap s.heap [] := va_S.rf
  refine lv_iload_n hx hb dX7_isOnOrdinary_0 rfl (lv_at hl 0 rfl) ?_
  refine lv_tableOut (tgt := 192) hx hb dX7_isOnOrdinary_1 (by decide +kernel) (by decide) ?_
  refine lv_iload_n hx hb dX7_isOnOrdinary_192 rfl (lv_at hl 2 rfl) ?_
  refine lv_iconst (v := 2) hx hb dX7_isOnOrdinary_193 (by decide) ?_
  refine lv_bipush (v := 13) hx hb dX7_isOnOrdinary_194 (by decide +kernel) ?_
  refine kq_S (As := [.int p0, .int 2, .int 13]) (rest := []) (wr := []) hx hb hml hown hgw hK hG hA hP hD hS (c_X7_isFromTo_5 l hfl D dA tE tC p0) m_1_180 m_1_181 m_1_2 m_1_182 hd_X7_isFromTo rfl rfl ⟨(Nat.le_of_ble_eq_true rfl), (Nat.le_of_ble_eq_true rfl)⟩ [] [] rfl rfl rfl rfl (by decide) hl.1 rfl (Nat.le_of_ble_eq_true rfl) dX7_isOnOrdinary_196 ⟨(Nat.le_of_ble_eq_true rfl), (Nat.le_of_ble_eq_true rfl)⟩ (fun v w1 H locs hQ hP hD hS => ?_)
  obtain ⟨x1, nx1, rfl, rfl⟩ := hQ
  refine W.eq (g2 := F0 m 199 ls [.int x1]) rfl ?_
  have hP : va_P D vwCl [] H := hP
  have hD : va_D A [] := hD
  refine lv_if_eq (tgt := 212) hx hb dX7_isOnOrdinary_199 (by decide) (fun c_2 => ?_) (fun c_2 => ?_)
  · have c_2 := (kq_eq (x := x1) (y := 0) (a := x1.toInt) (b := 0) (by rfl) (by decide +kernel)).mp c_2
    refine lv_iconst (v := 1) hx hb dX7_isOnOrdinary_212 (by decide) ?_
    refine lv_goto (tgt := 217) hx hb dX7_isOnOrdinary_213 (by decide) ?_
    have hP9 := hP.sub (ws' := []) [] rfl
    have hD9 := hD.sub (ws' := []) [] (by decide) rfl
    exact (kq_iret (v := 1) hx hb hr hlocks hS rfl ⟨_, rfl, rfl, rfl⟩ hP9 hD9 (Nat.le_of_ble_eq_true rfl) (Nat.le_of_ble_eq_true rfl) dX7_isOnOrdinary_217)
  · have c_2 := mt (kq_eq (x := x1) (y := 0) (a := x1.toInt) (b := 0) (by rfl) (by decide +kernel)).mpr c_2
    refine lv_iload_n hx hb dX7_isOnOrdinary_202 rfl (lv_at hl 3 rfl) ?_
    refine lv_iconst (v := 2) hx hb dX7_isOnOrdinary_203 (by decide) ?_
    refine lv_bipush (v := 13) hx hb dX7_isOnOrdinary_204 (by decide +kernel) ?_
    refine kq_S (As := [.int p1, .int 2, .int 13]) (rest := []) (wr := []) hx hb hml hown hgw hK hG hA hP hD hS (c_X7_isFromTo_5 l hfl D dA tE tC p1) m_1_180 m_1_181 m_1_2 m_1_182 hd_X7_isFromTo rfl rfl ⟨(Nat.le_of_ble_eq_true rfl), (Nat.le_of_ble_eq_true rfl)⟩ [] [] rfl rfl rfl rfl (by decide) hl.1 rfl (Nat.le_of_ble_eq_true rfl) dX7_isOnOrdinary_206 ⟨(Nat.le_of_ble_eq_true rfl), (Nat.le_of_ble_eq_true rfl)⟩ (fun v w1 H locs hQ hP hD hS => ?_)
    obtain ⟨x3, nx3, rfl, rfl⟩ := hQ
    refine W.eq (g2 := F0 m 209 ls [.int x3]) rfl ?_
    have hP : va_P D vwCl [] H := hP
    have hD : va_D A [] := hD
    refine lv_if_ne (tgt := 216) hx hb dX7_isOnOrdinary_209 (by decide) (fun c_4 => ?_) (fun c_4 => ?_)
    · have c_4 := mt (kq_eq (x := x3) (y := 0) (a := x3.toInt) (b := 0) (by rfl) (by decide +kernel)).mpr c_4
      refine lv_iconst (v := 0) hx hb dX7_isOnOrdinary_216 (by decide) ?_
      have hP9 := hP.sub (ws' := []) [] rfl
      have hD9 := hD.sub (ws' := []) [] (by decide) rfl
      exact (kq_iret (v := 0) hx hb hr hlocks hS rfl ⟨_, rfl, rfl, rfl⟩ hP9 hD9 (Nat.le_of_ble_eq_true rfl) (Nat.le_of_ble_eq_true rfl) dX7_isOnOrdinary_217)
    · have c_4 := (kq_eq (x := x3) (y := 0) (a := x3.toInt) (b := 0) (by rfl) (by decide +kernel)).mp c_4
      refine lv_iconst (v := 1) hx hb dX7_isOnOrdinary_212 (by decide) ?_
      refine lv_goto (tgt := 217) hx hb dX7_isOnOrdinary_213 (by decide) ?_
      have hP9 := hP.sub (ws' := []) [] rfl
      have hD9 := hD.sub (ws' := []) [] (by decide) rfl
      exact (kq_iret (v := 1) hx hb hr hlocks hS rfl ⟨_, rfl, rfl, rfl⟩ hP9 hD9 (Nat.le_of_ble_eq_true rfl) (Nat.le_of_ble_eq_true rfl) dX7_isOnOrdinary_217)
set_option maxHeartbeats 4000000 in
set_option maxRecDepth 100000 in
theorem c_X7_shift_2 (l : Launch) (hfl : l.stackTraces = false) (D : va_G) (dA : Nat → ClassId) (tE tC : Nat) (p0 : Int32) : Ct l D dA tE tC yX7_shift (Cond.code yX7_shift cX7_shift 2 (some .int) :: gW) ({ frames := 0, cells := 0, slots := 0, locals := 0 } : Room) [.int 2, .int p0] [] (fun v w1 => (∃ (p9 : Int32), v = some (.int p9) ∧ w1 = [])) 0 0 := by
  refine Ct_of (by decide) (Nat.le_of_ble_eq_true rfl) ?_
  intro p e s m below meth c hx hb hr hml hown hnm hlocks hgw hK A hG hA hP hD ls hl
  have hl : lv_has ls 2 [(0, .int 2), (1, .int p0)] := hl
  have hS : va_S A s.heap s.heap [] := va_S.rf
  refine lv_iload_n hx hb dX7_shift_0 rfl (lv_at hl 1 rfl) ?_
  refine lv_iconst (v := 4) hx hb dX7_shift_1 (by decide) ?_
  refine lv_irem hx hb dX7_shift_2 (by decide) ?_
  refine lv_topi (fun x1 ex1 => ?_)
  refine lv_iconst (v := 2) hx hb dX7_shift_3 (by decide) ?_
  refine lv_icmp_lt (tgt := 11) hx hb dX7_shift_4 (by decide) (fun c_2 => ?_) (fun c_2 => ?_)
  · have c_2 := (kq_lt (x := x1) (y := 2) (a := x1.toInt) (b := 2) (by rfl) (by decide +kernel)).mp c_2
    refine lv_iconst (v := 0) hx hb dX7_shift_11 (by decide) ?_
    have hP9 := hP.sub (ws' := []) [] rfl
    have hD9 := hD.sub (ws' := []) [] (by decide) rfl
    exact (kq_iret (v := 0) hx hb hr hlocks hS rfl ⟨_, rfl, rfl⟩ hP9 hD9 (Nat.le_of_ble_eq_true rfl) (Nat.le_of_ble_eq_true rfl) dX7_shift_12)
  · have c_2 := mt (kq_lt (x := x1) (y := 2) (a := x1.toInt) (b := 2) (by rfl) (by decide +kernel)).mpr c_2
    refine lv_iload_n hx hb dX7_shift_7 rfl (lv_at hl 0 rfl) ?_
    refine lv_goto (tgt := 12) hx hb dX7_shift_8 (by decide) ?_
    have hP9 := hP.sub (ws' := []) [] rfl
    have hD9 := hD.sub (ws' := []) [] (by decide) rfl
    exact (kq_iret (v := 2) hx hb hr hlocks hS rfl ⟨_, rfl, rfl⟩ hP9 hD9 (Nat.le_of_ble_eq_true rfl) (Nat.le_of_ble_eq_true rfl) dX7_shift_12)
set_option maxHeartbeats 4000000 in
set_option maxRecDepth 100000 in
theorem c_X7_isSecond_10 (l : Launch) (hfl : l.stackTraces = false) (D : va_G) (dA : Nat → ClassId) (tE tC : Nat) (p0 : Int32) (p1 : Int32) : Ct l D dA tE tC yX7_isSecond (Cond.code yX7_isSecond cX7_isSecond 4 (some .boolean) :: gW) ({ frames := 1, cells := 0, slots := 0, locals := 21 } : Room) [.int 11, .int 2, .int p0, .int p1] [] (fun v w1 => (∃ (p9 : Int32), narrow FieldType.boolean (.int p9) = .int p9 ∧ v = some (.int p9) ∧ w1 = [])) 0 0 := by
  refine Ct_of (by decide) (Nat.le_of_ble_eq_true rfl) ?_
  intro p e s m below meth c hx hb hr hml hown hnm hlocks hgw hK A hG hA hP hD ls hl
  have hl : lv_has ls 4 [(0, .int 11), (1, .int 2), (2, .int p0), (3, .int p1)] := hl
  have hS : va_S A s.heap s.heap [] := va_S.rf
  refine lv_iload_n hx hb dX7_isSecond_0 rfl (lv_at hl 0 rfl) ?_
  refine lv_tableIn (off := 31) (tgt := 32) hx hb dX7_isSecond_1 (by decide +kernel) (by decide +kernel) (by decide +kernel) (by decide) ?_
  refine lv_iload_n hx hb dX7_isSecond_32 rfl (lv_at hl 2 rfl) ?_
  refine lv_iload_n hx hb dX7_isSecond_33 rfl (lv_at hl 1 rfl) ?_
  refine lv_iload_n hx hb dX7_isSecond_34 rfl (lv_at hl 3 rfl) ?_
  refine kq_S (As := [.int 2, .int p1]) (rest := [.int p0]) (wr := []) hx hb hml hown hgw hK hG hA hP hD hS (c_X7_shift_2 l hfl D dA tE tC p1) m_1_171 m_1_172 m_1_2 m_1_173 hd_X7_shift rfl rfl ⟨(Nat.le_of_ble_eq_true rfl), (Nat.le_of_ble_eq_true rfl)⟩ [] [] rfl rfl rfl rfl (by decide) hl.1 rfl (Nat.le_of_ble_eq_true rfl) dX7_isSecond_35 ⟨(Nat.le_of_ble_eq_true rfl), (Nat.le_of_ble_eq_true rfl)⟩ (fun v w1 H locs hQ hP hD hS => ?_)
  obtain ⟨x1, rfl, rfl⟩ := hQ
  refine W.eq (g2 := F0 m 38 ls [.int x1, .int p0]) rfl ?_
  have hP : va_P D vwCl [] H := hP
  have hD : va_D A [] := hD
  refine lv_iadd hx hb dX7_isSecond_38 ?_
  refine lv_topi (fun x2 ex2 => ?_)
  refine lv_bipush (v := 8) hx hb dX7_isSecond_39 (by decide +kernel) ?_
  refine lv_icmp_lt (tgt := 48) hx hb dX7_isSecond_41 (by decide) (fun c_3 => ?_) (fun c_3 => ?_)
  · have c_3 := (kq_lt (x := x2) (y := 8) (a := x2.toInt) (b := 8) (by rfl) (by decide +kernel)).mp c_3
    refine lv_iconst (v := 0) hx hb dX7_isSecond_48 (by decide) ?_
    have hP9 := hP.sub (ws' := []) [] rfl
    have hD9 := hD.sub (ws' := []) [] (by decide) rfl
    exact (kq_iret (v := 0) hx hb hr hlocks hS rfl ⟨_, rfl, rfl, rfl⟩ hP9 hD9 (Nat.le_of_ble_eq_true rfl) (Nat.le_of_ble_eq_true rfl) dX7_isSecond_49)
  · have c_3 := mt (kq_lt (x := x2) (y := 8) (a := x2.toInt) (b := 8) (by rfl) (by decide +kernel)).mpr c_3
    refine lv_iconst (v := 1) hx hb dX7_isSecond_44 (by decide) ?_
    refine lv_goto (tgt := 49) hx hb dX7_isSecond_45 (by decide) ?_
    have hP9 := hP.sub (ws' := []) [] rfl
    have hD9 := hD.sub (ws' := []) [] (by decide) rfl
    exact (kq_iret (v := 1) hx hb hr hlocks hS rfl ⟨_, rfl, rfl, rfl⟩ hP9 hD9 (Nat.le_of_ble_eq_true rfl) (Nat.le_of_ble_eq_true rfl) dX7_isSecond_49)
set_option maxHeartbeats 4000000 in
set_option maxRecDepth 100000 in
theorem c_X7_isSecond_11 (l : Launch) (hfl : l.stackTraces = false) (D : va_G) (dA : Nat → ClassId) (tE tC : Nat) (p0 : Int32) (p1 : Int32) : Ct l D dA tE tC yX7_isSecond (Cond.code yX7_isSecond cX7_isSecond 4 (some .boolean) :: gW) ({ frames := 1, cells := 0, slots := 0, locals := 21 } : Room) [.int 12, .int 2, .int p0, .int p1] [] (fun v w1 => (∃ (p9 : Int32), narrow FieldType.boolean (.int p9) = .int p9 ∧ v = some (.int p9) ∧ w1 = [])) 0 0 := by
  refine Ct_of (by decide) (Nat.le_of_ble_eq_true rfl) ?_
  intro p e s m below meth c hx hb hr hml hown hnm hlocks hgw hK A hG hA hP hD ls hl
  have hl : lv_has ls 4 [(0, .int 12), (1, .int 2), (2, .int p0), (3, .int p1)] := hl
  have hS : va_S A s.heap s.heap [] := va_S.rf
  refine lv_iload_n hx hb dX7_isSecond_0 rfl (lv_at hl 0 rfl) ?_
  refine lv_tableIn (off := 49) (tgt := 50) hx hb dX7_isSecond_1 (by decide +kernel) (by decide +kernel) (by decide +kernel) (by decide) ?_
  refine lv_iload_n hx hb dX7_isSecond_50 rfl (lv_at hl 3 rfl) ?_
  refine lv_iload_n hx hb dX7_isSecond_51 rfl (lv_at hl 1 rfl) ?_
  refine lv_iload_n hx hb dX7_isSecond_52 rfl (lv_at hl 2 rfl) ?_
  refine kq_S (As := [.int 2, .int p0]) (rest := [.int p1]) (wr := []) hx hb hml hown hgw hK hG hA hP hD hS (c_X7_shift_2 l hfl D dA tE tC p0) m_1_171 m_1_172 m_1_2 m_1_173 hd_X7_shift rfl rfl ⟨(Nat.le_of_ble_eq_true rfl), (Nat.le_of_ble_eq_true rfl)⟩ [] [] rfl rfl rfl rfl (by decide) hl.1 rfl (Nat.le_of_ble_eq_true rfl) dX7_isSecond_53 ⟨(Nat.le_of_ble_eq_true rfl), (Nat.le_of_ble_eq_true rfl)⟩ (fun v w1 H locs hQ hP hD hS => ?_)
  obtain ⟨x1, rfl, rfl⟩ := hQ
  refine W.eq (g2 := F0 m 56 ls [.int x1, .int p1]) rfl ?_
  have hP : va_P D vwCl [] H := hP
  have hD : va_D A [] := hD
  refine lv_iadd hx hb dX7_isSecond_56 ?_
  refine lv_topi (fun x2 ex2 => ?_)
  refine lv_bipush (v := 8) hx hb dX7_isSecond_57 (by decide +kernel) ?_
  refine lv_icmp_lt (tgt := 66) hx hb dX7_isSecond_59 (by decide) (fun c_3 => ?_) (fun c_3 => ?_)
  · have c_3 := (kq_lt (x := x2) (y := 8) (a := x2.toInt) (b := 8) (by rfl) (by decide +kernel)).mp c_3
    refine lv_iconst (v := 0) hx hb dX7_isSecond_66 (by decide) ?_
    have hP9 := hP.sub (ws' := []) [] rfl
    have hD9 := hD.sub (ws' := []) [] (by decide) rfl
    exact (kq_iret (v := 0) hx hb hr hlocks hS rfl ⟨_, rfl, rfl, rfl⟩ hP9 hD9 (Nat.le_of_ble_eq_true rfl) (Nat.le_of_ble_eq_true rfl) dX7_isSecond_67)
  · have c_3 := mt (kq_lt (x := x2) (y := 8) (a := x2.toInt) (b := 8) (by rfl) (by decide +kernel)).mpr c_3
    refine lv_iconst (v := 1) hx hb dX7_isSecond_62 (by decide) ?_
    refine lv_goto (tgt := 67) hx hb dX7_isSecond_63 (by decide) ?_
    have hP9 := hP.sub (ws' := []) [] rfl
    have hD9 := hD.sub (ws' := []) [] (by decide) rfl
    exact (kq_iret (v := 1) hx hb hr hlocks hS rfl ⟨_, rfl, rfl, rfl⟩ hP9 hD9 (Nat.le_of_ble_eq_true rfl) (Nat.le_of_ble_eq_true rfl) dX7_isSecond_67)
set_option maxHeartbeats 4000000 in
set_option maxRecDepth 100000 in
theorem c_X7_isSecond_12 (l : Launch) (hfl : l.stackTraces = false) (D : va_G) (dA : Nat → ClassId) (tE tC : Nat) (p0 : Int32) (p1 : Int32) : Ct l D dA tE tC yX7_isSecond (Cond.code yX7_isSecond cX7_isSecond 4 (some .boolean) :: gW) ({ frames := 1, cells := 0, slots := 0, locals := 21 } : Room) [.int 13, .int 2, .int p0, .int p1] [] (fun v w1 => (∃ (p9 : Int32), narrow FieldType.boolean (.int p9) = .int p9 ∧ v = some (.int p9) ∧ w1 = [])) 0 0 := by
  refine Ct_of (by decide) (Nat.le_of_ble_eq_true rfl) ?_
  intro p e s m below meth c hx hb hr hml hown hnm hlocks hgw hK A hG hA hP hD ls hl
  have hl : lv_has ls 4 [(0, .int 13), (1, .int 2), (2, .int p0), (3, .int p1)] := hl
  have hS : va_S A s.heap s.heap [] := va_S.rf
  refine lv_iload_n hx hb dX7_isSecond_0 rfl (lv_at hl 0 rfl) ?_
  refine lv_tableIn (off := 67) (tgt := 68) hx hb dX7_isSecond_1 (by decide +kernel) (by decide +kernel) (by decide +kernel) (by decide) ?_
  refine lv_iload_n hx hb dX7_isSecond_68 rfl (lv_at hl 3 rfl) ?_
  refine lv_iload_n hx hb dX7_isSecond_69 rfl (lv_at hl 1 rfl) ?_
  refine lv_iload_n hx hb dX7_isSecond_70 rfl (lv_at hl 2 rfl) ?_
  refine kq_S (As := [.int 2, .int p0]) (rest := [.int p1]) (wr := []) hx hb hml hown hgw hK hG hA hP hD hS (c_X7_shift_2 l hfl D dA tE tC p0) m_1_171 m_1_172 m_1_2 m_1_173 hd_X7_shift rfl rfl ⟨(Nat.le_of_ble_eq_true rfl), (Nat.le_of_ble_eq_true rfl)⟩ [] [] rfl rfl rfl rfl (by decide) hl.1 rfl (Nat.le_of_ble_eq_true rfl) dX7_isSecond_71 ⟨(Nat.le_of_ble_eq_true rfl), (Nat.le_of_ble_eq_true rfl)⟩ (fun v w1 H locs hQ hP hD hS => ?_)
  obtain ⟨x1, rfl, rfl⟩ := hQ
  refine W.eq (g2 := F0 m 74 ls [.int x1, .int p1]) rfl ?_
  have hP : va_P D vwCl [] H := hP
  have hD : va_D A [] := hD
  refine lv_iadd hx hb dX7_isSecond_74 ?_
  refine lv_topi (fun x2 ex2 => ?_)
  refine lv_iload_n hx hb dX7_isSecond_75 rfl (lv_at hl 2 rfl) ?_
  refine lv_icmp_le (tgt := 83) hx hb dX7_isSecond_76 (by decide) (fun c_3 => ?_) (fun c_3 => ?_)
  · have c_3 := (kq_le (x := x2) (y := p0) (a := x2.toInt) (b := p0.toInt) (by rfl) (by rfl)).mp c_3
    refine lv_iconst (v := 0) hx hb dX7_isSecond_83 (by decide) ?_
    have hP9 := hP.sub (ws' := []) [] rfl
    have hD9 := hD.sub (ws' := []) [] (by decide) rfl
    exact (kq_iret (v := 0) hx hb hr hlocks hS rfl ⟨_, rfl, rfl, rfl⟩ hP9 hD9 (Nat.le_of_ble_eq_true rfl) (Nat.le_of_ble_eq_true rfl) dX7_isSecond_84)
  · have c_3 := mt (kq_le (x := x2) (y := p0) (a := x2.toInt) (b := p0.toInt) (by rfl) (by rfl)).mpr c_3
    refine lv_iconst (v := 1) hx hb dX7_isSecond_79 (by decide) ?_
    refine lv_goto (tgt := 84) hx hb dX7_isSecond_80 (by decide) ?_
    have hP9 := hP.sub (ws' := []) [] rfl
    have hD9 := hD.sub (ws' := []) [] (by decide) rfl
    exact (kq_iret (v := 1) hx hb hr hlocks hS rfl ⟨_, rfl, rfl, rfl⟩ hP9 hD9 (Nat.le_of_ble_eq_true rfl) (Nat.le_of_ble_eq_true rfl) dX7_isSecond_84)
set_option maxHeartbeats 4000000 in
set_option maxRecDepth 100000 in
theorem c_X7_isSecond_13 (l : Launch) (hfl : l.stackTraces = false) (D : va_G) (dA : Nat → ClassId) (tE tC : Nat) (p0 : Int32) (p1 : Int32) : Ct l D dA tE tC yX7_isSecond (Cond.code yX7_isSecond cX7_isSecond 4 (some .boolean) :: gW) ({ frames := 1, cells := 0, slots := 0, locals := 14 } : Room) [.int 14, .int 2, .int p0, .int p1] [] (fun v w1 => (∃ (p9 : Int32), narrow FieldType.boolean (.int p9) = .int p9 ∧ v = some (.int p9) ∧ w1 = [])) 0 0 := by
  refine Ct_of (by decide) (Nat.le_of_ble_eq_true rfl) ?_
  intro p e s m below meth c hx hb hr hml hown hnm hlocks hgw hK A hG hA hP hD ls hl
  have hl : lv_has ls 4 [(0, .int 14), (1, .int 2), (2, .int p0), (3, .int p1)] := hl
  have hS : va_S A s.heap s.heap [] := va_S.rf
  refine lv_iload_n hx hb dX7_isSecond_0 rfl (lv_at hl 0 rfl) ?_
  refine lv_tableIn (off := 84) (tgt := 85) hx hb dX7_isSecond_1 (by decide +kernel) (by decide +kernel) (by decide +kernel) (by decide) ?_
  refine lv_iconst (v := 2) hx hb dX7_isSecond_85 (by decide) ?_
  refine lv_iload_n hx hb dX7_isSecond_86 rfl (lv_at hl 2 rfl) ?_
  refine lv_imul hx hb dX7_isSecond_87 ?_
  refine lv_topi (fun x1 ex1 => ?_)
  refine lv_bipush (v := 15) hx hb dX7_isSecond_88 (by decide +kernel) ?_
  refine lv_isub hx hb dX7_isSecond_90 ?_
  refine lv_topi (fun x2 ex2 => ?_)
  refine va_mabs hx hb (hml.trans hl.1.symm) hown (hgw _ mM_1_174) (hgw _ mM_1_175) (hgw _ m_1_5) (hgw _ mM_1_176) (Nat.le_of_ble_eq_true rfl) (Nat.le_of_ble_eq_true rfl) (Nat.le_of_ble_eq_true rfl) (Nat.le_of_ble_eq_true rfl) dX7_isSecond_91 ?_
  refine lv_topi (fun x3 ex3 => ?_)
  refine lv_iconst (v := 2) hx hb dX7_isSecond_94 (by decide) ?_
  refine lv_iload_n hx hb dX7_isSecond_95 rfl (lv_at hl 3 rfl) ?_
  refine lv_imul hx hb dX7_isSecond_96 ?_
  refine lv_topi (fun x4 ex4 => ?_)
  refine lv_bipush (v := 15) hx hb dX7_isSecond_97 (by decide +kernel) ?_
  refine lv_isub hx hb dX7_isSecond_99 ?_
  refine lv_topi (fun x5 ex5 => ?_)
  refine va_mabs hx hb (hml.trans hl.1.symm) hown (hgw _ mM_1_174) (hgw _ mM_1_175) (hgw _ m_1_5) (hgw _ mM_1_176) (Nat.le_of_ble_eq_true rfl) (Nat.le_of_ble_eq_true rfl) (Nat.le_of_ble_eq_true rfl) (Nat.le_of_ble_eq_true rfl) dX7_isSecond_100 ?_
  refine lv_topi (fun x6 ex6 => ?_)
  refine lv_icmp_le (tgt := 110) hx hb dX7_isSecond_103 (by decide) (fun c_7 => ?_) (fun c_7 => ?_)
  · have c_7 := (kq_le (x := x3) (y := x6) (a := x3.toInt) (b := x6.toInt) (by rfl) (by rfl)).mp c_7
    refine lv_iconst (v := 0) hx hb dX7_isSecond_110 (by decide) ?_
    have hP9 := hP.sub (ws' := []) [] rfl
    have hD9 := hD.sub (ws' := []) [] (by decide) rfl
    exact (kq_iret (v := 0) hx hb hr hlocks hS rfl ⟨_, rfl, rfl, rfl⟩ hP9 hD9 (Nat.le_of_ble_eq_true rfl) (Nat.le_of_ble_eq_true rfl) dX7_isSecond_111)
  · have c_7 := mt (kq_le (x := x3) (y := x6) (a := x3.toInt) (b := x6.toInt) (by rfl) (by rfl)).mpr c_7
    refine lv_iconst (v := 1) hx hb dX7_isSecond_106 (by decide) ?_
    refine lv_goto (tgt := 111) hx hb dX7_isSecond_107 (by decide) ?_
    have hP9 := hP.sub (ws' := []) [] rfl
    have hD9 := hD.sub (ws' := []) [] (by decide) rfl
    exact (kq_iret (v := 1) hx hb hr hlocks hS rfl ⟨_, rfl, rfl, rfl⟩ hP9 hD9 (Nat.le_of_ble_eq_true rfl) (Nat.le_of_ble_eq_true rfl) dX7_isSecond_111)
set_option maxHeartbeats 4000000 in
set_option maxRecDepth 100000 in
theorem c_X7_isSecond_14 (l : Launch) (hfl : l.stackTraces = false) (D : va_G) (dA : Nat → ClassId) (tE tC : Nat) (p0 : Int32) (p1 : Int32) : Ct l D dA tE tC yX7_isSecond (Cond.code yX7_isSecond cX7_isSecond 4 (some .boolean) :: gW) ({ frames := 0, cells := 0, slots := 0, locals := 0 } : Room) [.int 15, .int 2, .int p0, .int p1] [] (fun v w1 => (∃ (p9 : Int32), narrow FieldType.boolean (.int p9) = .int p9 ∧ v = some (.int p9) ∧ w1 = [])) 0 0 := by
  refine Ct_of (by decide) (Nat.le_of_ble_eq_true rfl) ?_
  intro p e s m below meth c hx hb hr hml hown hnm hlocks hgw hK A hG hA hP hD ls hl
  have hl : lv_has ls 4 [(0, .int 15), (1, .int 2), (2, .int p0), (3, .int p1)] := hl
  have hS : va_S A s.heap s.heap [] := va_S.rf
  refine lv_iload_n hx hb dX7_isSecond_0 rfl (lv_at hl 0 rfl) ?_
  refine lv_tableOut (tgt := 112) hx hb dX7_isSecond_1 (by decide +kernel) (by decide) ?_
  refine lv_iload_n hx hb dX7_isSecond_112 rfl (lv_at hl 2 rfl) ?_
  refine lv_bipush (v := 8) hx hb dX7_isSecond_113 (by decide +kernel) ?_
  refine lv_icmp_lt (tgt := 122) hx hb dX7_isSecond_115 (by decide) (fun c_1 => ?_) (fun c_1 => ?_)
  · have c_1 := (kq_lt (x := p0) (y := 8) (a := p0.toInt) (b := 8) (by rfl) (by decide +kernel)).mp c_1
    refine lv_iconst (v := 0) hx hb dX7_isSecond_122 (by decide) ?_
    refine lv_iload_n hx hb dX7_isSecond_123 rfl (lv_at hl 3 rfl) ?_
    refine lv_bipush (v := 8) hx hb dX7_isSecond_124 (by decide +kernel) ?_
    refine lv_icmp_lt (tgt := 133) hx hb dX7_isSecond_126 (by decide) (fun c_2 => ?_) (fun c_2 => ?_)
    · have c_2 := (kq_lt (x := p1) (y := 8) (a := p1.toInt) (b := 8) (by rfl) (by decide +kernel)).mp c_2
      refine lv_iconst (v := 0) hx hb dX7_isSecond_133 (by decide) ?_
      refine lv_icmp_eq (tgt := 141) hx hb dX7_isSecond_134 (by decide) (fun _ => ?_) (fun h => absurd (by decide +kernel) h)
      refine lv_iconst (v := 0) hx hb dX7_isSecond_141 (by decide) ?_
      have hP9 := hP.sub (ws' := []) [] rfl
      have hD9 := hD.sub (ws' := []) [] (by decide) rfl
      exact (kq_iret (v := 0) hx hb hr hlocks hS rfl ⟨_, rfl, rfl, rfl⟩ hP9 hD9 (Nat.le_of_ble_eq_true rfl) (Nat.le_of_ble_eq_true rfl) dX7_isSecond_142)
    · have c_2 := mt (kq_lt (x := p1) (y := 8) (a := p1.toInt) (b := 8) (by rfl) (by decide +kernel)).mpr c_2
      refine lv_iconst (v := 1) hx hb dX7_isSecond_129 (by decide) ?_
      refine lv_goto (tgt := 134) hx hb dX7_isSecond_130 (by decide) ?_
      refine lv_icmp_eq (tgt := 141) hx hb dX7_isSecond_134 (by decide) (fun h => absurd h (by decide +kernel)) (fun _ => ?_)
      refine lv_iconst (v := 1) hx hb dX7_isSecond_137 (by decide) ?_
      refine lv_goto (tgt := 142) hx hb dX7_isSecond_138 (by decide) ?_
      have hP9 := hP.sub (ws' := []) [] rfl
      have hD9 := hD.sub (ws' := []) [] (by decide) rfl
      exact (kq_iret (v := 1) hx hb hr hlocks hS rfl ⟨_, rfl, rfl, rfl⟩ hP9 hD9 (Nat.le_of_ble_eq_true rfl) (Nat.le_of_ble_eq_true rfl) dX7_isSecond_142)
  · have c_1 := mt (kq_lt (x := p0) (y := 8) (a := p0.toInt) (b := 8) (by rfl) (by decide +kernel)).mpr c_1
    refine lv_iconst (v := 1) hx hb dX7_isSecond_118 (by decide) ?_
    refine lv_goto (tgt := 123) hx hb dX7_isSecond_119 (by decide) ?_
    refine lv_iload_n hx hb dX7_isSecond_123 rfl (lv_at hl 3 rfl) ?_
    refine lv_bipush (v := 8) hx hb dX7_isSecond_124 (by decide +kernel) ?_
    refine lv_icmp_lt (tgt := 133) hx hb dX7_isSecond_126 (by decide) (fun c_3 => ?_) (fun c_3 => ?_)
    · have c_3 := (kq_lt (x := p1) (y := 8) (a := p1.toInt) (b := 8) (by rfl) (by decide +kernel)).mp c_3
      refine lv_iconst (v := 0) hx hb dX7_isSecond_133 (by decide) ?_
      refine lv_icmp_eq (tgt := 141) hx hb dX7_isSecond_134 (by decide) (fun h => absurd h (by decide +kernel)) (fun _ => ?_)
      refine lv_iconst (v := 1) hx hb dX7_isSecond_137 (by decide) ?_
      refine lv_goto (tgt := 142) hx hb dX7_isSecond_138 (by decide) ?_
      have hP9 := hP.sub (ws' := []) [] rfl
      have hD9 := hD.sub (ws' := []) [] (by decide) rfl
      exact (kq_iret (v := 1) hx hb hr hlocks hS rfl ⟨_, rfl, rfl, rfl⟩ hP9 hD9 (Nat.le_of_ble_eq_true rfl) (Nat.le_of_ble_eq_true rfl) dX7_isSecond_142)
    · have c_3 := mt (kq_lt (x := p1) (y := 8) (a := p1.toInt) (b := 8) (by rfl) (by decide +kernel)).mpr c_3
      refine lv_iconst (v := 1) hx hb dX7_isSecond_129 (by decide) ?_
      refine lv_goto (tgt := 134) hx hb dX7_isSecond_130 (by decide) ?_
      refine lv_icmp_eq (tgt := 141) hx hb dX7_isSecond_134 (by decide) (fun _ => ?_) (fun h => absurd (by decide +kernel) h)
      refine lv_iconst (v := 0) hx hb dX7_isSecond_141 (by decide) ?_
      have hP9 := hP.sub (ws' := []) [] rfl
      have hD9 := hD.sub (ws' := []) [] (by decide) rfl
      exact (kq_iret (v := 0) hx hb hr hlocks hS rfl ⟨_, rfl, rfl, rfl⟩ hP9 hD9 (Nat.le_of_ble_eq_true rfl) (Nat.le_of_ble_eq_true rfl) dX7_isSecond_142)
set_option maxHeartbeats 4000000 in
set_option maxRecDepth 100000 in
theorem c_X7_isOnOrdinary_16 (l : Launch) (hfl : l.stackTraces = false) (D : va_G) (dA : Nat → ClassId) (tE tC : Nat) (p0 : Int32) (p1 : Int32) : Ct l D dA tE tC yX7_isOnOrdinary (Cond.code yX7_isOnOrdinary cX7_isOnOrdinary 4 (some .boolean) :: gW) ({ frames := 1, cells := 0, slots := 0, locals := 22 } : Room) [.int 21, .int 2, .int p0, .int p1] [] (fun v w1 => (∃ (p9 : Int32), narrow FieldType.boolean (.int p9) = .int p9 ∧ v = some (.int p9) ∧ w1 = [])) 0 0 := by
  refine Ct_of (by decide) (Nat.le_of_ble_eq_true rfl) ?_
  intro p e s m below meth c hx hb hr hml hown hnm hlocks hgw hK A hG hA hP hD ls hl
  have hl : lv_has ls 4 [(0, .int 21), (1, .int 2), (2, .int p0), (3, .int p1)] := hl
  have hS : va_S A s.heap s.heap [] := va_S.rf
  refine lv_iload_n hx hb dX7_isOnOrdinary_0 rfl (lv_at hl 0 rfl) ?_
  refine lv_tableIn (off := 43) (tgt := 44) hx hb dX7_isOnOrdinary_1 (by decide +kernel) (by decide +kernel) (by decide +kernel) (by decide) ?_
  refine lv_iload_n hx hb dX7_isOnOrdinary_44 rfl (lv_at hl 2 rfl) ?_
  refine lv_iload_n hx hb dX7_isOnOrdinary_45 rfl (lv_at hl 1 rfl) ?_
  refine lv_iload_n hx hb dX7_isOnOrdinary_46 rfl (lv_at hl 3 rfl) ?_
  refine kq_S (As := [.int 2, .int p1]) (rest := [.int p0]) (wr := []) hx hb hml hown hgw hK hG hA hP hD hS (c_X7_shift_2 l hfl D dA tE tC p1) m_1_171 m_1_172 m_1_2 m_1_173 hd_X7_shift rfl rfl ⟨(Nat.le_of_ble_eq_true rfl), (Nat.le_of_ble_eq_true rfl)⟩ [] [] rfl rfl rfl rfl (by decide) hl.1 rfl (Nat.le_of_ble_eq_true rfl) dX7_isOnOrdinary_47 ⟨(Nat.le_of_ble_eq_true rfl), (Nat.le_of_ble_eq_true rfl)⟩ (fun v w1 H locs hQ hP hD hS => ?_)
  obtain ⟨x1, rfl, rfl⟩ := hQ
  refine W.eq (g2 := F0 m 50 ls [.int x1, .int p0]) rfl ?_
  have hP : va_P D vwCl [] H := hP
  have hD : va_D A [] := hD
  refine lv_iadd hx hb dX7_isOnOrdinary_50 ?_
  refine lv_topi (fun x2 ex2 => ?_)
  refine lv_bipush (v := 6) hx hb dX7_isOnOrdinary_51 (by decide +kernel) ?_
  refine lv_bipush (v := 9) hx hb dX7_isOnOrdinary_53 (by decide +kernel) ?_
  refine kq_S (As := [.int x2, .int 6, .int 9]) (rest := []) (wr := []) hx hb hml hown hgw hK hG hA hP hD hS (c_X7_isFromTo l hfl D dA tE tC x2) m_1_180 m_1_181 m_1_2 m_1_182 hd_X7_isFromTo rfl rfl ⟨(Nat.le_of_ble_eq_true rfl), (Nat.le_of_ble_eq_true rfl)⟩ [] [] rfl rfl rfl rfl (by decide) hl.1 rfl (Nat.le_of_ble_eq_true rfl) dX7_isOnOrdinary_55 ⟨(Nat.le_of_ble_eq_true rfl), (Nat.le_of_ble_eq_true rfl)⟩ (fun v w1 H locs hQ hP hD hS => ?_)
  obtain ⟨x3, nx3, rfl, rfl⟩ := hQ
  refine W.eq (g2 := F0 m 58 ls [.int x3]) rfl ?_
  have hP : va_P D vwCl [] H := hP
  have hD : va_D A [] := hD
  have hP9 := hP.sub (ws' := []) [] rfl
  have hD9 := hD.sub (ws' := []) [] (by decide) rfl
  exact (kq_iret (v := x3) hx hb hr hlocks hS nx3 ⟨_, nx3, rfl, rfl⟩ hP9 hD9 (Nat.le_of_ble_eq_true rfl) (Nat.le_of_ble_eq_true rfl) dX7_isOnOrdinary_58)
set_option maxHeartbeats 4000000 in
set_option maxRecDepth 100000 in
theorem c_X7_isOnOrdinary_17 (l : Launch) (hfl : l.stackTraces = false) (D : va_G) (dA : Nat → ClassId) (tE tC : Nat) (p0 : Int32) (p1 : Int32) : Ct l D dA tE tC yX7_isOnOrdinary (Cond.code yX7_isOnOrdinary cX7_isOnOrdinary 4 (some .boolean) :: gW) ({ frames := 1, cells := 0, slots := 0, locals := 22 } : Room) [.int 22, .int 2, .int p0, .int p1] [] (fun v w1 => (∃ (p9 : Int32), narrow FieldType.boolean (.int p9) = .int p9 ∧ v = some (.int p9) ∧ w1 = [])) 0 0 := by
  refine Ct_of (by decide) (Nat.le_of_ble_eq_true rfl) ?_
  intro p e s m below meth c hx hb hr hml hown hnm hlocks hgw hK A hG hA hP hD ls hl
  have hl : lv_has ls 4 [(0, .int 22), (1, .int 2), (2, .int p0), (3, .int p1)] := hl
  have hS : va_S A s.heap s.heap [] := va_S.rf
  refine lv_iload_n hx hb dX7_isOnOrdinary_0 rfl (lv_at hl 0 rfl) ?_
  refine lv_tableIn (off := 58) (tgt := 59) hx hb dX7_isOnOrdinary_1 (by decide +kernel) (by decide +kernel) (by decide +kernel) (by decide) ?_
  refine lv_iload_n hx hb dX7_isOnOrdinary_59 rfl (lv_at hl 3 rfl) ?_
  refine lv_iload_n hx hb dX7_isOnOrdinary_60 rfl (lv_at hl 1 rfl) ?_
  refine lv_iload_n hx hb dX7_isOnOrdinary_61 rfl (lv_at hl 2 rfl) ?_
  refine kq_S (As := [.int 2, .int p0]) (rest := [.int p1]) (wr := []) hx hb hml hown hgw hK hG hA hP hD hS (c_X7_shift_2 l hfl D dA tE tC p0) m_1_171 m_1_172 m_1_2 m_1_173 hd_X7_shift rfl rfl ⟨(Nat.le_of_ble_eq_true rfl), (Nat.le_of_ble_eq_true rfl)⟩ [] [] rfl rfl rfl rfl (by decide) hl.1 rfl (Nat.le_of_ble_eq_true rfl) dX7_isOnOrdinary_62 ⟨(Nat.le_of_ble_eq_true rfl), (Nat.le_of_ble_eq_true rfl)⟩ (fun v w1 H locs hQ hP hD hS => ?_)
  obtain ⟨x1, rfl, rfl⟩ := hQ
  refine W.eq (g2 := F0 m 65 ls [.int x1, .int p1]) rfl ?_
  have hP : va_P D vwCl [] H := hP
  have hD : va_D A [] := hD
  refine lv_iadd hx hb dX7_isOnOrdinary_65 ?_
  refine lv_topi (fun x2 ex2 => ?_)
  refine lv_bipush (v := 6) hx hb dX7_isOnOrdinary_66 (by decide +kernel) ?_
  refine lv_bipush (v := 9) hx hb dX7_isOnOrdinary_68 (by decide +kernel) ?_
  refine kq_S (As := [.int x2, .int 6, .int 9]) (rest := []) (wr := []) hx hb hml hown hgw hK hG hA hP hD hS (c_X7_isFromTo l hfl D dA tE tC x2) m_1_180 m_1_181 m_1_2 m_1_182 hd_X7_isFromTo rfl rfl ⟨(Nat.le_of_ble_eq_true rfl), (Nat.le_of_ble_eq_true rfl)⟩ [] [] rfl rfl rfl rfl (by decide) hl.1 rfl (Nat.le_of_ble_eq_true rfl) dX7_isOnOrdinary_70 ⟨(Nat.le_of_ble_eq_true rfl), (Nat.le_of_ble_eq_true rfl)⟩ (fun v w1 H locs hQ hP hD hS => ?_)
  obtain ⟨x3, nx3, rfl, rfl⟩ := hQ
  refine W.eq (g2 := F0 m 73 ls [.int x3]) rfl ?_
  have hP : va_P D vwCl [] H := hP
  have hD : va_D A [] := hD
  have hP9 := hP.sub (ws' := []) [] rfl
  have hD9 := hD.sub (ws' := []) [] (by decide) rfl
  exact (kq_iret (v := x3) hx hb hr hlocks hS nx3 ⟨_, nx3, rfl, rfl⟩ hP9 hD9 (Nat.le_of_ble_eq_true rfl) (Nat.le_of_ble_eq_true rfl) dX7_isOnOrdinary_73)
set_option maxHeartbeats 4000000 in
set_option maxRecDepth 100000 in
theorem c_X7_isOnOrdinary_18 (l : Launch) (hfl : l.stackTraces = false) (D : va_G) (dA : Nat → ClassId) (tE tC : Nat) (p0 : Int32) (p1 : Int32) : Ct l D dA tE tC yX7_isOnOrdinary (Cond.code yX7_isOnOrdinary cX7_isOnOrdinary 4 (some .boolean) :: gW) ({ frames := 1, cells := 0, slots := 0, locals := 22 } : Room) [.int 23, .int 2, .int p0, .int p1] [] (fun v w1 => (∃ (p9 : Int32), narrow FieldType.boolean (.int p9) = .int p9 ∧ v = some (.int p9) ∧ w1 = [])) 0 0 := by
  refine Ct_of (by decide) (Nat.le_of_ble_eq_true rfl) ?_
  intro p e s m below meth c hx hb hr hml hown hnm hlocks hgw hK A hG hA hP hD ls hl
  have hl : lv_has ls 4 [(0, .int 23), (1, .int 2), (2, .int p0), (3, .int p1)] := hl
  have hS : va_S A s.heap s.heap [] := va_S.rf
  refine lv_iload_n hx hb dX7_isOnOrdinary_0 rfl (lv_at hl 0 rfl) ?_
  refine lv_tableIn (off := 73) (tgt := 74) hx hb dX7_isOnOrdinary_1 (by decide +kernel) (by decide +kernel) (by decide +kernel) (by decide) ?_
  refine lv_iload_n hx hb dX7_isOnOrdinary_74 rfl (lv_at hl 3 rfl) ?_
  refine lv_iload_n hx hb dX7_isOnOrdinary_75 rfl (lv_at hl 2 rfl) ?_
  refine lv_isub hx hb dX7_isOnOrdinary_76 ?_
  refine lv_topi (fun x1 ex1 => ?_)
  refine lv_iload_n hx hb dX7_isOnOrdinary_77 rfl (lv_at hl 1 rfl) ?_
  refine lv_iload_n hx hb dX7_isOnOrdinary_78 rfl (lv_at hl 2 rfl) ?_
  refine kq_S (As := [.int 2, .int p0]) (rest := [.int x1]) (wr := []) hx hb hml hown hgw hK hG hA hP hD hS (c_X7_shift_2 l hfl D dA tE tC p0) m_1_171 m_1_172 m_1_2 m_1_173 hd_X7_shift rfl rfl ⟨(Nat.le_of_ble_eq_true rfl), (Nat.le_of_ble_eq_true rfl)⟩ [] [] rfl rfl rfl rfl (by decide) hl.1 rfl (Nat.le_of_ble_eq_true rfl) dX7_isOnOrdinary_79 ⟨(Nat.le_of_ble_eq_true rfl), (Nat.le_of_ble_eq_true rfl)⟩ (fun v w1 H locs hQ hP hD hS => ?_)
  obtain ⟨x2, rfl, rfl⟩ := hQ
  refine W.eq (g2 := F0 m 82 ls [.int x2, .int x1]) rfl ?_
  have hP : va_P D vwCl [] H := hP
  have hD : va_D A [] := hD
  refine lv_iadd hx hb dX7_isOnOrdinary_82 ?_
  refine lv_topi (fun x3 ex3 => ?_)
  refine lv_bipush (v := (-2)) hx hb dX7_isOnOrdinary_83 (by decide +kernel) ?_
  refine lv_iconst (v := 2) hx hb dX7_isOnOrdinary_85 (by decide) ?_
  refine kq_S (As := [.int x3, .int (-2), .int 2]) (rest := []) (wr := []) hx hb hml hown hgw hK hG hA hP hD hS (c_X7_isFromTo_1 l hfl D dA tE tC x3) m_1_180 m_1_181 m_1_2 m_1_182 hd_X7_isFromTo rfl rfl ⟨(Nat.le_of_ble_eq_true rfl), (Nat.le_of_ble_eq_true rfl)⟩ [] [] rfl rfl rfl rfl (by decide) hl.1 rfl (Nat.le_of_ble_eq_true rfl) dX7_isOnOrdinary_86 ⟨(Nat.le_of_ble_eq_true rfl), (Nat.le_of_ble_eq_true rfl)⟩ (fun v w1 H locs hQ hP hD hS => ?_)
  obtain ⟨x4, nx4, rfl, rfl⟩ := hQ
  refine W.eq (g2 := F0 m 89 ls [.int x4]) rfl ?_
  have hP : va_P D vwCl [] H := hP
  have hD : va_D A [] := hD
  have hP9 := hP.sub (ws' := []) [] rfl
  have hD9 := hD.sub (ws' := []) [] (by decide) rfl
  exact (kq_iret (v := x4) hx hb hr hlocks hS nx4 ⟨_, nx4, rfl, rfl⟩ hP9 hD9 (Nat.le_of_ble_eq_true rfl) (Nat.le_of_ble_eq_true rfl) dX7_isOnOrdinary_89)
set_option maxHeartbeats 4000000 in
set_option maxRecDepth 100000 in
theorem c_X7_isOnOrdinary_19 (l : Launch) (hfl : l.stackTraces = false) (D : va_G) (dA : Nat → ClassId) (tE tC : Nat) (p0 : Int32) (p1 : Int32) : Ct l D dA tE tC yX7_isOnOrdinary (Cond.code yX7_isOnOrdinary cX7_isOnOrdinary 4 (some .boolean) :: gW) ({ frames := 1, cells := 0, slots := 0, locals := 21 } : Room) [.int 24, .int 2, .int p0, .int p1] [] (fun v w1 => (∃ (p9 : Int32), narrow FieldType.boolean (.int p9) = .int p9 ∧ v = some (.int p9) ∧ w1 = [])) 0 0 := by
  refine Ct_of (by decide) (Nat.le_of_ble_eq_true rfl) ?_
  intro p e s m below meth c hx hb hr hml hown hnm hlocks hgw hK A hG hA hP hD ls hl
  have hl : lv_has ls 4 [(0, .int 24), (1, .int 2), (2, .int p0), (3, .int p1)] := hl
  have hS : va_S A s.heap s.heap [] := va_S.rf
  refine lv_iload_n hx hb dX7_isOnOrdinary_0 rfl (lv_at hl 0 rfl) ?_
  refine lv_tableIn (off := 89) (tgt := 90) hx hb dX7_isOnOrdinary_1 (by decide +kernel) (by decide +kernel) (by decide +kernel) (by decide) ?_
  refine lv_iload_n hx hb dX7_isOnOrdinary_90 rfl (lv_at hl 3 rfl) ?_
  refine lv_iload_n hx hb dX7_isOnOrdinary_91 rfl (lv_at hl 1 rfl) ?_
  refine lv_iload_n hx hb dX7_isOnOrdinary_92 rfl (lv_at hl 2 rfl) ?_
  refine kq_S (As := [.int 2, .int p0]) (rest := [.int p1]) (wr := []) hx hb hml hown hgw hK hG hA hP hD hS (c_X7_shift_2 l hfl D dA tE tC p0) m_1_171 m_1_172 m_1_2 m_1_173 hd_X7_shift rfl rfl ⟨(Nat.le_of_ble_eq_true rfl), (Nat.le_of_ble_eq_true rfl)⟩ [] [] rfl rfl rfl rfl (by decide) hl.1 rfl (Nat.le_of_ble_eq_true rfl) dX7_isOnOrdinary_93 ⟨(Nat.le_of_ble_eq_true rfl), (Nat.le_of_ble_eq_true rfl)⟩ (fun v w1 H locs hQ hP hD hS => ?_)
  obtain ⟨x1, rfl, rfl⟩ := hQ
  refine W.eq (g2 := F0 m 96 ls [.int x1, .int p1]) rfl ?_
  have hP : va_P D vwCl [] H := hP
  have hD : va_D A [] := hD
  refine lv_iadd hx hb dX7_isOnOrdinary_96 ?_
  refine lv_topi (fun x2 ex2 => ?_)
  refine lv_iconst (v := 4) hx hb dX7_isOnOrdinary_97 (by decide) ?_
  refine lv_icmp_gt (tgt := 105) hx hb dX7_isOnOrdinary_98 (by decide) (fun c_3 => ?_) (fun c_3 => ?_)
  · have c_3 := (kq_lt (x := 4) (y := x2) (a := 4) (b := x2.toInt) (by decide +kernel) (by rfl)).mp c_3
    refine lv_iconst (v := 0) hx hb dX7_isOnOrdinary_105 (by decide) ?_
    have hP9 := hP.sub (ws' := []) [] rfl
    have hD9 := hD.sub (ws' := []) [] (by decide) rfl
    exact (kq_iret (v := 0) hx hb hr hlocks hS rfl ⟨_, rfl, rfl, rfl⟩ hP9 hD9 (Nat.le_of_ble_eq_true rfl) (Nat.le_of_ble_eq_true rfl) dX7_isOnOrdinary_106)
  · have c_3 := mt (kq_lt (x := 4) (y := x2) (a := 4) (b := x2.toInt) (by decide +kernel) (by rfl)).mpr c_3
    refine lv_iconst (v := 1) hx hb dX7_isOnOrdinary_101 (by decide) ?_
    refine lv_goto (tgt := 106) hx hb dX7_isOnOrdinary_102 (by decide) ?_
    have hP9 := hP.sub (ws' := []) [] rfl
    have hD9 := hD.sub (ws' := []) [] (by decide) rfl
    exact (kq_iret (v := 1) hx hb hr hlocks hS rfl ⟨_, rfl, rfl, rfl⟩ hP9 hD9 (Nat.le_of_ble_eq_true rfl) (Nat.le_of_ble_eq_true rfl) dX7_isOnOrdinary_106)
set_option maxHeartbeats 4000000 in
set_option maxRecDepth 100000 in
theorem c_X7_isOnOrdinary_20 (l : Launch) (hfl : l.stackTraces = false) (D : va_G) (dA : Nat → ClassId) (tE tC : Nat) (p0 : Int32) (p1 : Int32) : Ct l D dA tE tC yX7_isOnOrdinary (Cond.code yX7_isOnOrdinary cX7_isOnOrdinary 4 (some .boolean) :: gW) ({ frames := 1, cells := 0, slots := 0, locals := 22 } : Room) [.int 25, .int 2, .int p0, .int p1] [] (fun v w1 => (∃ (p9 : Int32), narrow FieldType.boolean (.int p9) = .int p9 ∧ v = some (.int p9) ∧ w1 = [])) 0 0 := by
  refine Ct_of (by decide) (Nat.le_of_ble_eq_true rfl) ?_
  intro p e s m below meth c hx hb hr hml hown hnm hlocks hgw hK A hG hA hP hD ls hl
  have hl : lv_has ls 4 [(0, .int 25), (1, .int 2), (2, .int p0), (3, .int p1)] := hl
  have hS : va_S A s.heap s.heap [] := va_S.rf
  refine lv_iload_n hx hb dX7_isOnOrdinary_0 rfl (lv_at hl 0 rfl) ?_
  refine lv_tableIn (off := 106) (tgt := 107) hx hb dX7_isOnOrdinary_1 (by decide +kernel) (by decide +kernel) (by decide +kernel) (by decide) ?_
  refine lv_iload_n hx hb dX7_isOnOrdinary_107 rfl (lv_at hl 2 rfl) ?_
  refine lv_bipush (v := 7) hx hb dX7_isOnOrdinary_108 (by decide +kernel) ?_
  refine lv_bipush (v := 8) hx hb dX7_isOnOrdinary_110 (by decide +kernel) ?_
  refine kq_S (As := [.int p0, .int 7, .int 8]) (rest := []) (wr := []) hx hb hml hown hgw hK hG hA hP hD hS (c_X7_isFromTo_2 l hfl D dA tE tC p0) m_1_180 m_1_181 m_1_2 m_1_182 hd_X7_isFromTo rfl rfl ⟨(Nat.le_of_ble_eq_true rfl), (Nat.le_of_ble_eq_true rfl)⟩ [] [] rfl rfl rfl rfl (by decide) hl.1 rfl (Nat.le_of_ble_eq_true rfl) dX7_isOnOrdinary_112 ⟨(Nat.le_of_ble_eq_true rfl), (Nat.le_of_ble_eq_true rfl)⟩ (fun v w1 H locs hQ hP hD hS => ?_)
  obtain ⟨x1, nx1, rfl, rfl⟩ := hQ
  refine W.eq (g2 := F0 m 115 ls [.int x1]) rfl ?_
  have hP : va_P D vwCl [] H := hP
  have hD : va_D A [] := hD
  refine lv_if_ne (tgt := 129) hx hb dX7_isOnOrdinary_115 (by decide) (fun c_2 => ?_) (fun c_2 => ?_)
  · have c_2 := mt (kq_eq (x := x1) (y := 0) (a := x1.toInt) (b := 0) (by rfl) (by decide +kernel)).mpr c_2
    refine lv_iconst (v := 1) hx hb dX7_isOnOrdinary_129 (by decide) ?_
    refine lv_goto (tgt := 134) hx hb dX7_isOnOrdinary_130 (by decide) ?_
    have hP9 := hP.sub (ws' := []) [] rfl
    have hD9 := hD.sub (ws' := []) [] (by decide) rfl
    exact (kq_iret (v := 1) hx hb hr hlocks hS rfl ⟨_, rfl, rfl, rfl⟩ hP9 hD9 (Nat.le_of_ble_eq_true rfl) (Nat.le_of_ble_eq_true rfl) dX7_isOnOrdinary_134)
  · have c_2 := (kq_eq (x := x1) (y := 0) (a := x1.toInt) (b := 0) (by rfl) (by decide +kernel)).mp c_2
    refine lv_iload_n hx hb dX7_isOnOrdinary_118 rfl (lv_at hl 3 rfl) ?_
    refine lv_bipush (v := 7) hx hb dX7_isOnOrdinary_119 (by decide +kernel) ?_
    refine lv_bipush (v := 8) hx hb dX7_isOnOrdinary_121 (by decide +kernel) ?_
    refine kq_S (As := [.int p1, .int 7, .int 8]) (rest := []) (wr := []) hx hb hml hown hgw hK hG hA hP hD hS (c_X7_isFromTo_2 l hfl D dA tE tC p1) m_1_180 m_1_181 m_1_2 m_1_182 hd_X7_isFromTo rfl rfl ⟨(Nat.le_of_ble_eq_true rfl), (Nat.le_of_ble_eq_true rfl)⟩ [] [] rfl rfl rfl rfl (by decide) hl.1 rfl (Nat.le_of_ble_eq_true rfl) dX7_isOnOrdinary_123 ⟨(Nat.le_of_ble_eq_true rfl), (Nat.le_of_ble_eq_true rfl)⟩ (fun v w1 H locs hQ hP hD hS => ?_)
    obtain ⟨x3, nx3, rfl, rfl⟩ := hQ
    refine W.eq (g2 := F0 m 126 ls [.int x3]) rfl ?_
    have hP : va_P D vwCl [] H := hP
    have hD : va_D A [] := hD
    refine lv_if_eq (tgt := 133) hx hb dX7_isOnOrdinary_126 (by decide) (fun c_4 => ?_) (fun c_4 => ?_)
    · have c_4 := (kq_eq (x := x3) (y := 0) (a := x3.toInt) (b := 0) (by rfl) (by decide +kernel)).mp c_4
      refine lv_iconst (v := 0) hx hb dX7_isOnOrdinary_133 (by decide) ?_
      have hP9 := hP.sub (ws' := []) [] rfl
      have hD9 := hD.sub (ws' := []) [] (by decide) rfl
      exact (kq_iret (v := 0) hx hb hr hlocks hS rfl ⟨_, rfl, rfl, rfl⟩ hP9 hD9 (Nat.le_of_ble_eq_true rfl) (Nat.le_of_ble_eq_true rfl) dX7_isOnOrdinary_134)
    · have c_4 := mt (kq_eq (x := x3) (y := 0) (a := x3.toInt) (b := 0) (by rfl) (by decide +kernel)).mpr c_4
      refine lv_iconst (v := 1) hx hb dX7_isOnOrdinary_129 (by decide) ?_
      refine lv_goto (tgt := 134) hx hb dX7_isOnOrdinary_130 (by decide) ?_
      have hP9 := hP.sub (ws' := []) [] rfl
      have hD9 := hD.sub (ws' := []) [] (by decide) rfl
      exact (kq_iret (v := 1) hx hb hr hlocks hS rfl ⟨_, rfl, rfl, rfl⟩ hP9 hD9 (Nat.le_of_ble_eq_true rfl) (Nat.le_of_ble_eq_true rfl) dX7_isOnOrdinary_134)
