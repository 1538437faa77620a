set_option maxHeartbeats 4000000 in
set_option maxRecDepth 100000 in
theorem c_X1_takeIn (l : Launch) (hfl : l.stackTraces = false) (D : va_G) (dA : Nat → ClassId) (tE tC : Nat) (h0 : Nat) (h1 : Nat) (h2 : Nat) (h3 : Nat) (p0 : Int32) : Ct l D dA tE tC yX1_takeIn (Cond.code yX1_takeIn cX1_takeIn 4 (some .int) :: gW) ({ frames := 1, cells := 0, slots := 0, locals := 21 } : Room) [.ref h0, .int 9, .int 10] [(h0, .inr (5, [.ref h1, .ref h2, .ref h3, .int 1, .int 0, .int 1, .int (-1), .int p0, .int 0, .int 0, .int 0, .int 0]))] (fun v w1 => (v = some (.int 0) ∧ w1 = [(h0, .inr (5, [.ref h1, .ref h2, .ref h3, .int 1, .int 0, .int 1, .int (-1), .int p0, .int 0, .int 0, .int 0, .int 0]))])) 0 0 := by
  refine Ct_of (by decide) (Nat.le_of_ble_eq_true rfl) ?_
  intro p e s m below meth c hx hb hr hml hown hnm hlocks hgw hK A hG hA hP hD ls hl
  have hl : lv_has ls 4 [(0, .ref h0), (1, .int 9), (2, .int 10)] := hl
  have hS : va_S A s.heap s.heap [] := va_S.rf
  refine lv_aload_n hx hb dX1_takeIn_0 rfl (lv_at hl 0 rfl) ?_
  refine lv_aload_n hx hb dX1_takeIn_1 rfl (lv_at hl 0 rfl) ?_
  refine va_get (D := D) (ci := 5) (v := .int 1) (C := RX1) (T := TX1) (N := 12) hx hb hgw in_X1 hown hK hP 0 rfl rfl 3 (by decide) (hgw _ m_2_1) (fun _ h9 => h9) rfl dX1_takeIn_2 ?_
  refine kq_V (q0 := 0) (As := [.int 1]) (rest := []) (wr := []) hx hb hml hown hgw hK hG hA hP hD hS (c_X1_wordAt_2 l hfl D dA tE tC h0 h1 h2 h3 p0) m_3_123 m_3_124 m_3_125 m_1_6 m_3_126 hd_X1_wordAt rfl rfl ⟨(Nat.le_of_ble_eq_true rfl), (Nat.le_of_ble_eq_true rfl)⟩ [0] [] rfl rfl rfl rfl (by decide) rfl rfl rfl hl.1 rfl (Nat.le_of_ble_eq_true rfl) dX1_takeIn_5 ⟨(Nat.le_of_ble_eq_true rfl), (Nat.le_of_ble_eq_true rfl)⟩ (fun v w1 H locs hQ hP hD hS => ?_)
  obtain ⟨rfl, rfl⟩ := hQ
  refine W.eq (g2 := F0 m 8 ls [.int 0]) rfl ?_
  have hP : va_P D vwCl [(h0, .inr (5, [.ref h1, .ref h2, .ref h3, .int 1, .int 0, .int 1, .int (-1), .int p0, .int 0, .int 0, .int 0, .int 0]))] H := hP
  have hD : va_D A [(h0, .inr (5, [.ref h1, .ref h2, .ref h3, .int 1, .int 0, .int 1, .int (-1), .int p0, .int 0, .int 0, .int 0, .int 0]))] := hD
  refine lv_istore_n (lv' := [(3, .int 0), (0, .ref h0), (1, .int 9), (2, .int 10)]) hx hb dX1_takeIn_8 rfl hl (by decide) rfl (fun ls hl => ?_)
  refine lv_iload_n hx hb dX1_takeIn_9 rfl (lv_at hl 0 rfl) ?_
  refine lv_iload_n hx hb dX1_takeIn_10 rfl (lv_at hl 2 rfl) ?_
  refine lv_icmp_lt (tgt := 19) hx hb dX1_takeIn_11 (by decide) (fun _ => ?_) (fun h => absurd (by decide +kernel) h)
  refine lv_iconst (v := 0) hx hb dX1_takeIn_19 (by decide) ?_
  have hP9 := hP.sub (ws' := [(h0, .inr (5, [.ref h1, .ref h2, .ref h3, .int 1, .int 0, .int 1, .int (-1), .int p0, .int 0, .int 0, .int 0, .int 0]))]) [0] rfl
  have hD9 := hD.sub (ws' := [(h0, .inr (5, [.ref h1, .ref h2, .ref h3, .int 1, .int 0, .int 1, .int (-1), .int p0, .int 0, .int 0, .int 0, .int 0]))]) [0] (by decide) rfl
  exact (kq_iret (v := 0) hx hb hr hlocks hS rfl ⟨rfl, rfl⟩ hP9 hD9 (Nat.le_of_ble_eq_true rfl) (Nat.le_of_ble_eq_true rfl) dX1_takeIn_20)
set_option maxHeartbeats 4000000 in
set_option maxRecDepth 100000 in
theorem c_X1_readField_1 (l : Launch) (hfl : l.stackTraces = false) (D : va_G) (dA : Nat → ClassId) (tE tC : Nat) (h0 : Nat) (h1 : Nat) (p0 : Int32) (h2 : Nat) (h3 : Nat) (f0 : Nat → Int32) : Ct l D dA tE tC yX1_readField (Cond.code yX1_readField cX1_readField 2 (some .boolean) :: gW) ({ frames := 2, cells := 0, slots := 0, locals := 44 } : Room) [.ref h0] [(h1, .inl (dA 0, 24, .inl (upd (fun _ => 0) 0 p0))), (h0, .inr (5, [.ref h1, .ref h2, .ref h3, .int 0, .int 0, .int 1, .int (-1), .int 0, .int 0, .int 0, .int 0, .int 0])), (h2, .inl (dA 0, 24, .inl f0))] (fun v w1 => (p0.toInt < 11 ∧ p0.toInt < 1 ∧ v = some (.int 0) ∧ w1 = [(h2, .inl (dA 0, 24, .inl f0)), (h1, .inl (dA 0, 24, .inl (upd (fun _ => 0) 0 p0))), (h0, .inr (5, [.ref h1, .ref h2, .ref h3, .int 0, .int 0, .int 1, .int (-1), .int 0, .int 0, .int 0, .int 0, .int 0]))]) ∨ (p0.toInt < 11 ∧ ¬ p0.toInt < 1 ∧ 8 < p0.toInt ∧ ¬ p0.toInt = 31 ∧ ¬ p0.toInt = 32 ∧ ¬ p0.toInt = 33 ∧ ¬ p0.toInt = 34 ∧ ¬ p0.toInt = 35 ∧ v = some (.int 0) ∧ w1 = [(h2, .inl (dA 0, 24, .inl f0)), (h1, .inl (dA 0, 24, .inl (upd (fun _ => 0) 0 p0))), (h0, .inr (5, [.ref h1, .ref h2, .ref h3, .int 0, .int 0, .int 1, .int (-1), .int 0, .int 0, .int 0, .int 0, .int 0]))]) ∨ (p0.toInt < 11 ∧ ¬ p0.toInt < 1 ∧ ¬ 8 < p0.toInt ∧ v = some (.int 1) ∧ w1 = [(h2, .inl (dA 0, 24, .inl (upd f0 0 p0))), (h1, .inl (dA 0, 24, .inl (upd (fun _ => 0) 0 p0))), (h0, .inr (5, [.ref h1, .ref h2, .ref h3, .int 1, .int p0, .int 1, .int (-1), .int 0, .int 0, .int p0, .int 0, .int 0]))]) ∨ (¬ p0.toInt < 11 ∧ 15 < p0.toInt ∧ ¬ p0.toInt < 1 ∧ 8 < p0.toInt ∧ p0.toInt = 31 ∧ v = some (.int 0) ∧ w1 = [(h2, .inl (dA 0, 24, .inl f0)), (h1, .inl (dA 0, 24, .inl (upd (fun _ => 0) 0 p0))), (h0, .inr (5, [.ref h1, .ref h2, .ref h3, .int 0, .int 0, .int 1, .int (-1), .int 0, .int 0, .int 0, .int 0, .int 0]))]) ∨ (¬ p0.toInt < 11 ∧ 15 < p0.toInt ∧ ¬ p0.toInt < 1 ∧ 8 < p0.toInt ∧ ¬ p0.toInt = 31 ∧ p0.toInt = 32 ∧ v = some (.int 0) ∧ w1 = [(h2, .inl (dA 0, 24, .inl f0)), (h1, .inl (dA 0, 24, .inl (upd (fun _ => 0) 0 p0))), (h0, .inr (5, [.ref h1, .ref h2, .ref h3, .int 0, .int 0, .int 1, .int (-1), .int 0, .int 0, .int 0, .int 0, .int 0]))]) ∨ (¬ p0.toInt < 11 ∧ 15 < p0.toInt ∧ ¬ p0.toInt < 1 ∧ 8 < p0.toInt ∧ ¬ p0.toInt = 31 ∧ ¬ p0.toInt = 32 ∧ p0.toInt = 33 ∧ v = some (.int 0) ∧ w1 = [(h2, .inl (dA 0, 24, .inl f0)), (h1, .inl (dA 0, 24, .inl (upd (fun _ => 0) 0 p0))), (h0, .inr (5, [.ref h1, .ref h2, .ref h3, .int 0, .int 0, .int 1, .int (-1), .int 0, .int 0, .int 0, .int 0, .int 0]))]) ∨ (¬ p0.toInt < 11 ∧ 15 < p0.toInt ∧ ¬ p0.toInt < 1 ∧ 8 < p0.toInt ∧ ¬ p0.toInt = 31 ∧ ¬ p0.toInt = 32 ∧ ¬ p0.toInt = 33 ∧ p0.toInt = 34 ∧ v = some (.int 0) ∧ w1 = [(h2, .inl (dA 0, 24, .inl f0)), (h1, .inl (dA 0, 24, .inl (upd (fun _ => 0) 0 p0))), (h0, .inr (5, [.ref h1, .ref h2, .ref h3, .int 0, .int 0, .int 1, .int (-1), .int 0, .int 0, .int 0, .int 0, .int 0]))]) ∨ (¬ p0.toInt < 11 ∧ 15 < p0.toInt ∧ ¬ p0.toInt < 1 ∧ 8 < p0.toInt ∧ ¬ p0.toInt = 31 ∧ ¬ p0.toInt = 32 ∧ ¬ p0.toInt = 33 ∧ ¬ p0.toInt = 34 ∧ p0.toInt = 35 ∧ v = some (.int 0) ∧ w1 = [(h2, .inl (dA 0, 24, .inl f0)), (h1, .inl (dA 0, 24, .inl (upd (fun _ => 0) 0 p0))), (h0, .inr (5, [.ref h1, .ref h2, .ref h3, .int 0, .int 0, .int 1, .int (-1), .int 0, .int 0, .int 0, .int 0, .int 0]))]) ∨ (¬ p0.toInt < 11 ∧ 15 < p0.toInt ∧ ¬ p0.toInt < 1 ∧ 8 < p0.toInt ∧ ¬ p0.toInt = 31 ∧ ¬ p0.toInt = 32 ∧ ¬ p0.toInt = 33 ∧ ¬ p0.toInt = 34 ∧ ¬ p0.toInt = 35 ∧ v = some (.int 0) ∧ w1 = [(h2, .inl (dA 0, 24, .inl f0)), (h1, .inl (dA 0, 24, .inl (upd (fun _ => 0) 0 p0))), (h0, .inr (5, [.ref h1, .ref h2, .ref h3, .int 0, .int 0, .int 1, .int (-1), .int 0, .int 0, .int 0, .int 0, .int 0]))]) ∨ (¬ p0.toInt < 11 ∧ ¬ 15 < p0.toInt ∧ 14 ≤ p0.toInt ∧ v = some (.int 0) ∧ w1 = [(h2, .inl (dA 0, 24, .inl f0)), (h1, .inl (dA 0, 24, .inl (upd (fun _ => 0) 0 p0))), (h0, .inr (5, [.ref h1, .ref h2, .ref h3, .int 1, .int 0, .int 1, .int (-1), .int p0, .int 0, .int 0, .int 0, .int 0]))]) ∨ (¬ p0.toInt < 11 ∧ ¬ 15 < p0.toInt ∧ ¬ 14 ≤ p0.toInt ∧ v = some (.int 0) ∧ w1 = [(h2, .inl (dA 0, 24, .inl f0)), (h1, .inl (dA 0, 24, .inl (upd (fun _ => 0) 0 p0))), (h0, .inr (5, [.ref h1, .ref h2, .ref h3, .int 1, .int 0, .int 1, .int (-1), .int p0, .int 0, .int 0, .int 0, .int 0]))])) 0 0 := by
  refine Ct_of (by decide) (Nat.le_of_ble_eq_true rfl) ?_
  intro p e s m below meth c hx hb hr hml hown hnm hlocks hgw hK A hG hA hP hD ls hl
  have hl : lv_has ls 2 [(0, .ref h0)] := hl
  have hS : va_S A s.heap s.heap [] := va_S.rf
  refine lv_aload_n hx hb dX1_readField_0 rfl (lv_at hl 0 rfl) ?_
  refine lv_aload_n hx hb dX1_readField_1 rfl (lv_at hl 0 rfl) ?_
  refine va_get (D := D) (ci := 5) (v := .int 0) (C := RX1) (T := TX1) (N := 12) hx hb hgw in_X1 hown hK hP 1 rfl rfl 3 (by decide) (hgw _ m_2_1) (fun _ h9 => h9) rfl dX1_readField_2 ?_
  refine kq_V (q0 := 1) (As := [.int 0]) (rest := []) (wr := [(h2, .inl (dA 0, 24, .inl f0))]) hx hb hml hown hgw hK hG hA hP hD hS (c_X1_wordAt_1 l hfl D dA tE tC h0 h1 p0 h2 h3) m_3_123 m_3_124 m_3_125 m_1_6 m_3_126 hd_X1_wordAt rfl rfl ⟨(Nat.le_of_ble_eq_true rfl), (Nat.le_of_ble_eq_true rfl)⟩ [0, 1] [2] rfl rfl rfl rfl (by decide) rfl rfl rfl hl.1 rfl (Nat.le_of_ble_eq_true rfl) dX1_readField_5 ⟨(Nat.le_of_ble_eq_true rfl), (Nat.le_of_ble_eq_true rfl)⟩ (fun v w1 H locs hQ hP hD hS => ?_)
  obtain ⟨rfl, rfl⟩ := hQ
  refine W.eq (g2 := F0 m 8 ls [.int p0]) rfl ?_
  have hP : va_P D vwCl [(h2, .inl (dA 0, 24, .inl f0)), (h1, .inl (dA 0, 24, .inl (upd (fun _ => 0) 0 p0))), (h0, .inr (5, [.ref h1, .ref h2, .ref h3, .int 0, .int 0, .int 1, .int (-1), .int 0, .int 0, .int 0, .int 0, .int 0]))] H := hP
  have hD : va_D A [(h2, .inl (dA 0, 24, .inl f0)), (h1, .inl (dA 0, 24, .inl (upd (fun _ => 0) 0 p0))), (h0, .inr (5, [.ref h1, .ref h2, .ref h3, .int 0, .int 0, .int 1, .int (-1), .int 0, .int 0, .int 0, .int 0, .int 0]))] := hD
  refine lv_istore_n (lv' := [(1, .int p0), (0, .ref h0)]) hx hb dX1_readField_8 rfl hl (by decide) rfl (fun ls hl => ?_)
  refine lv_iload_n hx hb dX1_readField_9 rfl (lv_at hl 0 rfl) ?_
  refine lv_bipush (v := 11) hx hb dX1_readField_10 (by decide +kernel) ?_
  refine lv_icmp_lt (tgt := 61) hx hb dX1_readField_12 (by decide) (fun c_1 => ?_) (fun c_1 => ?_)
  · have c_1 := (kq_lt (x := p0) (y := 11) (a := p0.toInt) (b := 11) (by rfl) (by decide +kernel)).mp c_1
    refine lv_aload_n hx hb dX1_readField_61 rfl (lv_at hl 1 rfl) ?_
    refine lv_aload_n hx hb dX1_readField_62 rfl (lv_at hl 1 rfl) ?_
    refine lv_iconst (v := 0) hx hb dX1_readField_63 (by decide) ?_
    refine kq_V (q0 := 2) (As := [.int 0]) (rest := [.ref h0]) (wr := []) hx hb hml hown hgw hK hG hA hP hD hS (c_X1_takeTincture_1 l hfl D dA tE tC h0 h2 f0 h1 p0 h3) m_3_131 m_3_133 m_s_3 m_1_6 m_3_134 hd_X1_takeTincture rfl rfl ⟨(Nat.le_of_ble_eq_true rfl), (Nat.le_of_ble_eq_true rfl)⟩ [0, 1, 2] [] rfl rfl rfl rfl (by decide) rfl rfl rfl hl.1 rfl (Nat.le_of_ble_eq_true rfl) dX1_readField_64 ⟨(Nat.le_of_ble_eq_true rfl), (Nat.le_of_ble_eq_true rfl)⟩ (fun v w1 H locs hQ hP hD hS => ?_)
    rcases hQ with ⟨c_2, rfl, rfl⟩ | ⟨c_3, c_4, c_5, rfl, rfl⟩ | ⟨c_6, c_7, c_8, c_9, rfl, rfl⟩ | ⟨c_10, c_11, c_12, c_13, c_14, rfl, rfl⟩ | ⟨c_15, c_16, c_17, c_18, c_19, c_20, rfl, rfl⟩ | ⟨c_21, c_22, c_23, c_24, c_25, c_26, c_27, rfl, rfl⟩ | ⟨c_28, c_29, c_30, c_31, c_32, c_33, c_34, rfl, rfl⟩ | ⟨c_35, c_36, rfl, rfl⟩
    · skip
      refine W.eq (g2 := F0 m 67 ls [.int 0, .ref h0]) rfl ?_
      have hP : va_P D vwCl [(h2, .inl (dA 0, 24, .inl f0)), (h1, .inl (dA 0, 24, .inl (upd (fun _ => 0) 0 p0))), (h0, .inr (5, [.ref h1, .ref h2, .ref h3, .int 0, .int 0, .int 1, .int (-1), .int 0, .int 0, .int 0, .int 0, .int 0]))] H := hP
      have hD : va_D A [(h2, .inl (dA 0, 24, .inl f0)), (h1, .inl (dA 0, 24, .inl (upd (fun _ => 0) 0 p0))), (h0, .inr (5, [.ref h1, .ref h2, .ref h3, .int 0, .int 0, .int 1, .int (-1), .int 0, .int 0, .int 0, .int 0, .int 0]))] := hD
      refine va_put (D := D) (ci := 5) (v := .int 0) (ty := .int) (C := RX1) (T := TX1) (N := 12) hx hb hgw in_X1 tyX1 tyX1_ok nmX1 hown hK hP hD hS 2 rfl rfl 9 (by decide) (hgw _ m_2_17) (fun _ h9 => h9) rfl (by decide +kernel) rfl rfl (Nat.le_of_ble_eq_true rfl) dX1_readField_67 (fun H locs hP hD hS => ?_)
      have hP : va_P D vwCl [(h2, .inl (dA 0, 24, .inl f0)), (h1, .inl (dA 0, 24, .inl (upd (fun _ => 0) 0 p0))), (h0, .inr (5, [.ref h1, .ref h2, .ref h3, .int 0, .int 0, .int 1, .int (-1), .int 0, .int 0, .int 0, .int 0, .int 0]))] H := hP
      have hD : va_D A [(h2, .inl (dA 0, 24, .inl f0)), (h1, .inl (dA 0, 24, .inl (upd (fun _ => 0) 0 p0))), (h0, .inr (5, [.ref h1, .ref h2, .ref h3, .int 0, .int 0, .int 1, .int (-1), .int 0, .int 0, .int 0, .int 0, .int 0]))] := hD
      refine lv_aload_n hx hb dX1_readField_70 rfl (lv_at hl 1 rfl) ?_
      refine va_get (D := D) (ci := 5) (v := .int 0) (C := RX1) (T := TX1) (N := 12) hx hb hgw in_X1 hown hK hP 2 rfl rfl 9 (by decide) (hgw _ m_2_17) (fun _ h9 => h9) rfl dX1_readField_71 ?_
      refine lv_if_eq (tgt := 84) hx hb dX1_readField_74 (by decide) (fun _ => ?_) (fun h => absurd (by decide +kernel) h)
      refine lv_aload_n hx hb dX1_readField_84 rfl (lv_at hl 1 rfl) ?_
      refine va_get (D := D) (ci := 5) (v := .int 0) (C := RX1) (T := TX1) (N := 12) hx hb hgw in_X1 hown hK hP 2 rfl rfl 9 (by decide) (hgw _ m_2_17) (fun _ h9 => h9) rfl dX1_readField_85 ?_
      refine lv_if_eq (tgt := 95) hx hb dX1_readField_88 (by decide) (fun _ => ?_) (fun h => absurd (by decide +kernel) h)
      refine lv_iconst (v := 0) hx hb dX1_readField_95 (by decide) ?_
      have hP9 := hP.sub (ws' := [(h2, .inl (dA 0, 24, .inl f0)), (h1, .inl (dA 0, 24, .inl (upd (fun _ => 0) 0 p0))), (h0, .inr (5, [.ref h1, .ref h2, .ref h3, .int 0, .int 0, .int 1, .int (-1), .int 0, .int 0, .int 0, .int 0, .int 0]))]) [0, 1, 2] rfl
      have hD9 := hD.sub (ws' := [(h2, .inl (dA 0, 24, .inl f0)), (h1, .inl (dA 0, 24, .inl (upd (fun _ => 0) 0 p0))), (h0, .inr (5, [.ref h1, .ref h2, .ref h3, .int 0, .int 0, .int 1, .int (-1), .int 0, .int 0, .int 0, .int 0, .int 0]))]) [0, 1, 2] (by decide) rfl
      exact (kq_iret (v := 0) hx hb hr hlocks hS rfl (Or.inl ⟨c_1, c_2, rfl, rfl⟩) hP9 hD9 (Nat.le_of_ble_eq_true rfl) (Nat.le_of_ble_eq_true rfl) dX1_readField_96)
    · skip
      exact (by omega : False).elim
    · skip
      exact (by omega : False).elim
    · skip
      exact (by omega : False).elim
    · skip
      exact (by omega : False).elim
    · skip
      exact (by omega : False).elim
    · skip
      refine W.eq (g2 := F0 m 67 ls [.int 0, .ref h0]) rfl ?_
      have hP : va_P D vwCl [(h2, .inl (dA 0, 24, .inl f0)), (h1, .inl (dA 0, 24, .inl (upd (fun _ => 0) 0 p0))), (h0, .inr (5, [.ref h1, .ref h2, .ref h3, .int 0, .int 0, .int 1, .int (-1), .int 0, .int 0, .int 0, .int 0, .int 0]))] H := hP
      have hD : va_D A [(h2, .inl (dA 0, 24, .inl f0)), (h1, .inl (dA 0, 24, .inl (upd (fun _ => 0) 0 p0))), (h0, .inr (5, [.ref h1, .ref h2, .ref h3, .int 0, .int 0, .int 1, .int (-1), .int 0, .int 0, .int 0, .int 0, .int 0]))] := hD
      refine va_put (D := D) (ci := 5) (v := .int 0) (ty := .int) (C := RX1) (T := TX1) (N := 12) hx hb hgw in_X1 tyX1 tyX1_ok nmX1 hown hK hP hD hS 2 rfl rfl 9 (by decide) (hgw _ m_2_17) (fun _ h9 => h9) rfl (by decide +kernel) rfl rfl (Nat.le_of_ble_eq_true rfl) dX1_readField_67 (fun H locs hP hD hS => ?_)
      have hP : va_P D vwCl [(h2, .inl (dA 0, 24, .inl f0)), (h1, .inl (dA 0, 24, .inl (upd (fun _ => 0) 0 p0))), (h0, .inr (5, [.ref h1, .ref h2, .ref h3, .int 0, .int 0, .int 1, .int (-1), .int 0, .int 0, .int 0, .int 0, .int 0]))] H := hP
      have hD : va_D A [(h2, .inl (dA 0, 24, .inl f0)), (h1, .inl (dA 0, 24, .inl (upd (fun _ => 0) 0 p0))), (h0, .inr (5, [.ref h1, .ref h2, .ref h3, .int 0, .int 0, .int 1, .int (-1), .int 0, .int 0, .int 0, .int 0, .int 0]))] := hD
      refine lv_aload_n hx hb dX1_readField_70 rfl (lv_at hl 1 rfl) ?_
      refine va_get (D := D) (ci := 5) (v := .int 0) (C := RX1) (T := TX1) (N := 12) hx hb hgw in_X1 hown hK hP 2 rfl rfl 9 (by decide) (hgw _ m_2_17) (fun _ h9 => h9) rfl dX1_readField_71 ?_
      refine lv_if_eq (tgt := 84) hx hb dX1_readField_74 (by decide) (fun _ => ?_) (fun h => absurd (by decide +kernel) h)
      refine lv_aload_n hx hb dX1_readField_84 rfl (lv_at hl 1 rfl) ?_
      refine va_get (D := D) (ci := 5) (v := .int 0) (C := RX1) (T := TX1) (N := 12) hx hb hgw in_X1 hown hK hP 2 rfl rfl 9 (by decide) (hgw _ m_2_17) (fun _ h9 => h9) rfl dX1_readField_85 ?_
      refine lv_if_eq (tgt := 95) hx hb dX1_readField_88 (by decide) (fun _ => ?_) (fun h => absurd (by decide +kernel) h)
      refine lv_iconst (v := 0) hx hb dX1_readField_95 (by decide) ?_
      have hP9 := hP.sub (ws' := [(h2, .inl (dA 0, 24, .inl f0)), (h1, .inl (dA 0, 24, .inl (upd (fun _ => 0) 0 p0))), (h0, .inr (5, [.ref h1, .ref h2, .ref h3, .int 0, .int 0, .int 1, .int (-1), .int 0, .int 0, .int 0, .int 0, .int 0]))]) [0, 1, 2] rfl
      have hD9 := hD.sub (ws' := [(h2, .inl (dA 0, 24, .inl f0)), (h1, .inl (dA 0, 24, .inl (upd (fun _ => 0) 0 p0))), (h0, .inr (5, [.ref h1, .ref h2, .ref h3, .int 0, .int 0, .int 1, .int (-1), .int 0, .int 0, .int 0, .int 0, .int 0]))]) [0, 1, 2] (by decide) rfl
      exact (kq_iret (v := 0) hx hb hr hlocks hS rfl (Or.inr (Or.inl ⟨c_1, c_28, c_29, c_30, c_31, c_32, c_33, c_34, rfl, rfl⟩)) hP9 hD9 (Nat.le_of_ble_eq_true rfl) (Nat.le_of_ble_eq_true rfl) dX1_readField_96)
    · skip
      refine W.eq (g2 := F0 m 67 ls [.int p0, .ref h0]) rfl ?_
      have hP : va_P D vwCl [(h2, .inl (dA 0, 24, .inl (upd f0 0 p0))), (h1, .inl (dA 0, 24, .inl (upd (fun _ => 0) 0 p0))), (h0, .inr (5, [.ref h1, .ref h2, .ref h3, .int 1, .int p0, .int 1, .int (-1), .int 0, .int 0, .int 0, .int 0, .int 0]))] H := hP
      have hD : va_D A [(h2, .inl (dA 0, 24, .inl (upd f0 0 p0))), (h1, .inl (dA 0, 24, .inl (upd (fun _ => 0) 0 p0))), (h0, .inr (5, [.ref h1, .ref h2, .ref h3, .int 1, .int p0, .int 1, .int (-1), .int 0, .int 0, .int 0, .int 0, .int 0]))] := hD
      refine va_put (D := D) (ci := 5) (v := .int p0) (ty := .int) (C := RX1) (T := TX1) (N := 12) hx hb hgw in_X1 tyX1 tyX1_ok nmX1 hown hK hP hD hS 2 rfl rfl 9 (by decide) (hgw _ m_2_17) (fun _ h9 => h9) rfl (by decide +kernel) rfl rfl (Nat.le_of_ble_eq_true rfl) dX1_readField_67 (fun H locs hP hD hS => ?_)
      have hP : va_P D vwCl [(h2, .inl (dA 0, 24, .inl (upd f0 0 p0))), (h1, .inl (dA 0, 24, .inl (upd (fun _ => 0) 0 p0))), (h0, .inr (5, [.ref h1, .ref h2, .ref h3, .int 1, .int p0, .int 1, .int (-1), .int 0, .int 0, .int p0, .int 0, .int 0]))] H := hP
      have hD : va_D A [(h2, .inl (dA 0, 24, .inl (upd f0 0 p0))), (h1, .inl (dA 0, 24, .inl (upd (fun _ => 0) 0 p0))), (h0, .inr (5, [.ref h1, .ref h2, .ref h3, .int 1, .int p0, .int 1, .int (-1), .int 0, .int 0, .int p0, .int 0, .int 0]))] := hD
      refine lv_aload_n hx hb dX1_readField_70 rfl (lv_at hl 1 rfl) ?_
      refine va_get (D := D) (ci := 5) (v := .int p0) (C := RX1) (T := TX1) (N := 12) hx hb hgw in_X1 hown hK hP 2 rfl rfl 9 (by decide) (hgw _ m_2_17) (fun _ h9 => h9) rfl dX1_readField_71 ?_
      refine lv_if_eq (tgt := 84) hx hb dX1_readField_74 (by decide) (fun h => absurd h (mt (kq_eq (x := p0) (y := 0) (a := p0.toInt) (b := 0) (by rfl) (by decide +kernel)).mp (by omega))) (fun _ => ?_)
      refine lv_aload_n hx hb dX1_readField_77 rfl (lv_at hl 1 rfl) ?_
      refine va_get (D := D) (ci := 5) (v := .int 0) (C := RX1) (T := TX1) (N := 12) hx hb hgw in_X1 hown hK hP 2 rfl rfl 7 (by decide) (hgw _ m_2_10) (fun _ h9 => h9) rfl dX1_readField_78 ?_
      refine lv_if_ne (tgt := 97) hx hb dX1_readField_81 (by decide) (fun h => absurd (by decide +kernel) h) (fun _ => ?_)
      refine lv_aload_n hx hb dX1_readField_84 rfl (lv_at hl 1 rfl) ?_
      refine va_get (D := D) (ci := 5) (v := .int p0) (C := RX1) (T := TX1) (N := 12) hx hb hgw in_X1 hown hK hP 2 rfl rfl 9 (by decide) (hgw _ m_2_17) (fun _ h9 => h9) rfl dX1_readField_85 ?_
      refine lv_if_eq (tgt := 95) hx hb dX1_readField_88 (by decide) (fun h => absurd h (mt (kq_eq (x := p0) (y := 0) (a := p0.toInt) (b := 0) (by rfl) (by decide +kernel)).mp (by omega))) (fun _ => ?_)
      refine lv_iconst (v := 1) hx hb dX1_readField_91 (by decide) ?_
      refine lv_goto (tgt := 96) hx hb dX1_readField_92 (by decide) ?_
      have hP9 := hP.sub (ws' := [(h2, .inl (dA 0, 24, .inl (upd f0 0 p0))), (h1, .inl (dA 0, 24, .inl (upd (fun _ => 0) 0 p0))), (h0, .inr (5, [.ref h1, .ref h2, .ref h3, .int 1, .int p0, .int 1, .int (-1), .int 0, .int 0, .int p0, .int 0, .int 0]))]) [0, 1, 2] rfl
      have hD9 := hD.sub (ws' := [(h2, .inl (dA 0, 24, .inl (upd f0 0 p0))), (h1, .inl (dA 0, 24, .inl (upd (fun _ => 0) 0 p0))), (h0, .inr (5, [.ref h1, .ref h2, .ref h3, .int 1, .int p0, .int 1, .int (-1), .int 0, .int 0, .int p0, .int 0, .int 0]))]) [0, 1, 2] (by decide) rfl
      exact (kq_iret (v := 1) hx hb hr hlocks hS rfl (Or.inr (Or.inr (Or.inl ⟨c_1, c_35, c_36, rfl, rfl⟩))) hP9 hD9 (Nat.le_of_ble_eq_true rfl) (Nat.le_of_ble_eq_true rfl) dX1_readField_96)
  · have c_1 := mt (kq_lt (x := p0) (y := 11) (a := p0.toInt) (b := 11) (by rfl) (by decide +kernel)).mpr c_1
    refine lv_iload_n hx hb dX1_readField_15 rfl (lv_at hl 0 rfl) ?_
    refine lv_bipush (v := 15) hx hb dX1_readField_16 (by decide +kernel) ?_
    refine lv_icmp_gt (tgt := 61) hx hb dX1_readField_18 (by decide) (fun c_37 => ?_) (fun c_37 => ?_)
    · have c_37 := (kq_lt (x := 15) (y := p0) (a := 15) (b := p0.toInt) (by decide +kernel) (by rfl)).mp c_37
      refine lv_aload_n hx hb dX1_readField_61 rfl (lv_at hl 1 rfl) ?_
      refine lv_aload_n hx hb dX1_readField_62 rfl (lv_at hl 1 rfl) ?_
      refine lv_iconst (v := 0) hx hb dX1_readField_63 (by decide) ?_
      refine kq_V (q0 := 2) (As := [.int 0]) (rest := [.ref h0]) (wr := []) hx hb hml hown hgw hK hG hA hP hD hS (c_X1_takeTincture_1 l hfl D dA tE tC h0 h2 f0 h1 p0 h3) m_3_131 m_3_133 m_s_3 m_1_6 m_3_134 hd_X1_takeTincture rfl rfl ⟨(Nat.le_of_ble_eq_true rfl), (Nat.le_of_ble_eq_true rfl)⟩ [0, 1, 2] [] rfl rfl rfl rfl (by decide) rfl rfl rfl hl.1 rfl (Nat.le_of_ble_eq_true rfl) dX1_readField_64 ⟨(Nat.le_of_ble_eq_true rfl), (Nat.le_of_ble_eq_true rfl)⟩ (fun v w1 H locs hQ hP hD hS => ?_)
      rcases hQ with ⟨c_38, rfl, rfl⟩ | ⟨c_39, c_40, c_41, rfl, rfl⟩ | ⟨c_42, c_43, c_44, c_45, rfl, rfl⟩ | ⟨c_46, c_47, c_48, c_49, c_50, rfl, rfl⟩ | ⟨c_51, c_52, c_53, c_54, c_55, c_56, rfl, rfl⟩ | ⟨c_57, c_58, c_59, c_60, c_61, c_62, c_63, rfl, rfl⟩ | ⟨c_64, c_65, c_66, c_67, c_68, c_69, c_70, rfl, rfl⟩ | ⟨c_71, c_72, rfl, rfl⟩
      · skip
        exact (by omega : False).elim
      · skip
        refine W.eq (g2 := F0 m 67 ls [.int 0, .ref h0]) rfl ?_
        have hP : va_P D vwCl [(h2, .inl (dA 0, 24, .inl f0)), (h1, .inl (dA 0, 24, .inl (upd (fun _ => 0) 0 p0))), (h0, .inr (5, [.ref h1, .ref h2, .ref h3, .int 0, .int 0, .int 1, .int (-1), .int 0, .int 0, .int 0, .int 0, .int 0]))] H := hP
        have hD : va_D A [(h2, .inl (dA 0, 24, .inl f0)), (h1, .inl (dA 0, 24, .inl (upd (fun _ => 0) 0 p0))), (h0, .inr (5, [.ref h1, .ref h2, .ref h3, .int 0, .int 0, .int 1, .int (-1), .int 0, .int 0, .int 0, .int 0, .int 0]))] := hD
        refine va_put (D := D) (ci := 5) (v := .int 0) (ty := .int) (C := RX1) (T := TX1) (N := 12) hx hb hgw in_X1 tyX1 tyX1_ok nmX1 hown hK hP hD hS 2 rfl rfl 9 (by decide) (hgw _ m_2_17) (fun _ h9 => h9) rfl (by decide +kernel) rfl rfl (Nat.le_of_ble_eq_true rfl) dX1_readField_67 (fun H locs hP hD hS => ?_)
        have hP : va_P D vwCl [(h2, .inl (dA 0, 24, .inl f0)), (h1, .inl (dA 0, 24, .inl (upd (fun _ => 0) 0 p0))), (h0, .inr (5, [.ref h1, .ref h2, .ref h3, .int 0, .int 0, .int 1, .int (-1), .int 0, .int 0, .int 0, .int 0, .int 0]))] H := hP
        have hD : va_D A [(h2, .inl (dA 0, 24, .inl f0)), (h1, .inl (dA 0, 24, .inl (upd (fun _ => 0) 0 p0))), (h0, .inr (5, [.ref h1, .ref h2, .ref h3, .int 0, .int 0, .int 1, .int (-1), .int 0, .int 0, .int 0, .int 0, .int 0]))] := hD
        refine lv_aload_n hx hb dX1_readField_70 rfl (lv_at hl 1 rfl) ?_
        refine va_get (D := D) (ci := 5) (v := .int 0) (C := RX1) (T := TX1) (N := 12) hx hb hgw in_X1 hown hK hP 2 rfl rfl 9 (by decide) (hgw _ m_2_17) (fun _ h9 => h9) rfl dX1_readField_71 ?_
        refine lv_if_eq (tgt := 84) hx hb dX1_readField_74 (by decide) (fun _ => ?_) (fun h => absurd (by decide +kernel) h)
        refine lv_aload_n hx hb dX1_readField_84 rfl (lv_at hl 1 rfl) ?_
        refine va_get (D := D) (ci := 5) (v := .int 0) (C := RX1) (T := TX1) (N := 12) hx hb hgw in_X1 hown hK hP 2 rfl rfl 9 (by decide) (hgw _ m_2_17) (fun _ h9 => h9) rfl dX1_readField_85 ?_
        refine lv_if_eq (tgt := 95) hx hb dX1_readField_88 (by decide) (fun _ => ?_) (fun h => absurd (by decide +kernel) h)
        refine lv_iconst (v := 0) hx hb dX1_readField_95 (by decide) ?_
        have hP9 := hP.sub (ws' := [(h2, .inl (dA 0, 24, .inl f0)), (h1, .inl (dA 0, 24, .inl (upd (fun _ => 0) 0 p0))), (h0, .inr (5, [.ref h1, .ref h2, .ref h3, .int 0, .int 0, .int 1, .int (-1), .int 0, .int 0, .int 0, .int 0, .int 0]))]) [0, 1, 2] rfl
        have hD9 := hD.sub (ws' := [(h2, .inl (dA 0, 24, .inl f0)), (h1, .inl (dA 0, 24, .inl (upd (fun _ => 0) 0 p0))), (h0, .inr (5, [.ref h1, .ref h2, .ref h3, .int 0, .int 0, .int 1, .int (-1), .int 0, .int 0, .int 0, .int 0, .int 0]))]) [0, 1, 2] (by decide) rfl
        exact (kq_iret (v := 0) hx hb hr hlocks hS rfl (Or.inr (Or.inr (Or.inr (Or.inl ⟨c_1, c_37, c_39, c_40, c_41, rfl, rfl⟩)))) hP9 hD9 (Nat.le_of_ble_eq_true rfl) (Nat.le_of_ble_eq_true rfl) dX1_readField_96)
      · skip
        refine W.eq (g2 := F0 m 67 ls [.int 0, .ref h0]) rfl ?_
        have hP : va_P D vwCl [(h2, .inl (dA 0, 24, .inl f0)), (h1, .inl (dA 0, 24, .inl (upd (fun _ => 0) 0 p0))), (h0, .inr (5, [.ref h1, .ref h2, .ref h3, .int 0, .int 0, .int 1, .int (-1), .int 0, .int 0, .int 0, .int 0, .int 0]))] H := hP
        have hD : va_D A [(h2, .inl (dA 0, 24, .inl f0)), (h1, .inl (dA 0, 24, .inl (upd (fun _ => 0) 0 p0))), (h0, .inr (5, [.ref h1, .ref h2, .ref h3, .int 0, .int 0, .int 1, .int (-1), .int 0, .int 0, .int 0, .int 0, .int 0]))] := hD
        refine va_put (D := D) (ci := 5) (v := .int 0) (ty := .int) (C := RX1) (T := TX1) (N := 12) hx hb hgw in_X1 tyX1 tyX1_ok nmX1 hown hK hP hD hS 2 rfl rfl 9 (by decide) (hgw _ m_2_17) (fun _ h9 => h9) rfl (by decide +kernel) rfl rfl (Nat.le_of_ble_eq_true rfl) dX1_readField_67 (fun H locs hP hD hS => ?_)
        have hP : va_P D vwCl [(h2, .inl (dA 0, 24, .inl f0)), (h1, .inl (dA 0, 24, .inl (upd (fun _ => 0) 0 p0))), (h0, .inr (5, [.ref h1, .ref h2, .ref h3, .int 0, .int 0, .int 1, .int (-1), .int 0, .int 0, .int 0, .int 0, .int 0]))] H := hP
        have hD : va_D A [(h2, .inl (dA 0, 24, .inl f0)), (h1, .inl (dA 0, 24, .inl (upd (fun _ => 0) 0 p0))), (h0, .inr (5, [.ref h1, .ref h2, .ref h3, .int 0, .int 0, .int 1, .int (-1), .int 0, .int 0, .int 0, .int 0, .int 0]))] := hD
        refine lv_aload_n hx hb dX1_readField_70 rfl (lv_at hl 1 rfl) ?_
        refine va_get (D := D) (ci := 5) (v := .int 0) (C := RX1) (T := TX1) (N := 12) hx hb hgw in_X1 hown hK hP 2 rfl rfl 9 (by decide) (hgw _ m_2_17) (fun _ h9 => h9) rfl dX1_readField_71 ?_
        refine lv_if_eq (tgt := 84) hx hb dX1_readField_74 (by decide) (fun _ => ?_) (fun h => absurd (by decide +kernel) h)
        refine lv_aload_n hx hb dX1_readField_84 rfl (lv_at hl 1 rfl) ?_
        refine va_get (D := D) (ci := 5) (v := .int 0) (C := RX1) (T := TX1) (N := 12) hx hb hgw in_X1 hown hK hP 2 rfl rfl 9 (by decide) (hgw _ m_2_17) (fun _ h9 => h9) rfl dX1_readField_85 ?_
        refine lv_if_eq (tgt := 95) hx hb dX1_readField_88 (by decide) (fun _ => ?_) (fun h => absurd (by decide +kernel) h)
        refine lv_iconst (v := 0) hx hb dX1_readField_95 (by decide) ?_
        have hP9 := hP.sub (ws' := [(h2, .inl (dA 0, 24, .inl f0)), (h1, .inl (dA 0, 24, .inl (upd (fun _ => 0) 0 p0))), (h0, .inr (5, [.ref h1, .ref h2, .ref h3, .int 0, .int 0, .int 1, .int (-1), .int 0, .int 0, .int 0, .int 0, .int 0]))]) [0, 1, 2] rfl
        have hD9 := hD.sub (ws' := [(h2, .inl (dA 0, 24, .inl f0)), (h1, .inl (dA 0, 24, .inl (upd (fun _ => 0) 0 p0))), (h0, .inr (5, [.ref h1, .ref h2, .ref h3, .int 0, .int 0, .int 1, .int (-1), .int 0, .int 0, .int 0, .int 0, .int 0]))]) [0, 1, 2] (by decide) rfl
        exact (kq_iret (v := 0) hx hb hr hlocks hS rfl (Or.inr (Or.inr (Or.inr (Or.inr (Or.inl ⟨c_1, c_37, c_42, c_43, c_44, c_45, rfl, rfl⟩))))) hP9 hD9 (Nat.le_of_ble_eq_true rfl) (Nat.le_of_ble_eq_true rfl) dX1_readField_96)
      · skip
        refine W.eq (g2 := F0 m 67 ls [.int 0, .ref h0]) rfl ?_
        have hP : va_P D vwCl [(h2, .inl (dA 0, 24, .inl f0)), (h1, .inl (dA 0, 24, .inl (upd (fun _ => 0) 0 p0))), (h0, .inr (5, [.ref h1, .ref h2, .ref h3, .int 0, .int 0, .int 1, .int (-1), .int 0, .int 0, .int 0, .int 0, .int 0]))] H := hP
        have hD : va_D A [(h2, .inl (dA 0, 24, .inl f0)), (h1, .inl (dA 0, 24, .inl (upd (fun _ => 0) 0 p0))), (h0, .inr (5, [.ref h1, .ref h2, .ref h3, .int 0, .int 0, .int 1, .int (-1), .int 0, .int 0, .int 0, .int 0, .int 0]))] := hD
        refine va_put (D := D) (ci := 5) (v := .int 0) (ty := .int) (C := RX1) (T := TX1) (N := 12) hx hb hgw in_X1 tyX1 tyX1_ok nmX1 hown hK hP hD hS 2 rfl rfl 9 (by decide) (hgw _ m_2_17) (fun _ h9 => h9) rfl (by decide +kernel) rfl rfl (Nat.le_of_ble_eq_true rfl) dX1_readField_67 (fun H locs hP hD hS => ?_)
        have hP : va_P D vwCl [(h2, .inl (dA 0, 24, .inl f0)), (h1, .inl (dA 0, 24, .inl (upd (fun _ => 0) 0 p0))), (h0, .inr (5, [.ref h1, .ref h2, .ref h3, .int 0, .int 0, .int 1, .int (-1), .int 0, .int 0, .int 0, .int 0, .int 0]))] H := hP
        have hD : va_D A [(h2, .inl (dA 0, 24, .inl f0)), (h1, .inl (dA 0, 24, .inl (upd (fun _ => 0) 0 p0))), (h0, .inr (5, [.ref h1, .ref h2, .ref h3, .int 0, .int 0, .int 1, .int (-1), .int 0, .int 0, .int 0, .int 0, .int 0]))] := hD
        refine lv_aload_n hx hb dX1_readField_70 rfl (lv_at hl 1 rfl) ?_
        refine va_get (D := D) (ci := 5) (v := .int 0) (C := RX1) (T := TX1) (N := 12) hx hb hgw in_X1 hown hK hP 2 rfl rfl 9 (by decide) (hgw _ m_2_17) (fun _ h9 => h9) rfl dX1_readField_71 ?_
        refine lv_if_eq (tgt := 84) hx hb dX1_readField_74 (by decide) (fun _ => ?_) (fun h => absurd (by decide +kernel) h)
        refine lv_aload_n hx hb dX1_readField_84 rfl (lv_at hl 1 rfl) ?_
        refine va_get (D := D) (ci := 5) (v := .int 0) (C := RX1) (T := TX1) (N := 12) hx hb hgw in_X1 hown hK hP 2 rfl rfl 9 (by decide) (hgw _ m_2_17) (fun _ h9 => h9) rfl dX1_readField_85 ?_
        refine lv_if_eq (tgt := 95) hx hb dX1_readField_88 (by decide) (fun _ => ?_) (fun h => absurd (by decide +kernel) h)
        refine lv_iconst (v := 0) hx hb dX1_readField_95 (by decide) ?_
        have hP9 := hP.sub (ws' := [(h2, .inl (dA 0, 24, .inl f0)), (h1, .inl (dA 0, 24, .inl (upd (fun _ => 0) 0 p0))), (h0, .inr (5, [.ref h1, .ref h2, .ref h3, .int 0, .int 0, .int 1, .int (-1), .int 0, .int 0, .int 0, .int 0, .int 0]))]) [0, 1, 2] rfl
        have hD9 := hD.sub (ws' := [(h2, .inl (dA 0, 24, .inl f0)), (h1, .inl (dA 0, 24, .inl (upd (fun _ => 0) 0 p0))), (h0, .inr (5, [.ref h1, .ref h2, .ref h3, .int 0, .int 0, .int 1, .int (-1), .int 0, .int 0, .int 0, .int 0, .int 0]))]) [0, 1, 2] (by decide) rfl
        exact (kq_iret (v := 0) hx hb hr hlocks hS rfl (Or.inr (Or.inr (Or.inr (Or.inr (Or.inr (Or.inl ⟨c_1, c_37, c_46, c_47, c_48, c_49, c_50, rfl, rfl⟩)))))) hP9 hD9 (Nat.le_of_ble_eq_true rfl) (Nat.le_of_ble_eq_true rfl) dX1_readField_96)
      · skip
        refine W.eq (g2 := F0 m 67 ls [.int 0, .ref h0]) rfl ?_
        have hP : va_P D vwCl [(h2, .inl (dA 0, 24, .inl f0)), (h1, .inl (dA 0, 24, .inl (upd (fun _ => 0) 0 p0))), (h0, .inr (5, [.ref h1, .ref h2, .ref h3, .int 0, .int 0, .int 1, .int (-1), .int 0, .int 0, .int 0, .int 0, .int 0]))] H := hP
        have hD : va_D A [(h2, .inl (dA 0, 24, .inl f0)), (h1, .inl (dA 0, 24, .inl (upd (fun _ => 0) 0 p0))), (h0, .inr (5, [.ref h1, .ref h2, .ref h3, .int 0, .int 0, .int 1, .int (-1), .int 0, .int 0, .int 0, .int 0, .int 0]))] := hD
        refine va_put (D := D) (ci := 5) (v := .int 0) (ty := .int) (C := RX1) (T := TX1) (N := 12) hx hb hgw in_X1 tyX1 tyX1_ok nmX1 hown hK hP hD hS 2 rfl rfl 9 (by decide) (hgw _ m_2_17) (fun _ h9 => h9) rfl (by decide +kernel) rfl rfl (Nat.le_of_ble_eq_true rfl) dX1_readField_67 (fun H locs hP hD hS => ?_)
        have hP : va_P D vwCl [(h2, .inl (dA 0, 24, .inl f0)), (h1, .inl (dA 0, 24, .inl (upd (fun _ => 0) 0 p0))), (h0, .inr (5, [.ref h1, .ref h2, .ref h3, .int 0, .int 0, .int 1, .int (-1), .int 0, .int 0, .int 0, .int 0, .int 0]))] H := hP
        have hD : va_D A [(h2, .inl (dA 0, 24, .inl f0)), (h1, .inl (dA 0, 24, .inl (upd (fun _ => 0) 0 p0))), (h0, .inr (5, [.ref h1, .ref h2, .ref h3, .int 0, .int 0, .int 1, .int (-1), .int 0, .int 0, .int 0, .int 0, .int 0]))] := hD
        refine lv_aload_n hx hb dX1_readField_70 rfl (lv_at hl 1 rfl) ?_
        refine va_get (D := D) (ci := 5) (v := .int 0) (C := RX1) (T := TX1) (N := 12) hx hb hgw in_X1 hown hK hP 2 rfl rfl 9 (by decide) (hgw _ m_2_17) (fun _ h9 => h9) rfl dX1_readField_71 ?_
        refine lv_if_eq (tgt := 84) hx hb dX1_readField_74 (by decide) (fun _ => ?_) (fun h => absurd (by decide +kernel) h)
        refine lv_aload_n hx hb dX1_readField_84 rfl (lv_at hl 1 rfl) ?_
        refine va_get (D := D) (ci := 5) (v := .int 0) (C := RX1) (T := TX1) (N := 12) hx hb hgw in_X1 hown hK hP 2 rfl rfl 9 (by decide) (hgw _ m_2_17) (fun _ h9 => h9) rfl dX1_readField_85 ?_
        refine lv_if_eq (tgt := 95) hx hb dX1_readField_88 (by decide) (fun _ => ?_) (fun h => absurd (by decide +kernel) h)
        refine lv_iconst (v := 0) hx hb dX1_readField_95 (by decide) ?_
        have hP9 := hP.sub (ws' := [(h2, .inl (dA 0, 24, .inl f0)), (h1, .inl (dA 0, 24, .inl (upd (fun _ => 0) 0 p0))), (h0, .inr (5, [.ref h1, .ref h2, .ref h3, .int 0, .int 0, .int 1, .int (-1), .int 0, .int 0, .int 0, .int 0, .int 0]))]) [0, 1, 2] rfl
        have hD9 := hD.sub (ws' := [(h2, .inl (dA 0, 24, .inl f0)), (h1, .inl (dA 0, 24, .inl (upd (fun _ => 0) 0 p0))), (h0, .inr (5, [.ref h1, .ref h2, .ref h3, .int 0, .int 0, .int 1, .int (-1), .int 0, .int 0, .int 0, .int 0, .int 0]))]) [0, 1, 2] (by decide) rfl
        exact (kq_iret (v := 0) hx hb hr hlocks hS rfl (Or.inr (Or.inr (Or.inr (Or.inr (Or.inr (Or.inr (Or.inl ⟨c_1, c_37, c_51, c_52, c_53, c_54, c_55, c_56, rfl, rfl⟩))))))) hP9 hD9 (Nat.le_of_ble_eq_true rfl) (Nat.le_of_ble_eq_true rfl) dX1_readField_96)
      · skip
        refine W.eq (g2 := F0 m 67 ls [.int 0, .ref h0]) rfl ?_
        have hP : va_P D vwCl [(h2, .inl (dA 0, 24, .inl f0)), (h1, .inl (dA 0, 24, .inl (upd (fun _ => 0) 0 p0))), (h0, .inr (5, [.ref h1, .ref h2, .ref h3, .int 0, .int 0, .int 1, .int (-1), .int 0, .int 0, .int 0, .int 0, .int 0]))] H := hP
        have hD : va_D A [(h2, .inl (dA 0, 24, .inl f0)), (h1, .inl (dA 0, 24, .inl (upd (fun _ => 0) 0 p0))), (h0, .inr (5, [.ref h1, .ref h2, .ref h3, .int 0, .int 0, .int 1, .int (-1), .int 0, .int 0, .int 0, .int 0, .int 0]))] := hD
        refine va_put (D := D) (ci := 5) (v := .int 0) (ty := .int) (C := RX1) (T := TX1) (N := 12) hx hb hgw in_X1 tyX1 tyX1_ok nmX1 hown hK hP hD hS 2 rfl rfl 9 (by decide) (hgw _ m_2_17) (fun _ h9 => h9) rfl (by decide +kernel) rfl rfl (Nat.le_of_ble_eq_true rfl) dX1_readField_67 (fun H locs hP hD hS => ?_)
        have hP : va_P D vwCl [(h2, .inl (dA 0, 24, .inl f0)), (h1, .inl (dA 0, 24, .inl (upd (fun _ => 0) 0 p0))), (h0, .inr (5, [.ref h1, .ref h2, .ref h3, .int 0, .int 0, .int 1, .int (-1), .int 0, .int 0, .int 0, .int 0, .int 0]))] H := hP
        have hD : va_D A [(h2, .inl (dA 0, 24, .inl f0)), (h1, .inl (dA 0, 24, .inl (upd (fun _ => 0) 0 p0))), (h0, .inr (5, [.ref h1, .ref h2, .ref h3, .int 0, .int 0, .int 1, .int (-1), .int 0, .int 0, .int 0, .int 0, .int 0]))] := hD
        refine lv_aload_n hx hb dX1_readField_70 rfl (lv_at hl 1 rfl) ?_
        refine va_get (D := D) (ci := 5) (v := .int 0) (C := RX1) (T := TX1) (N := 12) hx hb hgw in_X1 hown hK hP 2 rfl rfl 9 (by decide) (hgw _ m_2_17) (fun _ h9 => h9) rfl dX1_readField_71 ?_
        refine lv_if_eq (tgt := 84) hx hb dX1_readField_74 (by decide) (fun _ => ?_) (fun h => absurd (by decide +kernel) h)
        refine lv_aload_n hx hb dX1_readField_84 rfl (lv_at hl 1 rfl) ?_
        refine va_get (D := D) (ci := 5) (v := .int 0) (C := RX1) (T := TX1) (N := 12) hx hb hgw in_X1 hown hK hP 2 rfl rfl 9 (by decide) (hgw _ m_2_17) (fun _ h9 => h9) rfl dX1_readField_85 ?_
        refine lv_if_eq (tgt := 95) hx hb dX1_readField_88 (by decide) (fun _ => ?_) (fun h => absurd (by decide +kernel) h)
        refine lv_iconst (v := 0) hx hb dX1_readField_95 (by decide) ?_
        have hP9 := hP.sub (ws' := [(h2, .inl (dA 0, 24, .inl f0)), (h1, .inl (dA 0, 24, .inl (upd (fun _ => 0) 0 p0))), (h0, .inr (5, [.ref h1, .ref h2, .ref h3, .int 0, .int 0, .int 1, .int (-1), .int 0, .int 0, .int 0, .int 0, .int 0]))]) [0, 1, 2] rfl
        have hD9 := hD.sub (ws' := [(h2, .inl (dA 0, 24, .inl f0)), (h1, .inl (dA 0, 24, .inl (upd (fun _ => 0) 0 p0))), (h0, .inr (5, [.ref h1, .ref h2, .ref h3, .int 0, .int 0, .int 1, .int (-1), .int 0, .int 0, .int 0, .int 0, .int 0]))]) [0, 1, 2] (by decide) rfl
        exact (kq_iret (v := 0) hx hb hr hlocks hS rfl (Or.inr (Or.inr (Or.inr (Or.inr (Or.inr (Or.inr (Or.inr (Or.inl ⟨c_1, c_37, c_57, c_58, c_59, c_60, c_61, c_62, c_63, rfl, rfl⟩)))))))) hP9 hD9 (Nat.le_of_ble_eq_true rfl) (Nat.le_of_ble_eq_true rfl) dX1_readField_96)
      · skip
        refine W.eq (g2 := F0 m 67 ls [.int 0, .ref h0]) rfl ?_
        have hP : va_P D vwCl [(h2, .inl (dA 0, 24, .inl f0)), (h1, .inl (dA 0, 24, .inl (upd (fun _ => 0) 0 p0))), (h0, .inr (5, [.ref h1, .ref h2, .ref h3, .int 0, .int 0, .int 1, .int (-1), .int 0, .int 0, .int 0, .int 0, .int 0]))] H := hP
        have hD : va_D A [(h2, .inl (dA 0, 24, .inl f0)), (h1, .inl (dA 0, 24, .inl (upd (fun _ => 0) 0 p0))), (h0, .inr (5, [.ref h1, .ref h2, .ref h3, .int 0, .int 0, .int 1, .int (-1), .int 0, .int 0, .int 0, .int 0, .int 0]))] := hD
        refine va_put (D := D) (ci := 5) (v := .int 0) (ty := .int) (C := RX1) (T := TX1) (N := 12) hx hb hgw in_X1 tyX1 tyX1_ok nmX1 hown hK hP hD hS 2 rfl rfl 9 (by decide) (hgw _ m_2_17) (fun _ h9 => h9) rfl (by decide +kernel) rfl rfl (Nat.le_of_ble_eq_true rfl) dX1_readField_67 (fun H locs hP hD hS => ?_)
        have hP : va_P D vwCl [(h2, .inl (dA 0, 24, .inl f0)), (h1, .inl (dA 0, 24, .inl (upd (fun _ => 0) 0 p0))), (h0, .inr (5, [.ref h1, .ref h2, .ref h3, .int 0, .int 0, .int 1, .int (-1), .int 0, .int 0, .int 0, .int 0, .int 0]))] H := hP
        have hD : va_D A [(h2, .inl (dA 0, 24, .inl f0)), (h1, .inl (dA 0, 24, .inl (upd (fun _ => 0) 0 p0))), (h0, .inr (5, [.ref h1, .ref h2, .ref h3, .int 0, .int 0, .int 1, .int (-1), .int 0, .int 0, .int 0, .int 0, .int 0]))] := hD
        refine lv_aload_n hx hb dX1_readField_70 rfl (lv_at hl 1 rfl) ?_
        refine va_get (D := D) (ci := 5) (v := .int 0) (C := RX1) (T := TX1) (N := 12) hx hb hgw in_X1 hown hK hP 2 rfl rfl 9 (by decide) (hgw _ m_2_17) (fun _ h9 => h9) rfl dX1_readField_71 ?_
        refine lv_if_eq (tgt := 84) hx hb dX1_readField_74 (by decide) (fun _ => ?_) (fun h => absurd (by decide +kernel) h)
        refine lv_aload_n hx hb dX1_readField_84 rfl (lv_at hl 1 rfl) ?_
        refine va_get (D := D) (ci := 5) (v := .int 0) (C := RX1) (T := TX1) (N := 12) hx hb hgw in_X1 hown hK hP 2 rfl rfl 9 (by decide) (hgw _ m_2_17) (fun _ h9 => h9) rfl dX1_readField_85 ?_
        refine lv_if_eq (tgt := 95) hx hb dX1_readField_88 (by decide) (fun _ => ?_) (fun h => absurd (by decide +kernel) h)
        refine lv_iconst (v := 0) hx hb dX1_readField_95 (by decide) ?_
        have hP9 := hP.sub (ws' := [(h2, .inl (dA 0, 24, .inl f0)), (h1, .inl (dA 0, 24, .inl (upd (fun _ => 0) 0 p0))), (h0, .inr (5, [.ref h1, .ref h2, .ref h3, .int 0, .int 0, .int 1, .int (-1), .int 0, .int 0, .int 0, .int 0, .int 0]))]) [0, 1, 2] rfl
        have hD9 := hD.sub (ws' := [(h2, .inl (dA 0, 24, .inl f0)), (h1, .inl (dA 0, 24, .inl (upd (fun _ => 0) 0 p0))), (h0, .inr (5, [.ref h1, .ref h2, .ref h3, .int 0, .int 0, .int 1, .int (-1), .int 0, .int 0, .int 0, .int 0, .int 0]))]) [0, 1, 2] (by decide) rfl
        exact (kq_iret (v := 0) hx hb hr hlocks hS rfl (Or.inr (Or.inr (Or.inr (Or.inr (Or.inr (Or.inr (Or.inr (Or.inr (Or.inl ⟨c_1, c_37, c_64, c_65, c_66, c_67, c_68, c_69, c_70, rfl, rfl⟩))))))))) hP9 hD9 (Nat.le_of_ble_eq_true rfl) (Nat.le_of_ble_eq_true rfl) dX1_readField_96)
      · skip
        exact (by omega : False).elim
    · have c_37 := mt (kq_lt (x := 15) (y := p0) (a := 15) (b := p0.toInt) (by decide +kernel) (by rfl)).mpr c_37
      refine lv_aload_n hx hb dX1_readField_21 rfl (lv_at hl 1 rfl) ?_
      refine lv_iload_n hx hb dX1_readField_22 rfl (lv_at hl 0 rfl) ?_
      refine va_put (D := D) (ci := 5) (v := .int p0) (ty := .int) (C := RX1) (T := TX1) (N := 12) hx hb hgw in_X1 tyX1 tyX1_ok nmX1 hown hK hP hD hS 2 rfl rfl 7 (by decide) (hgw _ m_2_10) (fun _ h9 => h9) rfl (by decide +kernel) rfl rfl (Nat.le_of_ble_eq_true rfl) dX1_readField_23 (fun H locs hP hD hS => ?_)
      have hP : va_P D vwCl [(h2, .inl (dA 0, 24, .inl f0)), (h1, .inl (dA 0, 24, .inl (upd (fun _ => 0) 0 p0))), (h0, .inr (5, [.ref h1, .ref h2, .ref h3, .int 0, .int 0, .int 1, .int (-1), .int p0, .int 0, .int 0, .int 0, .int 0]))] H := hP
      have hD : va_D A [(h2, .inl (dA 0, 24, .inl f0)), (h1, .inl (dA 0, 24, .inl (upd (fun _ => 0) 0 p0))), (h0, .inr (5, [.ref h1, .ref h2, .ref h3, .int 0, .int 0, .int 1, .int (-1), .int p0, .int 0, .int 0, .int 0, .int 0]))] := hD
      refine lv_aload_n hx hb dX1_readField_26 rfl (lv_at hl 1 rfl) ?_
      refine lv_dup hx hb dX1_readField_27 rfl ?_
      refine va_get (D := D) (ci := 5) (v := .int 0) (C := RX1) (T := TX1) (N := 12) hx hb hgw in_X1 hown hK hP 2 rfl rfl 3 (by decide) (hgw _ m_2_1) (fun _ h9 => h9) rfl dX1_readField_28 ?_
      refine lv_iconst (v := 1) hx hb dX1_readField_31 (by decide) ?_
      refine lv_iadd hx hb dX1_readField_32 ?_
      refine kq_topi (y := 1) (by decide +kernel) ?_
      refine va_put (D := D) (ci := 5) (v := .int 1) (ty := .int) (C := RX1) (T := TX1) (N := 12) hx hb hgw in_X1 tyX1 tyX1_ok nmX1 hown hK hP hD hS 2 rfl rfl 3 (by decide) (hgw _ m_2_1) (fun _ h9 => h9) rfl (by decide +kernel) rfl rfl (Nat.le_of_ble_eq_true rfl) dX1_readField_33 (fun H locs hP hD hS => ?_)
      have hP : va_P D vwCl [(h2, .inl (dA 0, 24, .inl f0)), (h1, .inl (dA 0, 24, .inl (upd (fun _ => 0) 0 p0))), (h0, .inr (5, [.ref h1, .ref h2, .ref h3, .int 1, .int 0, .int 1, .int (-1), .int p0, .int 0, .int 0, .int 0, .int 0]))] H := hP
      have hD : va_D A [(h2, .inl (dA 0, 24, .inl f0)), (h1, .inl (dA 0, 24, .inl (upd (fun _ => 0) 0 p0))), (h0, .inr (5, [.ref h1, .ref h2, .ref h3, .int 1, .int 0, .int 1, .int (-1), .int p0, .int 0, .int 0, .int 0, .int 0]))] := hD
      refine lv_aload_n hx hb dX1_readField_36 rfl (lv_at hl 1 rfl) ?_
      refine lv_aload_n hx hb dX1_readField_37 rfl (lv_at hl 1 rfl) ?_
      refine va_get (D := D) (ci := 5) (v := .int p0) (C := RX1) (T := TX1) (N := 12) hx hb hgw in_X1 hown hK hP 2 rfl rfl 7 (by decide) (hgw _ m_2_10) (fun _ h9 => h9) rfl dX1_readField_38 ?_
      refine lv_bipush (v := 14) hx hb dX1_readField_41 (by decide +kernel) ?_
      refine lv_icmp_ge (tgt := 57) hx hb dX1_readField_43 (by decide) (fun c_73 => ?_) (fun c_73 => ?_)
      · have c_73 := (kq_le (x := 14) (y := p0) (a := 14) (b := p0.toInt) (by decide +kernel) (by rfl)).mp c_73
        refine lv_iconst (v := 0) hx hb dX1_readField_57 (by decide) ?_
        refine va_put (D := D) (ci := 5) (v := .int 0) (ty := .int) (C := RX1) (T := TX1) (N := 12) hx hb hgw in_X1 tyX1 tyX1_ok nmX1 hown hK hP hD hS 2 rfl rfl 8 (by decide) (hgw _ m_2_13) (fun _ h9 => h9) rfl (by decide +kernel) rfl rfl (Nat.le_of_ble_eq_true rfl) dX1_readField_58 (fun H locs hP hD hS => ?_)
        have hP : va_P D vwCl [(h2, .inl (dA 0, 24, .inl f0)), (h1, .inl (dA 0, 24, .inl (upd (fun _ => 0) 0 p0))), (h0, .inr (5, [.ref h1, .ref h2, .ref h3, .int 1, .int 0, .int 1, .int (-1), .int p0, .int 0, .int 0, .int 0, .int 0]))] H := hP
        have hD : va_D A [(h2, .inl (dA 0, 24, .inl f0)), (h1, .inl (dA 0, 24, .inl (upd (fun _ => 0) 0 p0))), (h0, .inr (5, [.ref h1, .ref h2, .ref h3, .int 1, .int 0, .int 1, .int (-1), .int p0, .int 0, .int 0, .int 0, .int 0]))] := hD
        refine lv_aload_n hx hb dX1_readField_61 rfl (lv_at hl 1 rfl) ?_
        refine lv_aload_n hx hb dX1_readField_62 rfl (lv_at hl 1 rfl) ?_
        refine lv_iconst (v := 0) hx hb dX1_readField_63 (by decide) ?_
        refine kq_V (q0 := 0) (As := [.int 0]) (rest := [.ref h0]) (wr := [(h2, .inl (dA 0, 24, .inl f0)), (h1, .inl (dA 0, 24, .inl (upd (fun _ => 0) 0 p0)))]) hx hb hml hown hgw hK hG hA hP hD hS (c_X1_takeTincture_2 l hfl D dA tE tC h0 h1 h2 h3 p0) m_3_131 m_3_133 m_s_3 m_1_6 m_3_134 hd_X1_takeTincture rfl rfl ⟨(Nat.le_of_ble_eq_true rfl), (Nat.le_of_ble_eq_true rfl)⟩ [2] [0, 1] rfl rfl rfl rfl (by decide) rfl rfl rfl hl.1 rfl (Nat.le_of_ble_eq_true rfl) dX1_readField_64 ⟨(Nat.le_of_ble_eq_true rfl), (Nat.le_of_ble_eq_true rfl)⟩ (fun v w1 H locs hQ hP hD hS => ?_)
        obtain ⟨rfl, rfl⟩ := hQ
        refine W.eq (g2 := F0 m 67 ls [.int 0, .ref h0]) rfl ?_
        have hP : va_P D vwCl [(h2, .inl (dA 0, 24, .inl f0)), (h1, .inl (dA 0, 24, .inl (upd (fun _ => 0) 0 p0))), (h0, .inr (5, [.ref h1, .ref h2, .ref h3, .int 1, .int 0, .int 1, .int (-1), .int p0, .int 0, .int 0, .int 0, .int 0]))] H := hP
        have hD : va_D A [(h2, .inl (dA 0, 24, .inl f0)), (h1, .inl (dA 0, 24, .inl (upd (fun _ => 0) 0 p0))), (h0, .inr (5, [.ref h1, .ref h2, .ref h3, .int 1, .int 0, .int 1, .int (-1), .int p0, .int 0, .int 0, .int 0, .int 0]))] := hD
        refine va_put (D := D) (ci := 5) (v := .int 0) (ty := .int) (C := RX1) (T := TX1) (N := 12) hx hb hgw in_X1 tyX1 tyX1_ok nmX1 hown hK hP hD hS 2 rfl rfl 9 (by decide) (hgw _ m_2_17) (fun _ h9 => h9) rfl (by decide +kernel) rfl rfl (Nat.le_of_ble_eq_true rfl) dX1_readField_67 (fun H locs hP hD hS => ?_)
        have hP : va_P D vwCl [(h2, .inl (dA 0, 24, .inl f0)), (h1, .inl (dA 0, 24, .inl (upd (fun _ => 0) 0 p0))), (h0, .inr (5, [.ref h1, .ref h2, .ref h3, .int 1, .int 0, .int 1, .int (-1), .int p0, .int 0, .int 0, .int 0, .int 0]))] H := hP
        have hD : va_D A [(h2, .inl (dA 0, 24, .inl f0)), (h1, .inl (dA 0, 24, .inl (upd (fun _ => 0) 0 p0))), (h0, .inr (5, [.ref h1, .ref h2, .ref h3, .int 1, .int 0, .int 1, .int (-1), .int p0, .int 0, .int 0, .int 0, .int 0]))] := hD
        refine lv_aload_n hx hb dX1_readField_70 rfl (lv_at hl 1 rfl) ?_
        refine va_get (D := D) (ci := 5) (v := .int 0) (C := RX1) (T := TX1) (N := 12) hx hb hgw in_X1 hown hK hP 2 rfl rfl 9 (by decide) (hgw _ m_2_17) (fun _ h9 => h9) rfl dX1_readField_71 ?_
        refine lv_if_eq (tgt := 84) hx hb dX1_readField_74 (by decide) (fun _ => ?_) (fun h => absurd (by decide +kernel) h)
        refine lv_aload_n hx hb dX1_readField_84 rfl (lv_at hl 1 rfl) ?_
        refine va_get (D := D) (ci := 5) (v := .int 0) (C := RX1) (T := TX1) (N := 12) hx hb hgw in_X1 hown hK hP 2 rfl rfl 9 (by decide) (hgw _ m_2_17) (fun _ h9 => h9) rfl dX1_readField_85 ?_
        refine lv_if_eq (tgt := 95) hx hb dX1_readField_88 (by decide) (fun _ => ?_) (fun h => absurd (by decide +kernel) h)
        refine lv_iconst (v := 0) hx hb dX1_readField_95 (by decide) ?_
        have hP9 := hP.sub (ws' := [(h2, .inl (dA 0, 24, .inl f0)), (h1, .inl (dA 0, 24, .inl (upd (fun _ => 0) 0 p0))), (h0, .inr (5, [.ref h1, .ref h2, .ref h3, .int 1, .int 0, .int 1, .int (-1), .int p0, .int 0, .int 0, .int 0, .int 0]))]) [0, 1, 2] rfl
        have hD9 := hD.sub (ws' := [(h2, .inl (dA 0, 24, .inl f0)), (h1, .inl (dA 0, 24, .inl (upd (fun _ => 0) 0 p0))), (h0, .inr (5, [.ref h1, .ref h2, .ref h3, .int 1, .int 0, .int 1, .int (-1), .int p0, .int 0, .int 0, .int 0, .int 0]))]) [0, 1, 2] (by decide) rfl
        exact (kq_iret (v := 0) hx hb hr hlocks hS rfl (Or.inr (Or.inr (Or.inr (Or.inr (Or.inr (Or.inr (Or.inr (Or.inr (Or.inr (Or.inl ⟨c_1, c_37, c_73, rfl, rfl⟩)))))))))) hP9 hD9 (Nat.le_of_ble_eq_true rfl) (Nat.le_of_ble_eq_true rfl) dX1_readField_96)
      · have c_73 := mt (kq_le (x := 14) (y := p0) (a := 14) (b := p0.toInt) (by decide +kernel) (by rfl)).mpr c_73
        refine lv_aload_n hx hb dX1_readField_46 rfl (lv_at hl 1 rfl) ?_
        refine lv_bipush (v := 9) hx hb dX1_readField_47 (by decide +kernel) ?_
        refine lv_bipush (v := 10) hx hb dX1_readField_49 (by decide +kernel) ?_
        refine kq_V (q0 := 0) (As := [.int 9, .int 10]) (rest := [.ref h0]) (wr := [(h2, .inl (dA 0, 24, .inl f0)), (h1, .inl (dA 0, 24, .inl (upd (fun _ => 0) 0 p0)))]) hx hb hml hown hgw hK hG hA hP hD hS (c_X1_takeIn l hfl D dA tE tC h0 h1 h2 h3 p0) m_3_127 m_3_129 m_s_2 m_1_6 m_3_130 hd_X1_takeIn rfl rfl ⟨(Nat.le_of_ble_eq_true rfl), (Nat.le_of_ble_eq_true rfl)⟩ [2] [0, 1] rfl rfl rfl rfl (by decide) rfl rfl rfl hl.1 rfl (Nat.le_of_ble_eq_true rfl) dX1_readField_51 ⟨(Nat.le_of_ble_eq_true rfl), (Nat.le_of_ble_eq_true rfl)⟩ (fun v w1 H locs hQ hP hD hS => ?_)
        obtain ⟨rfl, rfl⟩ := hQ
        refine W.eq (g2 := F0 m 54 ls [.int 0, .ref h0]) rfl ?_
        have hP : va_P D vwCl [(h2, .inl (dA 0, 24, .inl f0)), (h1, .inl (dA 0, 24, .inl (upd (fun _ => 0) 0 p0))), (h0, .inr (5, [.ref h1, .ref h2, .ref h3, .int 1, .int 0, .int 1, .int (-1), .int p0, .int 0, .int 0, .int 0, .int 0]))] H := hP
        have hD : va_D A [(h2, .inl (dA 0, 24, .inl f0)), (h1, .inl (dA 0, 24, .inl (upd (fun _ => 0) 0 p0))), (h0, .inr (5, [.ref h1, .ref h2, .ref h3, .int 1, .int 0, .int 1, .int (-1), .int p0, .int 0, .int 0, .int 0, .int 0]))] := hD
        refine lv_goto (tgt := 58) hx hb dX1_readField_54 (by decide) ?_
        refine va_put (D := D) (ci := 5) (v := .int 0) (ty := .int) (C := RX1) (T := TX1) (N := 12) hx hb hgw in_X1 tyX1 tyX1_ok nmX1 hown hK hP hD hS 2 rfl rfl 8 (by decide) (hgw _ m_2_13) (fun _ h9 => h9) rfl (by decide +kernel) rfl rfl (Nat.le_of_ble_eq_true rfl) dX1_readField_58 (fun H locs hP hD hS => ?_)
        have hP : va_P D vwCl [(h2, .inl (dA 0, 24, .inl f0)), (h1, .inl (dA 0, 24, .inl (upd (fun _ => 0) 0 p0))), (h0, .inr (5, [.ref h1, .ref h2, .ref h3, .int 1, .int 0, .int 1, .int (-1), .int p0, .int 0, .int 0, .int 0, .int 0]))] H := hP
        have hD : va_D A [(h2, .inl (dA 0, 24, .inl f0)), (h1, .inl (dA 0, 24, .inl (upd (fun _ => 0) 0 p0))), (h0, .inr (5, [.ref h1, .ref h2, .ref h3, .int 1, .int 0, .int 1, .int (-1), .int p0, .int 0, .int 0, .int 0, .int 0]))] := hD
        refine lv_aload_n hx hb dX1_readField_61 rfl (lv_at hl 1 rfl) ?_
        refine lv_aload_n hx hb dX1_readField_62 rfl (lv_at hl 1 rfl) ?_
        refine lv_iconst (v := 0) hx hb dX1_readField_63 (by decide) ?_
        refine kq_V (q0 := 0) (As := [.int 0]) (rest := [.ref h0]) (wr := [(h2, .inl (dA 0, 24, .inl f0)), (h1, .inl (dA 0, 24, .inl (upd (fun _ => 0) 0 p0)))]) hx hb hml hown hgw hK hG hA hP hD hS (c_X1_takeTincture_2 l hfl D dA tE tC h0 h1 h2 h3 p0) m_3_131 m_3_133 m_s_3 m_1_6 m_3_134 hd_X1_takeTincture rfl rfl ⟨(Nat.le_of_ble_eq_true rfl), (Nat.le_of_ble_eq_true rfl)⟩ [2] [0, 1] rfl rfl rfl rfl (by decide) rfl rfl rfl hl.1 rfl (Nat.le_of_ble_eq_true rfl) dX1_readField_64 ⟨(Nat.le_of_ble_eq_true rfl), (Nat.le_of_ble_eq_true rfl)⟩ (fun v w1 H locs hQ hP hD hS => ?_)
        obtain ⟨rfl, rfl⟩ := hQ
        refine W.eq (g2 := F0 m 67 ls [.int 0, .ref h0]) rfl ?_
        have hP : va_P D vwCl [(h2, .inl (dA 0, 24, .inl f0)), (h1, .inl (dA 0, 24, .inl (upd (fun _ => 0) 0 p0))), (h0, .inr (5, [.ref h1, .ref h2, .ref h3, .int 1, .int 0, .int 1, .int (-1), .int p0, .int 0, .int 0, .int 0, .int 0]))] H := hP
        have hD : va_D A [(h2, .inl (dA 0, 24, .inl f0)), (h1, .inl (dA 0, 24, .inl (upd (fun _ => 0) 0 p0))), (h0, .inr (5, [.ref h1, .ref h2, .ref h3, .int 1, .int 0, .int 1, .int (-1), .int p0, .int 0, .int 0, .int 0, .int 0]))] := hD
        refine va_put (D := D) (ci := 5) (v := .int 0) (ty := .int) (C := RX1) (T := TX1) (N := 12) hx hb hgw in_X1 tyX1 tyX1_ok nmX1 hown hK hP hD hS 2 rfl rfl 9 (by decide) (hgw _ m_2_17) (fun _ h9 => h9) rfl (by decide +kernel) rfl rfl (Nat.le_of_ble_eq_true rfl) dX1_readField_67 (fun H locs hP hD hS => ?_)
        have hP : va_P D vwCl [(h2, .inl (dA 0, 24, .inl f0)), (h1, .inl (dA 0, 24, .inl (upd (fun _ => 0) 0 p0))), (h0, .inr (5, [.ref h1, .ref h2, .ref h3, .int 1, .int 0, .int 1, .int (-1), .int p0, .int 0, .int 0, .int 0, .int 0]))] H := hP
        have hD : va_D A [(h2, .inl (dA 0, 24, .inl f0)), (h1, .inl (dA 0, 24, .inl (upd (fun _ => 0) 0 p0))), (h0, .inr (5, [.ref h1, .ref h2, .ref h3, .int 1, .int 0, .int 1, .int (-1), .int p0, .int 0, .int 0, .int 0, .int 0]))] := hD
        refine lv_aload_n hx hb dX1_readField_70 rfl (lv_at hl 1 rfl) ?_
        refine va_get (D := D) (ci := 5) (v := .int 0) (C := RX1) (T := TX1) (N := 12) hx hb hgw in_X1 hown hK hP 2 rfl rfl 9 (by decide) (hgw _ m_2_17) (fun _ h9 => h9) rfl dX1_readField_71 ?_
        refine lv_if_eq (tgt := 84) hx hb dX1_readField_74 (by decide) (fun _ => ?_) (fun h => absurd (by decide +kernel) h)
        refine lv_aload_n hx hb dX1_readField_84 rfl (lv_at hl 1 rfl) ?_
        refine va_get (D := D) (ci := 5) (v := .int 0) (C := RX1) (T := TX1) (N := 12) hx hb hgw in_X1 hown hK hP 2 rfl rfl 9 (by decide) (hgw _ m_2_17) (fun _ h9 => h9) rfl dX1_readField_85 ?_
        refine lv_if_eq (tgt := 95) hx hb dX1_readField_88 (by decide) (fun _ => ?_) (fun h => absurd (by decide +kernel) h)
        refine lv_iconst (v := 0) hx hb dX1_readField_95 (by decide) ?_
        have hP9 := hP.sub (ws' := [(h2, .inl (dA 0, 24, .inl f0)), (h1, .inl (dA 0, 24, .inl (upd (fun _ => 0) 0 p0))), (h0, .inr (5, [.ref h1, .ref h2, .ref h3, .int 1, .int 0, .int 1, .int (-1), .int p0, .int 0, .int 0, .int 0, .int 0]))]) [0, 1, 2] rfl
        have hD9 := hD.sub (ws' := [(h2, .inl (dA 0, 24, .inl f0)), (h1, .inl (dA 0, 24, .inl (upd (fun _ => 0) 0 p0))), (h0, .inr (5, [.ref h1, .ref h2, .ref h3, .int 1, .int 0, .int 1, .int (-1), .int p0, .int 0, .int 0, .int 0, .int 0]))]) [0, 1, 2] (by decide) rfl
        exact (kq_iret (v := 0) hx hb hr hlocks hS rfl (Or.inr (Or.inr (Or.inr (Or.inr (Or.inr (Or.inr (Or.inr (Or.inr (Or.inr (Or.inr (⟨c_1, c_37, c_73, rfl, rfl⟩))))))))))) hP9 hD9 (Nat.le_of_ble_eq_true rfl) (Nat.le_of_ble_eq_true rfl) dX1_readField_96)
set_option maxHeartbeats 4000000 in
set_option maxRecDepth 100000 in
theorem c_X1_read_1 (l : Launch) (hfl : l.stackTraces = false) (D : va_G) (dA : Nat → ClassId) (tE tC : Nat) (h0 : Nat) (h1 : Nat) (f0 : Nat → Int32) (h2 : Nat) (p0 : Int32) (h3 : Nat) : Ct l D dA tE tC yX1_read (Cond.code yX1_read cX1_read 2 none :: gW) ({ frames := 3, cells := 0, slots := 0, locals := 65 } : Room) [.ref h0] [(h1, .inl (dA 0, 24, .inl f0)), (h2, .inl (dA 0, 24, .inl (upd (fun _ => 0) 0 p0))), (h0, .inr (5, [.ref h2, .ref h1, .ref h3, .int 0, .int 0, .int 1, .int 0, .int 0, .int 0, .int 0, .int 0, .int 0]))] (fun v w1 => (∃ (g1 : Nat → Int32), p0.toInt < 11 ∧ p0.toInt < 1 ∧ v = none ∧ w1 = [(h1, .inl (dA 0, 24, .inl g1)), (h2, .inl (dA 0, 24, .inl (upd (fun _ => 0) 0 p0))), (h0, .inr (5, [.ref h2, .ref h1, .ref h3, .int 0, .int 0, .int 1, .int 0, .int 0, .int 0, .int 0, .int 0, .int 0]))]) ∨ (∃ (g1 : Nat → Int32), p0.toInt < 11 ∧ ¬ p0.toInt < 1 ∧ 8 < p0.toInt ∧ ¬ p0.toInt = 31 ∧ ¬ p0.toInt = 32 ∧ ¬ p0.toInt = 33 ∧ ¬ p0.toInt = 34 ∧ ¬ p0.toInt = 35 ∧ v = none ∧ w1 = [(h1, .inl (dA 0, 24, .inl g1)), (h2, .inl (dA 0, 24, .inl (upd (fun _ => 0) 0 p0))), (h0, .inr (5, [.ref h2, .ref h1, .ref h3, .int 0, .int 0, .int 1, .int 0, .int 0, .int 0, .int 0, .int 0, .int 0]))]) ∨ (∃ (g1 : Nat → Int32), p0.toInt < 11 ∧ ¬ p0.toInt < 1 ∧ ¬ 8 < p0.toInt ∧ v = none ∧ w1 = [(h1, .inl (dA 0, 24, .inl (upd g1 0 p0))), (h2, .inl (dA 0, 24, .inl (upd (fun _ => 0) 0 p0))), (h0, .inr (5, [.ref h2, .ref h1, .ref h3, .int 1, .int p0, .int 1, .int (-1), .int 0, .int 0, .int p0, .int 0, .int 0]))]) ∨ (∃ (g1 : Nat → Int32), ¬ p0.toInt < 11 ∧ 15 < p0.toInt ∧ ¬ p0.toInt < 1 ∧ 8 < p0.toInt ∧ p0.toInt = 31 ∧ v = none ∧ w1 = [(h1, .inl (dA 0, 24, .inl g1)), (h2, .inl (dA 0, 24, .inl (upd (fun _ => 0) 0 p0))), (h0, .inr (5, [.ref h2, .ref h1, .ref h3, .int 0, .int 0, .int 1, .int 0, .int 0, .int 0, .int 0, .int 0, .int 0]))]) ∨ (∃ (g1 : Nat → Int32), ¬ p0.toInt < 11 ∧ 15 < p0.toInt ∧ ¬ p0.toInt < 1 ∧ 8 < p0.toInt ∧ ¬ p0.toInt = 31 ∧ p0.toInt = 32 ∧ v = none ∧ w1 = [(h1, .inl (dA 0, 24, .inl g1)), (h2, .inl (dA 0, 24, .inl (upd (fun _ => 0) 0 p0))), (h0, .inr (5, [.ref h2, .ref h1, .ref h3, .int 0, .int 0, .int 1, .int 0, .int 0, .int 0, .int 0, .int 0, .int 0]))]) ∨ (∃ (g1 : Nat → Int32), ¬ p0.toInt < 11 ∧ 15 < p0.toInt ∧ ¬ p0.toInt < 1 ∧ 8 < p0.toInt ∧ ¬ p0.toInt = 31 ∧ ¬ p0.toInt = 32 ∧ p0.toInt = 33 ∧ v = none ∧ w1 = [(h1, .inl (dA 0, 24, .inl g1)), (h2, .inl (dA 0, 24, .inl (upd (fun _ => 0) 0 p0))), (h0, .inr (5, [.ref h2, .ref h1, .ref h3, .int 0, .int 0, .int 1, .int 0, .int 0, .int 0, .int 0, .int 0, .int 0]))]) ∨ (∃ (g1 : Nat → Int32), ¬ p0.toInt < 11 ∧ 15 < p0.toInt ∧ ¬ p0.toInt < 1 ∧ 8 < p0.toInt ∧ ¬ p0.toInt = 31 ∧ ¬ p0.toInt = 32 ∧ ¬ p0.toInt = 33 ∧ p0.toInt = 34 ∧ v = none ∧ w1 = [(h1, .inl (dA 0, 24, .inl g1)), (h2, .inl (dA 0, 24, .inl (upd (fun _ => 0) 0 p0))), (h0, .inr (5, [.ref h2, .ref h1, .ref h3, .int 0, .int 0, .int 1, .int 0, .int 0, .int 0, .int 0, .int 0, .int 0]))]) ∨ (∃ (g1 : Nat → Int32), ¬ p0.toInt < 11 ∧ 15 < p0.toInt ∧ ¬ p0.toInt < 1 ∧ 8 < p0.toInt ∧ ¬ p0.toInt = 31 ∧ ¬ p0.toInt = 32 ∧ ¬ p0.toInt = 33 ∧ ¬ p0.toInt = 34 ∧ p0.toInt = 35 ∧ v = none ∧ w1 = [(h1, .inl (dA 0, 24, .inl g1)), (h2, .inl (dA 0, 24, .inl (upd (fun _ => 0) 0 p0))), (h0, .inr (5, [.ref h2, .ref h1, .ref h3, .int 0, .int 0, .int 1, .int 0, .int 0, .int 0, .int 0, .int 0, .int 0]))]) ∨ (∃ (g1 : Nat → Int32), ¬ p0.toInt < 11 ∧ 15 < p0.toInt ∧ ¬ p0.toInt < 1 ∧ 8 < p0.toInt ∧ ¬ p0.toInt = 31 ∧ ¬ p0.toInt = 32 ∧ ¬ p0.toInt = 33 ∧ ¬ p0.toInt = 34 ∧ ¬ p0.toInt = 35 ∧ v = none ∧ w1 = [(h1, .inl (dA 0, 24, .inl g1)), (h2, .inl (dA 0, 24, .inl (upd (fun _ => 0) 0 p0))), (h0, .inr (5, [.ref h2, .ref h1, .ref h3, .int 0, .int 0, .int 1, .int 0, .int 0, .int 0, .int 0, .int 0, .int 0]))]) ∨ (∃ (g1 : Nat → Int32), ¬ p0.toInt < 11 ∧ ¬ 15 < p0.toInt ∧ 14 ≤ p0.toInt ∧ v = none ∧ w1 = [(h1, .inl (dA 0, 24, .inl g1)), (h2, .inl (dA 0, 24, .inl (upd (fun _ => 0) 0 p0))), (h0, .inr (5, [.ref h2, .ref h1, .ref h3, .int 1, .int 0, .int 1, .int 1, .int p0, .int 0, .int 0, .int 0, .int 0]))]) ∨ (∃ (g1 : Nat → Int32), ¬ p0.toInt < 11 ∧ ¬ 15 < p0.toInt ∧ ¬ 14 ≤ p0.toInt ∧ v = none ∧ w1 = [(h1, .inl (dA 0, 24, .inl g1)), (h2, .inl (dA 0, 24, .inl (upd (fun _ => 0) 0 p0))), (h0, .inr (5, [.ref h2, .ref h1, .ref h3, .int 1, .int 0, .int 1, .int 1, .int p0, .int 0, .int 0, .int 0, .int 0]))])) 0 0 := by
  refine Ct_of (by decide) (Nat.le_of_ble_eq_true rfl) ?_
  intro p e s m below meth c hx hb hr hml hown hnm hlocks hgw hK A hG hA hP hD ls hl
  have hl : lv_has ls 2 [(0, .ref h0)] := hl
  have hS : va_S A s.heap s.heap [] := va_S.rf
  refine lv_aload_n hx hb dX1_read_0 rfl (lv_at hl 0 rfl) ?_
  refine lv_iconst (v := 0) hx hb dX1_read_1 (by decide) ?_
  refine va_put (D := D) (ci := 5) (v := .int 0) (ty := .int) (C := RX1) (T := TX1) (N := 12) hx hb hgw in_X1 tyX1 tyX1_ok nmX1 hown hK hP hD hS 2 rfl rfl 3 (by decide) (hgw _ m_2_1) (fun _ h9 => h9) rfl (by decide +kernel) rfl rfl (Nat.le_of_ble_eq_true rfl) dX1_read_2 (fun H locs hP hD hS => ?_)
  have hP : va_P D vwCl [(h1, .inl (dA 0, 24, .inl f0)), (h2, .inl (dA 0, 24, .inl (upd (fun _ => 0) 0 p0))), (h0, .inr (5, [.ref h2, .ref h1, .ref h3, .int 0, .int 0, .int 1, .int 0, .int 0, .int 0, .int 0, .int 0, .int 0]))] H := hP
  have hD : va_D A [(h1, .inl (dA 0, 24, .inl f0)), (h2, .inl (dA 0, 24, .inl (upd (fun _ => 0) 0 p0))), (h0, .inr (5, [.ref h2, .ref h1, .ref h3, .int 0, .int 0, .int 1, .int 0, .int 0, .int 0, .int 0, .int 0, .int 0]))] := hD
  refine lv_aload_n hx hb dX1_read_5 rfl (lv_at hl 0 rfl) ?_
  refine lv_iconst (v := 0) hx hb dX1_read_6 (by decide) ?_
  refine va_put (D := D) (ci := 5) (v := .int 0) (ty := .int) (C := RX1) (T := TX1) (N := 12) hx hb hgw in_X1 tyX1 tyX1_ok nmX1 hown hK hP hD hS 2 rfl rfl 4 (by decide) (hgw _ m_2_2) (fun _ h9 => h9) rfl (by decide +kernel) rfl rfl (Nat.le_of_ble_eq_true rfl) dX1_read_7 (fun H locs hP hD hS => ?_)
  have hP : va_P D vwCl [(h1, .inl (dA 0, 24, .inl f0)), (h2, .inl (dA 0, 24, .inl (upd (fun _ => 0) 0 p0))), (h0, .inr (5, [.ref h2, .ref h1, .ref h3, .int 0, .int 0, .int 1, .int 0, .int 0, .int 0, .int 0, .int 0, .int 0]))] H := hP
  have hD : va_D A [(h1, .inl (dA 0, 24, .inl f0)), (h2, .inl (dA 0, 24, .inl (upd (fun _ => 0) 0 p0))), (h0, .inr (5, [.ref h2, .ref h1, .ref h3, .int 0, .int 0, .int 1, .int 0, .int 0, .int 0, .int 0, .int 0, .int 0]))] := hD
  refine lv_aload_n hx hb dX1_read_10 rfl (lv_at hl 0 rfl) ?_
  refine lv_iconst (v := (-1)) hx hb dX1_read_11 (by decide) ?_
  refine va_put (D := D) (ci := 5) (v := .int (-1)) (ty := .int) (C := RX1) (T := TX1) (N := 12) hx hb hgw in_X1 tyX1 tyX1_ok nmX1 hown hK hP hD hS 2 rfl rfl 6 (by decide) (hgw _ m_2_8) (fun _ h9 => h9) rfl (by decide +kernel) rfl rfl (Nat.le_of_ble_eq_true rfl) dX1_read_12 (fun H locs hP hD hS => ?_)
  have hP : va_P D vwCl [(h1, .inl (dA 0, 24, .inl f0)), (h2, .inl (dA 0, 24, .inl (upd (fun _ => 0) 0 p0))), (h0, .inr (5, [.ref h2, .ref h1, .ref h3, .int 0, .int 0, .int 1, .int (-1), .int 0, .int 0, .int 0, .int 0, .int 0]))] H := hP
  have hD : va_D A [(h1, .inl (dA 0, 24, .inl f0)), (h2, .inl (dA 0, 24, .inl (upd (fun _ => 0) 0 p0))), (h0, .inr (5, [.ref h2, .ref h1, .ref h3, .int 0, .int 0, .int 1, .int (-1), .int 0, .int 0, .int 0, .int 0, .int 0]))] := hD
  refine lv_aload_n hx hb dX1_read_15 rfl (lv_at hl 0 rfl) ?_
  refine lv_iconst (v := 0) hx hb dX1_read_16 (by decide) ?_
  refine va_put (D := D) (ci := 5) (v := .int 0) (ty := .int) (C := RX1) (T := TX1) (N := 12) hx hb hgw in_X1 tyX1 tyX1_ok nmX1 hown hK hP hD hS 2 rfl rfl 7 (by decide) (hgw _ m_2_10) (fun _ h9 => h9) rfl (by decide +kernel) rfl rfl (Nat.le_of_ble_eq_true rfl) dX1_read_17 (fun H locs hP hD hS => ?_)
  have hP : va_P D vwCl [(h1, .inl (dA 0, 24, .inl f0)), (h2, .inl (dA 0, 24, .inl (upd (fun _ => 0) 0 p0))), (h0, .inr (5, [.ref h2, .ref h1, .ref h3, .int 0, .int 0, .int 1, .int (-1), .int 0, .int 0, .int 0, .int 0, .int 0]))] H := hP
  have hD : va_D A [(h1, .inl (dA 0, 24, .inl f0)), (h2, .inl (dA 0, 24, .inl (upd (fun _ => 0) 0 p0))), (h0, .inr (5, [.ref h2, .ref h1, .ref h3, .int 0, .int 0, .int 1, .int (-1), .int 0, .int 0, .int 0, .int 0, .int 0]))] := hD
  refine lv_aload_n hx hb dX1_read_20 rfl (lv_at hl 0 rfl) ?_
  refine lv_iconst (v := 0) hx hb dX1_read_21 (by decide) ?_
  refine va_put (D := D) (ci := 5) (v := .int 0) (ty := .int) (C := RX1) (T := TX1) (N := 12) hx hb hgw in_X1 tyX1 tyX1_ok nmX1 hown hK hP hD hS 2 rfl rfl 8 (by decide) (hgw _ m_2_13) (fun _ h9 => h9) rfl (by decide +kernel) rfl rfl (Nat.le_of_ble_eq_true rfl) dX1_read_22 (fun H locs hP hD hS => ?_)
  have hP : va_P D vwCl [(h1, .inl (dA 0, 24, .inl f0)), (h2, .inl (dA 0, 24, .inl (upd (fun _ => 0) 0 p0))), (h0, .inr (5, [.ref h2, .ref h1, .ref h3, .int 0, .int 0, .int 1, .int (-1), .int 0, .int 0, .int 0, .int 0, .int 0]))] H := hP
  have hD : va_D A [(h1, .inl (dA 0, 24, .inl f0)), (h2, .inl (dA 0, 24, .inl (upd (fun _ => 0) 0 p0))), (h0, .inr (5, [.ref h2, .ref h1, .ref h3, .int 0, .int 0, .int 1, .int (-1), .int 0, .int 0, .int 0, .int 0, .int 0]))] := hD
  refine lv_aload_n hx hb dX1_read_25 rfl (lv_at hl 0 rfl) ?_
  refine lv_iconst (v := 0) hx hb dX1_read_26 (by decide) ?_
  refine va_put (D := D) (ci := 5) (v := .int 0) (ty := .int) (C := RX1) (T := TX1) (N := 12) hx hb hgw in_X1 tyX1 tyX1_ok nmX1 hown hK hP hD hS 2 rfl rfl 9 (by decide) (hgw _ m_2_17) (fun _ h9 => h9) rfl (by decide +kernel) rfl rfl (Nat.le_of_ble_eq_true rfl) dX1_read_27 (fun H locs hP hD hS => ?_)
  have hP : va_P D vwCl [(h1, .inl (dA 0, 24, .inl f0)), (h2, .inl (dA 0, 24, .inl (upd (fun _ => 0) 0 p0))), (h0, .inr (5, [.ref h2, .ref h1, .ref h3, .int 0, .int 0, .int 1, .int (-1), .int 0, .int 0, .int 0, .int 0, .int 0]))] H := hP
  have hD : va_D A [(h1, .inl (dA 0, 24, .inl f0)), (h2, .inl (dA 0, 24, .inl (upd (fun _ => 0) 0 p0))), (h0, .inr (5, [.ref h2, .ref h1, .ref h3, .int 0, .int 0, .int 1, .int (-1), .int 0, .int 0, .int 0, .int 0, .int 0]))] := hD
  refine lv_aload_n hx hb dX1_read_30 rfl (lv_at hl 0 rfl) ?_
  refine lv_iconst (v := 0) hx hb dX1_read_31 (by decide) ?_
  refine va_put (D := D) (ci := 5) (v := .int 0) (ty := .int) (C := RX1) (T := TX1) (N := 12) hx hb hgw in_X1 tyX1 tyX1_ok nmX1 hown hK hP hD hS 2 rfl rfl 10 (by decide) (hgw _ m_2_22) (fun _ h9 => h9) rfl (by decide +kernel) rfl rfl (Nat.le_of_ble_eq_true rfl) dX1_read_32 (fun H locs hP hD hS => ?_)
  have hP : va_P D vwCl [(h1, .inl (dA 0, 24, .inl f0)), (h2, .inl (dA 0, 24, .inl (upd (fun _ => 0) 0 p0))), (h0, .inr (5, [.ref h2, .ref h1, .ref h3, .int 0, .int 0, .int 1, .int (-1), .int 0, .int 0, .int 0, .int 0, .int 0]))] H := hP
  have hD : va_D A [(h1, .inl (dA 0, 24, .inl f0)), (h2, .inl (dA 0, 24, .inl (upd (fun _ => 0) 0 p0))), (h0, .inr (5, [.ref h2, .ref h1, .ref h3, .int 0, .int 0, .int 1, .int (-1), .int 0, .int 0, .int 0, .int 0, .int 0]))] := hD
  refine lv_aload_n hx hb dX1_read_35 rfl (lv_at hl 0 rfl) ?_
  refine lv_iconst (v := 0) hx hb dX1_read_36 (by decide) ?_
  refine va_put (D := D) (ci := 5) (v := .int 0) (ty := .int) (C := RX1) (T := TX1) (N := 12) hx hb hgw in_X1 tyX1 tyX1_ok nmX1 hown hK hP hD hS 2 rfl rfl 11 (by decide) (hgw _ m_2_26) (fun _ h9 => h9) rfl (by decide +kernel) rfl rfl (Nat.le_of_ble_eq_true rfl) dX1_read_37 (fun H locs hP hD hS => ?_)
  have hP : va_P D vwCl [(h1, .inl (dA 0, 24, .inl f0)), (h2, .inl (dA 0, 24, .inl (upd (fun _ => 0) 0 p0))), (h0, .inr (5, [.ref h2, .ref h1, .ref h3, .int 0, .int 0, .int 1, .int (-1), .int 0, .int 0, .int 0, .int 0, .int 0]))] H := hP
  have hD : va_D A [(h1, .inl (dA 0, 24, .inl f0)), (h2, .inl (dA 0, 24, .inl (upd (fun _ => 0) 0 p0))), (h0, .inr (5, [.ref h2, .ref h1, .ref h3, .int 0, .int 0, .int 1, .int (-1), .int 0, .int 0, .int 0, .int 0, .int 0]))] := hD
  refine lv_aload_n hx hb dX1_read_40 rfl (lv_at hl 0 rfl) ?_
  refine va_get (D := D) (ci := 5) (v := .ref h1) (C := RX1) (T := TX1) (N := 12) hx hb hgw in_X1 hown hK hP 2 rfl rfl 1 (by decide) (hgw _ m_1_239) (fun _ h9 => h9) rfl dX1_read_41 ?_
  refine lv_iconst (v := 0) hx hb dX1_read_44 (by decide) ?_
  refine kq_S (As := [.ref h1, .int 0]) (rest := []) (wr := [(h2, .inl (dA 0, 24, .inl (upd (fun _ => 0) 0 p0))), (h0, .inr (5, [.ref h2, .ref h1, .ref h3, .int 0, .int 0, .int 1, .int (-1), .int 0, .int 0, .int 0, .int 0, .int 0]))]) hx hb hml hown hgw hK hG hA hP hD hS (c_J7_fill_53178_1 l hfl D dA tE tC h1 f0) m_3_116 m_3_117 m_1_14 m_3_118 hd_J7_fill_53178 rfl rfl ⟨(Nat.le_of_ble_eq_true rfl), (Nat.le_of_ble_eq_true rfl)⟩ [0] [1, 2] rfl rfl rfl rfl (by decide) hl.1 rfl (Nat.le_of_ble_eq_true rfl) dX1_read_45 ⟨(Nat.le_of_ble_eq_true rfl), (Nat.le_of_ble_eq_true rfl)⟩ (fun v w1 H locs hQ hP hD hS => ?_)
  obtain ⟨g1, rfl, rfl⟩ := hQ
  refine W.eq (g2 := F0 m 48 ls []) rfl ?_
  have hP : va_P D vwCl [(h2, .inl (dA 0, 24, .inl (upd (fun _ => 0) 0 p0))), (h0, .inr (5, [.ref h2, .ref h1, .ref h3, .int 0, .int 0, .int 1, .int (-1), .int 0, .int 0, .int 0, .int 0, .int 0])), (h1, .inl (dA 0, 24, .inl g1))] H := hP
  have hD : va_D A [(h2, .inl (dA 0, 24, .inl (upd (fun _ => 0) 0 p0))), (h0, .inr (5, [.ref h2, .ref h1, .ref h3, .int 0, .int 0, .int 1, .int (-1), .int 0, .int 0, .int 0, .int 0, .int 0])), (h1, .inl (dA 0, 24, .inl g1))] := hD
  refine lv_aload_n hx hb dX1_read_48 rfl (lv_at hl 0 rfl) ?_
  refine kq_V (q0 := 1) (As := []) (rest := []) (wr := []) hx hb hml hown hgw hK hG hA hP hD hS (c_X1_readField_1 l hfl D dA tE tC h0 h2 p0 h1 h3 g1) m_3_119 m_3_121 m_s_1 m_1_6 m_3_122 hd_X1_readField rfl rfl ⟨(Nat.le_of_ble_eq_true rfl), (Nat.le_of_ble_eq_true rfl)⟩ [0, 1, 2] [] rfl rfl rfl rfl (by decide) rfl rfl rfl hl.1 rfl (Nat.le_of_ble_eq_true rfl) dX1_read_49 ⟨(Nat.le_of_ble_eq_true rfl), (Nat.le_of_ble_eq_true rfl)⟩ (fun v w1 H locs hQ hP hD hS => ?_)
  rcases hQ with ⟨c_2, c_3, rfl, rfl⟩ | ⟨c_4, c_5, c_6, c_7, c_8, c_9, c_10, c_11, rfl, rfl⟩ | ⟨c_12, c_13, c_14, rfl, rfl⟩ | ⟨c_15, c_16, c_17, c_18, c_19, rfl, rfl⟩ | ⟨c_20, c_21, c_22, c_23, c_24, c_25, rfl, rfl⟩ | ⟨c_26, c_27, c_28, c_29, c_30, c_31, c_32, rfl, rfl⟩ | ⟨c_33, c_34, c_35, c_36, c_37, c_38, c_39, c_40, rfl, rfl⟩ | ⟨c_41, c_42, c_43, c_44, c_45, c_46, c_47, c_48, c_49, rfl, rfl⟩ | ⟨c_50, c_51, c_52, c_53, c_54, c_55, c_56, c_57, c_58, rfl, rfl⟩ | ⟨c_59, c_60, c_61, rfl, rfl⟩ | ⟨c_62, c_63, c_64, rfl, rfl⟩
  · skip
    refine W.eq (g2 := F0 m 52 ls [.int 0]) rfl ?_
    have hP : va_P D vwCl [(h1, .inl (dA 0, 24, .inl g1)), (h2, .inl (dA 0, 24, .inl (upd (fun _ => 0) 0 p0))), (h0, .inr (5, [.ref h2, .ref h1, .ref h3, .int 0, .int 0, .int 1, .int (-1), .int 0, .int 0, .int 0, .int 0, .int 0]))] H := hP
    have hD : va_D A [(h1, .inl (dA 0, 24, .inl g1)), (h2, .inl (dA 0, 24, .inl (upd (fun _ => 0) 0 p0))), (h0, .inr (5, [.ref h2, .ref h1, .ref h3, .int 0, .int 0, .int 1, .int (-1), .int 0, .int 0, .int 0, .int 0, .int 0]))] := hD
    refine lv_if_ne (tgt := 64) hx hb dX1_read_52 (by decide) (fun h => absurd (by decide +kernel) h) (fun _ => ?_)
    refine lv_aload_n hx hb dX1_read_55 rfl (lv_at hl 0 rfl) ?_
    refine lv_aload_n hx hb dX1_read_56 rfl (lv_at hl 0 rfl) ?_
    refine va_get (D := D) (ci := 5) (v := .int 0) (C := RX1) (T := TX1) (N := 12) hx hb hgw in_X1 hown hK hP 2 rfl rfl 3 (by decide) (hgw _ m_2_1) (fun _ h9 => h9) rfl dX1_read_57 ?_
    refine va_put (D := D) (ci := 5) (v := .int 0) (ty := .int) (C := RX1) (T := TX1) (N := 12) hx hb hgw in_X1 tyX1 tyX1_ok nmX1 hown hK hP hD hS 2 rfl rfl 6 (by decide) (hgw _ m_2_8) (fun _ h9 => h9) rfl (by decide +kernel) rfl rfl (Nat.le_of_ble_eq_true rfl) dX1_read_60 (fun H locs hP hD hS => ?_)
    have hP : va_P D vwCl [(h1, .inl (dA 0, 24, .inl g1)), (h2, .inl (dA 0, 24, .inl (upd (fun _ => 0) 0 p0))), (h0, .inr (5, [.ref h2, .ref h1, .ref h3, .int 0, .int 0, .int 1, .int 0, .int 0, .int 0, .int 0, .int 0, .int 0]))] H := hP
    have hD : va_D A [(h1, .inl (dA 0, 24, .inl g1)), (h2, .inl (dA 0, 24, .inl (upd (fun _ => 0) 0 p0))), (h0, .inr (5, [.ref h2, .ref h1, .ref h3, .int 0, .int 0, .int 1, .int 0, .int 0, .int 0, .int 0, .int 0, .int 0]))] := hD
    have hP9 := hP.sub (ws' := [(h1, .inl (dA 0, 24, .inl g1)), (h2, .inl (dA 0, 24, .inl (upd (fun _ => 0) 0 p0))), (h0, .inr (5, [.ref h2, .ref h1, .ref h3, .int 0, .int 0, .int 1, .int 0, .int 0, .int 0, .int 0, .int 0, .int 0]))]) [0, 1, 2] rfl
    have hD9 := hD.sub (ws' := [(h1, .inl (dA 0, 24, .inl g1)), (h2, .inl (dA 0, 24, .inl (upd (fun _ => 0) 0 p0))), (h0, .inr (5, [.ref h2, .ref h1, .ref h3, .int 0, .int 0, .int 1, .int 0, .int 0, .int 0, .int 0, .int 0, .int 0]))]) [0, 1, 2] (by decide) rfl
    exact (kq_vret hx hb hr hlocks hS (Or.inl ⟨g1, c_2, c_3, rfl, rfl⟩) hP9 hD9 (Nat.le_of_ble_eq_true rfl) (Nat.le_of_ble_eq_true rfl) dX1_read_63)
  · skip
    refine W.eq (g2 := F0 m 52 ls [.int 0]) rfl ?_
    have hP : va_P D vwCl [(h1, .inl (dA 0, 24, .inl g1)), (h2, .inl (dA 0, 24, .inl (upd (fun _ => 0) 0 p0))), (h0, .inr (5, [.ref h2, .ref h1, .ref h3, .int 0, .int 0, .int 1, .int (-1), .int 0, .int 0, .int 0, .int 0, .int 0]))] H := hP
    have hD : va_D A [(h1, .inl (dA 0, 24, .inl g1)), (h2, .inl (dA 0, 24, .inl (upd (fun _ => 0) 0 p0))), (h0, .inr (5, [.ref h2, .ref h1, .ref h3, .int 0, .int 0, .int 1, .int (-1), .int 0, .int 0, .int 0, .int 0, .int 0]))] := hD
    refine lv_if_ne (tgt := 64) hx hb dX1_read_52 (by decide) (fun h => absurd (by decide +kernel) h) (fun _ => ?_)
    refine lv_aload_n hx hb dX1_read_55 rfl (lv_at hl 0 rfl) ?_
    refine lv_aload_n hx hb dX1_read_56 rfl (lv_at hl 0 rfl) ?_
    refine va_get (D := D) (ci := 5) (v := .int 0) (C := RX1) (T := TX1) (N := 12) hx hb hgw in_X1 hown hK hP 2 rfl rfl 3 (by decide) (hgw _ m_2_1) (fun _ h9 => h9) rfl dX1_read_57 ?_
    refine va_put (D := D) (ci := 5) (v := .int 0) (ty := .int) (C := RX1) (T := TX1) (N := 12) hx hb hgw in_X1 tyX1 tyX1_ok nmX1 hown hK hP hD hS 2 rfl rfl 6 (by decide) (hgw _ m_2_8) (fun _ h9 => h9) rfl (by decide +kernel) rfl rfl (Nat.le_of_ble_eq_true rfl) dX1_read_60 (fun H locs hP hD hS => ?_)
    have hP : va_P D vwCl [(h1, .inl (dA 0, 24, .inl g1)), (h2, .inl (dA 0, 24, .inl (upd (fun _ => 0) 0 p0))), (h0, .inr (5, [.ref h2, .ref h1, .ref h3, .int 0, .int 0, .int 1, .int 0, .int 0, .int 0, .int 0, .int 0, .int 0]))] H := hP
    have hD : va_D A [(h1, .inl (dA 0, 24, .inl g1)), (h2, .inl (dA 0, 24, .inl (upd (fun _ => 0) 0 p0))), (h0, .inr (5, [.ref h2, .ref h1, .ref h3, .int 0, .int 0, .int 1, .int 0, .int 0, .int 0, .int 0, .int 0, .int 0]))] := hD
    have hP9 := hP.sub (ws' := [(h1, .inl (dA 0, 24, .inl g1)), (h2, .inl (dA 0, 24, .inl (upd (fun _ => 0) 0 p0))), (h0, .inr (5, [.ref h2, .ref h1, .ref h3, .int 0, .int 0, .int 1, .int 0, .int 0, .int 0, .int 0, .int 0, .int 0]))]) [0, 1, 2] rfl
    have hD9 := hD.sub (ws' := [(h1, .inl (dA 0, 24, .inl g1)), (h2, .inl (dA 0, 24, .inl (upd (fun _ => 0) 0 p0))), (h0, .inr (5, [.ref h2, .ref h1, .ref h3, .int 0, .int 0, .int 1, .int 0, .int 0, .int 0, .int 0, .int 0, .int 0]))]) [0, 1, 2] (by decide) rfl
    exact (kq_vret hx hb hr hlocks hS (Or.inr (Or.inl ⟨g1, c_4, c_5, c_6, c_7, c_8, c_9, c_10, c_11, rfl, rfl⟩)) hP9 hD9 (Nat.le_of_ble_eq_true rfl) (Nat.le_of_ble_eq_true rfl) dX1_read_63)
  · skip
    refine W.eq (g2 := F0 m 52 ls [.int 1]) rfl ?_
    have hP : va_P D vwCl [(h1, .inl (dA 0, 24, .inl (upd g1 0 p0))), (h2, .inl (dA 0, 24, .inl (upd (fun _ => 0) 0 p0))), (h0, .inr (5, [.ref h2, .ref h1, .ref h3, .int 1, .int p0, .int 1, .int (-1), .int 0, .int 0, .int p0, .int 0, .int 0]))] H := hP
    have hD : va_D A [(h1, .inl (dA 0, 24, .inl (upd g1 0 p0))), (h2, .inl (dA 0, 24, .inl (upd (fun _ => 0) 0 p0))), (h0, .inr (5, [.ref h2, .ref h1, .ref h3, .int 1, .int p0, .int 1, .int (-1), .int 0, .int 0, .int p0, .int 0, .int 0]))] := hD
    refine lv_if_ne (tgt := 64) hx hb dX1_read_52 (by decide) (fun _ => ?_) (fun h => absurd h (by decide +kernel))
    refine lv_aload_n hx hb dX1_read_64 rfl (lv_at hl 0 rfl) ?_
    refine va_get (D := D) (ci := 5) (v := .int 0) (C := RX1) (T := TX1) (N := 12) hx hb hgw in_X1 hown hK hP 2 rfl rfl 11 (by decide) (hgw _ m_2_26) (fun _ h9 => h9) rfl dX1_read_65 ?_
    refine lv_iconst (v := 4) hx hb dX1_read_68 (by decide) ?_
    refine lv_icmp_ge (tgt := 129) hx hb dX1_read_69 (by decide) (fun h => absurd h (by decide +kernel)) (fun _ => ?_)
    refine lv_aload_n hx hb dX1_read_72 rfl (lv_at hl 0 rfl) ?_
    refine va_get (D := D) (ci := 5) (v := .int 1) (C := RX1) (T := TX1) (N := 12) hx hb hgw in_X1 hown hK hP 2 rfl rfl 3 (by decide) (hgw _ m_2_1) (fun _ h9 => h9) rfl dX1_read_73 ?_
    refine lv_aload_n hx hb dX1_read_76 rfl (lv_at hl 0 rfl) ?_
    refine va_get (D := D) (ci := 5) (v := .int 1) (C := RX1) (T := TX1) (N := 12) hx hb hgw in_X1 hown hK hP 2 rfl rfl 5 (by decide) (hgw _ m_2_5) (fun _ h9 => h9) rfl dX1_read_77 ?_
    refine lv_icmp_ge (tgt := 129) hx hb dX1_read_80 (by decide) (fun _ => ?_) (fun h => absurd (by decide +kernel) h)
    refine lv_aload_n hx hb dX1_read_129 rfl (lv_at hl 0 rfl) ?_
    refine va_get (D := D) (ci := 5) (v := .int 1) (C := RX1) (T := TX1) (N := 12) hx hb hgw in_X1 hown hK hP 2 rfl rfl 3 (by decide) (hgw _ m_2_1) (fun _ h9 => h9) rfl dX1_read_130 ?_
    refine lv_aload_n hx hb dX1_read_133 rfl (lv_at hl 0 rfl) ?_
    refine va_get (D := D) (ci := 5) (v := .int 1) (C := RX1) (T := TX1) (N := 12) hx hb hgw in_X1 hown hK hP 2 rfl rfl 5 (by decide) (hgw _ m_2_5) (fun _ h9 => h9) rfl dX1_read_134 ?_
    refine lv_icmp_ge (tgt := 148) hx hb dX1_read_137 (by decide) (fun _ => ?_) (fun h => absurd (by decide +kernel) h)
    have hP9 := hP.sub (ws' := [(h1, .inl (dA 0, 24, .inl (upd g1 0 p0))), (h2, .inl (dA 0, 24, .inl (upd (fun _ => 0) 0 p0))), (h0, .inr (5, [.ref h2, .ref h1, .ref h3, .int 1, .int p0, .int 1, .int (-1), .int 0, .int 0, .int p0, .int 0, .int 0]))]) [0, 1, 2] rfl
    have hD9 := hD.sub (ws' := [(h1, .inl (dA 0, 24, .inl (upd g1 0 p0))), (h2, .inl (dA 0, 24, .inl (upd (fun _ => 0) 0 p0))), (h0, .inr (5, [.ref h2, .ref h1, .ref h3, .int 1, .int p0, .int 1, .int (-1), .int 0, .int 0, .int p0, .int 0, .int 0]))]) [0, 1, 2] (by decide) rfl
    exact (kq_vret hx hb hr hlocks hS (Or.inr (Or.inr (Or.inl ⟨g1, c_12, c_13, c_14, rfl, rfl⟩))) hP9 hD9 (Nat.le_of_ble_eq_true rfl) (Nat.le_of_ble_eq_true rfl) dX1_read_148)
  · skip
    refine W.eq (g2 := F0 m 52 ls [.int 0]) rfl ?_
    have hP : va_P D vwCl [(h1, .inl (dA 0, 24, .inl g1)), (h2, .inl (dA 0, 24, .inl (upd (fun _ => 0) 0 p0))), (h0, .inr (5, [.ref h2, .ref h1, .ref h3, .int 0, .int 0, .int 1, .int (-1), .int 0, .int 0, .int 0, .int 0, .int 0]))] H := hP
    have hD : va_D A [(h1, .inl (dA 0, 24, .inl g1)), (h2, .inl (dA 0, 24, .inl (upd (fun _ => 0) 0 p0))), (h0, .inr (5, [.ref h2, .ref h1, .ref h3, .int 0, .int 0, .int 1, .int (-1), .int 0, .int 0, .int 0, .int 0, .int 0]))] := hD
    refine lv_if_ne (tgt := 64) hx hb dX1_read_52 (by decide) (fun h => absurd (by decide +kernel) h) (fun _ => ?_)
    refine lv_aload_n hx hb dX1_read_55 rfl (lv_at hl 0 rfl) ?_
    refine lv_aload_n hx hb dX1_read_56 rfl (lv_at hl 0 rfl) ?_
    refine va_get (D := D) (ci := 5) (v := .int 0) (C := RX1) (T := TX1) (N := 12) hx hb hgw in_X1 hown hK hP 2 rfl rfl 3 (by decide) (hgw _ m_2_1) (fun _ h9 => h9) rfl dX1_read_57 ?_
    refine va_put (D := D) (ci := 5) (v := .int 0) (ty := .int) (C := RX1) (T := TX1) (N := 12) hx hb hgw in_X1 tyX1 tyX1_ok nmX1 hown hK hP hD hS 2 rfl rfl 6 (by decide) (hgw _ m_2_8) (fun _ h9 => h9) rfl (by decide +kernel) rfl rfl (Nat.le_of_ble_eq_true rfl) dX1_read_60 (fun H locs hP hD hS => ?_)
    have hP : va_P D vwCl [(h1, .inl (dA 0, 24, .inl g1)), (h2, .inl (dA 0, 24, .inl (upd (fun _ => 0) 0 p0))), (h0, .inr (5, [.ref h2, .ref h1, .ref h3, .int 0, .int 0, .int 1, .int 0, .int 0, .int 0, .int 0, .int 0, .int 0]))] H := hP
    have hD : va_D A [(h1, .inl (dA 0, 24, .inl g1)), (h2, .inl (dA 0, 24, .inl (upd (fun _ => 0) 0 p0))), (h0, .inr (5, [.ref h2, .ref h1, .ref h3, .int 0, .int 0, .int 1, .int 0, .int 0, .int 0, .int 0, .int 0, .int 0]))] := hD
    have hP9 := hP.sub (ws' := [(h1, .inl (dA 0, 24, .inl g1)), (h2, .inl (dA 0, 24, .inl (upd (fun _ => 0) 0 p0))), (h0, .inr (5, [.ref h2, .ref h1, .ref h3, .int 0, .int 0, .int 1, .int 0, .int 0, .int 0, .int 0, .int 0, .int 0]))]) [0, 1, 2] rfl
    have hD9 := hD.sub (ws' := [(h1, .inl (dA 0, 24, .inl g1)), (h2, .inl (dA 0, 24, .inl (upd (fun _ => 0) 0 p0))), (h0, .inr (5, [.ref h2, .ref h1, .ref h3, .int 0, .int 0, .int 1, .int 0, .int 0, .int 0, .int 0, .int 0, .int 0]))]) [0, 1, 2] (by decide) rfl
    exact (kq_vret hx hb hr hlocks hS (Or.inr (Or.inr (Or.inr (Or.inl ⟨g1, c_15, c_16, c_17, c_18, c_19, rfl, rfl⟩)))) hP9 hD9 (Nat.le_of_ble_eq_true rfl) (Nat.le_of_ble_eq_true rfl) dX1_read_63)
  · skip
    refine W.eq (g2 := F0 m 52 ls [.int 0]) rfl ?_
    have hP : va_P D vwCl [(h1, .inl (dA 0, 24, .inl g1)), (h2, .inl (dA 0, 24, .inl (upd (fun _ => 0) 0 p0))), (h0, .inr (5, [.ref h2, .ref h1, .ref h3, .int 0, .int 0, .int 1, .int (-1), .int 0, .int 0, .int 0, .int 0, .int 0]))] H := hP
    have hD : va_D A [(h1, .inl (dA 0, 24, .inl g1)), (h2, .inl (dA 0, 24, .inl (upd (fun _ => 0) 0 p0))), (h0, .inr (5, [.ref h2, .ref h1, .ref h3, .int 0, .int 0, .int 1, .int (-1), .int 0, .int 0, .int 0, .int 0, .int 0]))] := hD
    refine lv_if_ne (tgt := 64) hx hb dX1_read_52 (by decide) (fun h => absurd (by decide +kernel) h) (fun _ => ?_)
    refine lv_aload_n hx hb dX1_read_55 rfl (lv_at hl 0 rfl) ?_
    refine lv_aload_n hx hb dX1_read_56 rfl (lv_at hl 0 rfl) ?_
    refine va_get (D := D) (ci := 5) (v := .int 0) (C := RX1) (T := TX1) (N := 12) hx hb hgw in_X1 hown hK hP 2 rfl rfl 3 (by decide) (hgw _ m_2_1) (fun _ h9 => h9) rfl dX1_read_57 ?_
    refine va_put (D := D) (ci := 5) (v := .int 0) (ty := .int) (C := RX1) (T := TX1) (N := 12) hx hb hgw in_X1 tyX1 tyX1_ok nmX1 hown hK hP hD hS 2 rfl rfl 6 (by decide) (hgw _ m_2_8) (fun _ h9 => h9) rfl (by decide +kernel) rfl rfl (Nat.le_of_ble_eq_true rfl) dX1_read_60 (fun H locs hP hD hS => ?_)
    have hP : va_P D vwCl [(h1, .inl (dA 0, 24, .inl g1)), (h2, .inl (dA 0, 24, .inl (upd (fun _ => 0) 0 p0))), (h0, .inr (5, [.ref h2, .ref h1, .ref h3, .int 0, .int 0, .int 1, .int 0, .int 0, .int 0, .int 0, .int 0, .int 0]))] H := hP
    have hD : va_D A [(h1, .inl (dA 0, 24, .inl g1)), (h2, .inl (dA 0, 24, .inl (upd (fun _ => 0) 0 p0))), (h0, .inr (5, [.ref h2, .ref h1, .ref h3, .int 0, .int 0, .int 1, .int 0, .int 0, .int 0, .int 0, .int 0, .int 0]))] := hD
    have hP9 := hP.sub (ws' := [(h1, .inl (dA 0, 24, .inl g1)), (h2, .inl (dA 0, 24, .inl (upd (fun _ => 0) 0 p0))), (h0, .inr (5, [.ref h2, .ref h1, .ref h3, .int 0, .int 0, .int 1, .int 0, .int 0, .int 0, .int 0, .int 0, .int 0]))]) [0, 1, 2] rfl
    have hD9 := hD.sub (ws' := [(h1, .inl (dA 0, 24, .inl g1)), (h2, .inl (dA 0, 24, .inl (upd (fun _ => 0) 0 p0))), (h0, .inr (5, [.ref h2, .ref h1, .ref h3, .int 0, .int 0, .int 1, .int 0, .int 0, .int 0, .int 0, .int 0, .int 0]))]) [0, 1, 2] (by decide) rfl
    exact (kq_vret hx hb hr hlocks hS (Or.inr (Or.inr (Or.inr (Or.inr (Or.inl ⟨g1, c_20, c_21, c_22, c_23, c_24, c_25, rfl, rfl⟩))))) hP9 hD9 (Nat.le_of_ble_eq_true rfl) (Nat.le_of_ble_eq_true rfl) dX1_read_63)
  · skip
    refine W.eq (g2 := F0 m 52 ls [.int 0]) rfl ?_
    have hP : va_P D vwCl [(h1, .inl (dA 0, 24, .inl g1)), (h2, .inl (dA 0, 24, .inl (upd (fun _ => 0) 0 p0))), (h0, .inr (5, [.ref h2, .ref h1, .ref h3, .int 0, .int 0, .int 1, .int (-1), .int 0, .int 0, .int 0, .int 0, .int 0]))] H := hP
    have hD : va_D A [(h1, .inl (dA 0, 24, .inl g1)), (h2, .inl (dA 0, 24, .inl (upd (fun _ => 0) 0 p0))), (h0, .inr (5, [.ref h2, .ref h1, .ref h3, .int 0, .int 0, .int 1, .int (-1), .int 0, .int 0, .int 0, .int 0, .int 0]))] := hD
    refine lv_if_ne (tgt := 64) hx hb dX1_read_52 (by decide) (fun h => absurd (by decide +kernel) h) (fun _ => ?_)
    refine lv_aload_n hx hb dX1_read_55 rfl (lv_at hl 0 rfl) ?_
    refine lv_aload_n hx hb dX1_read_56 rfl (lv_at hl 0 rfl) ?_
    refine va_get (D := D) (ci := 5) (v := .int 0) (C := RX1) (T := TX1) (N := 12) hx hb hgw in_X1 hown hK hP 2 rfl rfl 3 (by decide) (hgw _ m_2_1) (fun _ h9 => h9) rfl dX1_read_57 ?_
    refine va_put (D := D) (ci := 5) (v := .int 0) (ty := .int) (C := RX1) (T := TX1) (N := 12) hx hb hgw in_X1 tyX1 tyX1_ok nmX1 hown hK hP hD hS 2 rfl rfl 6 (by decide) (hgw _ m_2_8) (fun _ h9 => h9) rfl (by decide +kernel) rfl rfl (Nat.le_of_ble_eq_true rfl) dX1_read_60 (fun H locs hP hD hS => ?_)
    have hP : va_P D vwCl [(h1, .inl (dA 0, 24, .inl g1)), (h2, .inl (dA 0, 24, .inl (upd (fun _ => 0) 0 p0))), (h0, .inr (5, [.ref h2, .ref h1, .ref h3, .int 0, .int 0, .int 1, .int 0, .int 0, .int 0, .int 0, .int 0, .int 0]))] H := hP
    have hD : va_D A [(h1, .inl (dA 0, 24, .inl g1)), (h2, .inl (dA 0, 24, .inl (upd (fun _ => 0) 0 p0))), (h0, .inr (5, [.ref h2, .ref h1, .ref h3, .int 0, .int 0, .int 1, .int 0, .int 0, .int 0, .int 0, .int 0, .int 0]))] := hD
    have hP9 := hP.sub (ws' := [(h1, .inl (dA 0, 24, .inl g1)), (h2, .inl (dA 0, 24, .inl (upd (fun _ => 0) 0 p0))), (h0, .inr (5, [.ref h2, .ref h1, .ref h3, .int 0, .int 0, .int 1, .int 0, .int 0, .int 0, .int 0, .int 0, .int 0]))]) [0, 1, 2] rfl
    have hD9 := hD.sub (ws' := [(h1, .inl (dA 0, 24, .inl g1)), (h2, .inl (dA 0, 24, .inl (upd (fun _ => 0) 0 p0))), (h0, .inr (5, [.ref h2, .ref h1, .ref h3, .int 0, .int 0, .int 1, .int 0, .int 0, .int 0, .int 0, .int 0, .int 0]))]) [0, 1, 2] (by decide) rfl
    exact (kq_vret hx hb hr hlocks hS (Or.inr (Or.inr (Or.inr (Or.inr (Or.inr (Or.inl ⟨g1, c_26, c_27, c_28, c_29, c_30, c_31, c_32, rfl, rfl⟩)))))) hP9 hD9 (Nat.le_of_ble_eq_true rfl) (Nat.le_of_ble_eq_true rfl) dX1_read_63)
  · skip
    refine W.eq (g2 := F0 m 52 ls [.int 0]) rfl ?_
    have hP : va_P D vwCl [(h1, .inl (dA 0, 24, .inl g1)), (h2, .inl (dA 0, 24, .inl (upd (fun _ => 0) 0 p0))), (h0, .inr (5, [.ref h2, .ref h1, .ref h3, .int 0, .int 0, .int 1, .int (-1), .int 0, .int 0, .int 0, .int 0, .int 0]))] H := hP
    have hD : va_D A [(h1, .inl (dA 0, 24, .inl g1)), (h2, .inl (dA 0, 24, .inl (upd (fun _ => 0) 0 p0))), (h0, .inr (5, [.ref h2, .ref h1, .ref h3, .int 0, .int 0, .int 1, .int (-1), .int 0, .int 0, .int 0, .int 0, .int 0]))] := hD
    refine lv_if_ne (tgt := 64) hx hb dX1_read_52 (by decide) (fun h => absurd (by decide +kernel) h) (fun _ => ?_)
    refine lv_aload_n hx hb dX1_read_55 rfl (lv_at hl 0 rfl) ?_
    refine lv_aload_n hx hb dX1_read_56 rfl (lv_at hl 0 rfl) ?_
    refine va_get (D := D) (ci := 5) (v := .int 0) (C := RX1) (T := TX1) (N := 12) hx hb hgw in_X1 hown hK hP 2 rfl rfl 3 (by decide) (hgw _ m_2_1) (fun _ h9 => h9) rfl dX1_read_57 ?_
    refine va_put (D := D) (ci := 5) (v := .int 0) (ty := .int) (C := RX1) (T := TX1) (N := 12) hx hb hgw in_X1 tyX1 tyX1_ok nmX1 hown hK hP hD hS 2 rfl rfl 6 (by decide) (hgw _ m_2_8) (fun _ h9 => h9) rfl (by decide +kernel) rfl rfl (Nat.le_of_ble_eq_true rfl) dX1_read_60 (fun H locs hP hD hS => ?_)
    have hP : va_P D vwCl [(h1, .inl (dA 0, 24, .inl g1)), (h2, .inl (dA 0, 24, .inl (upd (fun _ => 0) 0 p0))), (h0, .inr (5, [.ref h2, .ref h1, .ref h3, .int 0, .int 0, .int 1, .int 0, .int 0, .int 0, .int 0, .int 0, .int 0]))] H := hP
    have hD : va_D A [(h1, .inl (dA 0, 24, .inl g1)), (h2, .inl (dA 0, 24, .inl (upd (fun _ => 0) 0 p0))), (h0, .inr (5, [.ref h2, .ref h1, .ref h3, .int 0, .int 0, .int 1, .int 0, .int 0, .int 0, .int 0, .int 0, .int 0]))] := hD
    have hP9 := hP.sub (ws' := [(h1, .inl (dA 0, 24, .inl g1)), (h2, .inl (dA 0, 24, .inl (upd (fun _ => 0) 0 p0))), (h0, .inr (5, [.ref h2, .ref h1, .ref h3, .int 0, .int 0, .int 1, .int 0, .int 0, .int 0, .int 0, .int 0, .int 0]))]) [0, 1, 2] rfl
    have hD9 := hD.sub (ws' := [(h1, .inl (dA 0, 24, .inl g1)), (h2, .inl (dA 0, 24, .inl (upd (fun _ => 0) 0 p0))), (h0, .inr (5, [.ref h2, .ref h1, .ref h3, .int 0, .int 0, .int 1, .int 0, .int 0, .int 0, .int 0, .int 0, .int 0]))]) [0, 1, 2] (by decide) rfl
    exact (kq_vret hx hb hr hlocks hS (Or.inr (Or.inr (Or.inr (Or.inr (Or.inr (Or.inr (Or.inl ⟨g1, c_33, c_34, c_35, c_36, c_37, c_38, c_39, c_40, rfl, rfl⟩))))))) hP9 hD9 (Nat.le_of_ble_eq_true rfl) (Nat.le_of_ble_eq_true rfl) dX1_read_63)
  · skip
    refine W.eq (g2 := F0 m 52 ls [.int 0]) rfl ?_
    have hP : va_P D vwCl [(h1, .inl (dA 0, 24, .inl g1)), (h2, .inl (dA 0, 24, .inl (upd (fun _ => 0) 0 p0))), (h0, .inr (5, [.ref h2, .ref h1, .ref h3, .int 0, .int 0, .int 1, .int (-1), .int 0, .int 0, .int 0, .int 0, .int 0]))] H := hP
    have hD : va_D A [(h1, .inl (dA 0, 24, .inl g1)), (h2, .inl (dA 0, 24, .inl (upd (fun _ => 0) 0 p0))), (h0, .inr (5, [.ref h2, .ref h1, .ref h3, .int 0, .int 0, .int 1, .int (-1), .int 0, .int 0, .int 0, .int 0, .int 0]))] := hD
    refine lv_if_ne (tgt := 64) hx hb dX1_read_52 (by decide) (fun h => absurd (by decide +kernel) h) (fun _ => ?_)
    refine lv_aload_n hx hb dX1_read_55 rfl (lv_at hl 0 rfl) ?_
    refine lv_aload_n hx hb dX1_read_56 rfl (lv_at hl 0 rfl) ?_
    refine va_get (D := D) (ci := 5) (v := .int 0) (C := RX1) (T := TX1) (N := 12) hx hb hgw in_X1 hown hK hP 2 rfl rfl 3 (by decide) (hgw _ m_2_1) (fun _ h9 => h9) rfl dX1_read_57 ?_
    refine va_put (D := D) (ci := 5) (v := .int 0) (ty := .int) (C := RX1) (T := TX1) (N := 12) hx hb hgw in_X1 tyX1 tyX1_ok nmX1 hown hK hP hD hS 2 rfl rfl 6 (by decide) (hgw _ m_2_8) (fun _ h9 => h9) rfl (by decide +kernel) rfl rfl (Nat.le_of_ble_eq_true rfl) dX1_read_60 (fun H locs hP hD hS => ?_)
    have hP : va_P D vwCl [(h1, .inl (dA 0, 24, .inl g1)), (h2, .inl (dA 0, 24, .inl (upd (fun _ => 0) 0 p0))), (h0, .inr (5, [.ref h2, .ref h1, .ref h3, .int 0, .int 0, .int 1, .int 0, .int 0, .int 0, .int 0, .int 0, .int 0]))] H := hP
    have hD : va_D A [(h1, .inl (dA 0, 24, .inl g1)), (h2, .inl (dA 0, 24, .inl (upd (fun _ => 0) 0 p0))), (h0, .inr (5, [.ref h2, .ref h1, .ref h3, .int 0, .int 0, .int 1, .int 0, .int 0, .int 0, .int 0, .int 0, .int 0]))] := hD
    have hP9 := hP.sub (ws' := [(h1, .inl (dA 0, 24, .inl g1)), (h2, .inl (dA 0, 24, .inl (upd (fun _ => 0) 0 p0))), (h0, .inr (5, [.ref h2, .ref h1, .ref h3, .int 0, .int 0, .int 1, .int 0, .int 0, .int 0, .int 0, .int 0, .int 0]))]) [0, 1, 2] rfl
    have hD9 := hD.sub (ws' := [(h1, .inl (dA 0, 24, .inl g1)), (h2, .inl (dA 0, 24, .inl (upd (fun _ => 0) 0 p0))), (h0, .inr (5, [.ref h2, .ref h1, .ref h3, .int 0, .int 0, .int 1, .int 0, .int 0, .int 0, .int 0, .int 0, .int 0]))]) [0, 1, 2] (by decide) rfl
    exact (kq_vret hx hb hr hlocks hS (Or.inr (Or.inr (Or.inr (Or.inr (Or.inr (Or.inr (Or.inr (Or.inl ⟨g1, c_41, c_42, c_43, c_44, c_45, c_46, c_47, c_48, c_49, rfl, rfl⟩)))))))) hP9 hD9 (Nat.le_of_ble_eq_true rfl) (Nat.le_of_ble_eq_true rfl) dX1_read_63)
  · skip
    refine W.eq (g2 := F0 m 52 ls [.int 0]) rfl ?_
    have hP : va_P D vwCl [(h1, .inl (dA 0, 24, .inl g1)), (h2, .inl (dA 0, 24, .inl (upd (fun _ => 0) 0 p0))), (h0, .inr (5, [.ref h2, .ref h1, .ref h3, .int 0, .int 0, .int 1, .int (-1), .int 0, .int 0, .int 0, .int 0, .int 0]))] H := hP
    have hD : va_D A [(h1, .inl (dA 0, 24, .inl g1)), (h2, .inl (dA 0, 24, .inl (upd (fun _ => 0) 0 p0))), (h0, .inr (5, [.ref h2, .ref h1, .ref h3, .int 0, .int 0, .int 1, .int (-1), .int 0, .int 0, .int 0, .int 0, .int 0]))] := hD
    refine lv_if_ne (tgt := 64) hx hb dX1_read_52 (by decide) (fun h => absurd (by decide +kernel) h) (fun _ => ?_)
    refine lv_aload_n hx hb dX1_read_55 rfl (lv_at hl 0 rfl) ?_
    refine lv_aload_n hx hb dX1_read_56 rfl (lv_at hl 0 rfl) ?_
    refine va_get (D := D) (ci := 5) (v := .int 0) (C := RX1) (T := TX1) (N := 12) hx hb hgw in_X1 hown hK hP 2 rfl rfl 3 (by decide) (hgw _ m_2_1) (fun _ h9 => h9) rfl dX1_read_57 ?_
    refine va_put (D := D) (ci := 5) (v := .int 0) (ty := .int) (C := RX1) (T := TX1) (N := 12) hx hb hgw in_X1 tyX1 tyX1_ok nmX1 hown hK hP hD hS 2 rfl rfl 6 (by decide) (hgw _ m_2_8) (fun _ h9 => h9) rfl (by decide +kernel) rfl rfl (Nat.le_of_ble_eq_true rfl) dX1_read_60 (fun H locs hP hD hS => ?_)
    have hP : va_P D vwCl [(h1, .inl (dA 0, 24, .inl g1)), (h2, .inl (dA 0, 24, .inl (upd (fun _ => 0) 0 p0))), (h0, .inr (5, [.ref h2, .ref h1, .ref h3, .int 0, .int 0, .int 1, .int 0, .int 0, .int 0, .int 0, .int 0, .int 0]))] H := hP
    have hD : va_D A [(h1, .inl (dA 0, 24, .inl g1)), (h2, .inl (dA 0, 24, .inl (upd (fun _ => 0) 0 p0))), (h0, .inr (5, [.ref h2, .ref h1, .ref h3, .int 0, .int 0, .int 1, .int 0, .int 0, .int 0, .int 0, .int 0, .int 0]))] := hD
    have hP9 := hP.sub (ws' := [(h1, .inl (dA 0, 24, .inl g1)), (h2, .inl (dA 0, 24, .inl (upd (fun _ => 0) 0 p0))), (h0, .inr (5, [.ref h2, .ref h1, .ref h3, .int 0, .int 0, .int 1, .int 0, .int 0, .int 0, .int 0, .int 0, .int 0]))]) [0, 1, 2] rfl
    have hD9 := hD.sub (ws' := [(h1, .inl (dA 0, 24, .inl g1)), (h2, .inl (dA 0, 24, .inl (upd (fun _ => 0) 0 p0))), (h0, .inr (5, [.ref h2, .ref h1, .ref h3, .int 0, .int 0, .int 1, .int 0, .int 0, .int 0, .int 0, .int 0, .int 0]))]) [0, 1, 2] (by decide) rfl
    exact (kq_vret hx hb hr hlocks hS (Or.inr (Or.inr (Or.inr (Or.inr (Or.inr (Or.inr (Or.inr (Or.inr (Or.inl ⟨g1, c_50, c_51, c_52, c_53, c_54, c_55, c_56, c_57, c_58, rfl, rfl⟩))))))))) hP9 hD9 (Nat.le_of_ble_eq_true rfl) (Nat.le_of_ble_eq_true rfl) dX1_read_63)
  · skip
    refine W.eq (g2 := F0 m 52 ls [.int 0]) rfl ?_
    have hP : va_P D vwCl [(h1, .inl (dA 0, 24, .inl g1)), (h2, .inl (dA 0, 24, .inl (upd (fun _ => 0) 0 p0))), (h0, .inr (5, [.ref h2, .ref h1, .ref h3, .int 1, .int 0, .int 1, .int (-1), .int p0, .int 0, .int 0, .int 0, .int 0]))] H := hP
    have hD : va_D A [(h1, .inl (dA 0, 24, .inl g1)), (h2, .inl (dA 0, 24, .inl (upd (fun _ => 0) 0 p0))), (h0, .inr (5, [.ref h2, .ref h1, .ref h3, .int 1, .int 0, .int 1, .int (-1), .int p0, .int 0, .int 0, .int 0, .int 0]))] := hD
    refine lv_if_ne (tgt := 64) hx hb dX1_read_52 (by decide) (fun h => absurd (by decide +kernel) h) (fun _ => ?_)
    refine lv_aload_n hx hb dX1_read_55 rfl (lv_at hl 0 rfl) ?_
    refine lv_aload_n hx hb dX1_read_56 rfl (lv_at hl 0 rfl) ?_
    refine va_get (D := D) (ci := 5) (v := .int 1) (C := RX1) (T := TX1) (N := 12) hx hb hgw in_X1 hown hK hP 2 rfl rfl 3 (by decide) (hgw _ m_2_1) (fun _ h9 => h9) rfl dX1_read_57 ?_
    refine va_put (D := D) (ci := 5) (v := .int 1) (ty := .int) (C := RX1) (T := TX1) (N := 12) hx hb hgw in_X1 tyX1 tyX1_ok nmX1 hown hK hP hD hS 2 rfl rfl 6 (by decide) (hgw _ m_2_8) (fun _ h9 => h9) rfl (by decide +kernel) rfl rfl (Nat.le_of_ble_eq_true rfl) dX1_read_60 (fun H locs hP hD hS => ?_)
    have hP : va_P D vwCl [(h1, .inl (dA 0, 24, .inl g1)), (h2, .inl (dA 0, 24, .inl (upd (fun _ => 0) 0 p0))), (h0, .inr (5, [.ref h2, .ref h1, .ref h3, .int 1, .int 0, .int 1, .int 1, .int p0, .int 0, .int 0, .int 0, .int 0]))] H := hP
    have hD : va_D A [(h1, .inl (dA 0, 24, .inl g1)), (h2, .inl (dA 0, 24, .inl (upd (fun _ => 0) 0 p0))), (h0, .inr (5, [.ref h2, .ref h1, .ref h3, .int 1, .int 0, .int 1, .int 1, .int p0, .int 0, .int 0, .int 0, .int 0]))] := hD
    have hP9 := hP.sub (ws' := [(h1, .inl (dA 0, 24, .inl g1)), (h2, .inl (dA 0, 24, .inl (upd (fun _ => 0) 0 p0))), (h0, .inr (5, [.ref h2, .ref h1, .ref h3, .int 1, .int 0, .int 1, .int 1, .int p0, .int 0, .int 0, .int 0, .int 0]))]) [0, 1, 2] rfl
    have hD9 := hD.sub (ws' := [(h1, .inl (dA 0, 24, .inl g1)), (h2, .inl (dA 0, 24, .inl (upd (fun _ => 0) 0 p0))), (h0, .inr (5, [.ref h2, .ref h1, .ref h3, .int 1, .int 0, .int 1, .int 1, .int p0, .int 0, .int 0, .int 0, .int 0]))]) [0, 1, 2] (by decide) rfl
    exact (kq_vret hx hb hr hlocks hS (Or.inr (Or.inr (Or.inr (Or.inr (Or.inr (Or.inr (Or.inr (Or.inr (Or.inr (Or.inl ⟨g1, c_59, c_60, c_61, rfl, rfl⟩)))))))))) hP9 hD9 (Nat.le_of_ble_eq_true rfl) (Nat.le_of_ble_eq_true rfl) dX1_read_63)
  · skip
    refine W.eq (g2 := F0 m 52 ls [.int 0]) rfl ?_
    have hP : va_P D vwCl [(h1, .inl (dA 0, 24, .inl g1)), (h2, .inl (dA 0, 24, .inl (upd (fun _ => 0) 0 p0))), (h0, .inr (5, [.ref h2, .ref h1, .ref h3, .int 1, .int 0, .int 1, .int (-1), .int p0, .int 0, .int 0, .int 0, .int 0]))] H := hP
    have hD : va_D A [(h1, .inl (dA 0, 24, .inl g1)), (h2, .inl (dA 0, 24, .inl (upd (fun _ => 0) 0 p0))), (h0, .inr (5, [.ref h2, .ref h1, .ref h3, .int 1, .int 0, .int 1, .int (-1), .int p0, .int 0, .int 0, .int 0, .int 0]))] := hD
    refine lv_if_ne (tgt := 64) hx hb dX1_read_52 (by decide) (fun h => absurd (by decide +kernel) h) (fun _ => ?_)
    refine lv_aload_n hx hb dX1_read_55 rfl (lv_at hl 0 rfl) ?_
    refine lv_aload_n hx hb dX1_read_56 rfl (lv_at hl 0 rfl) ?_
    refine va_get (D := D) (ci := 5) (v := .int 1) (C := RX1) (T := TX1) (N := 12) hx hb hgw in_X1 hown hK hP 2 rfl rfl 3 (by decide) (hgw _ m_2_1) (fun _ h9 => h9) rfl dX1_read_57 ?_
    refine va_put (D := D) (ci := 5) (v := .int 1) (ty := .int) (C := RX1) (T := TX1) (N := 12) hx hb hgw in_X1 tyX1 tyX1_ok nmX1 hown hK hP hD hS 2 rfl rfl 6 (by decide) (hgw _ m_2_8) (fun _ h9 => h9) rfl (by decide +kernel) rfl rfl (Nat.le_of_ble_eq_true rfl) dX1_read_60 (fun H locs hP hD hS => ?_)
    have hP : va_P D vwCl [(h1, .inl (dA 0, 24, .inl g1)), (h2, .inl (dA 0, 24, .inl (upd (fun _ => 0) 0 p0))), (h0, .inr (5, [.ref h2, .ref h1, .ref h3, .int 1, .int 0, .int 1, .int 1, .int p0, .int 0, .int 0, .int 0, .int 0]))] H := hP
    have hD : va_D A [(h1, .inl (dA 0, 24, .inl g1)), (h2, .inl (dA 0, 24, .inl (upd (fun _ => 0) 0 p0))), (h0, .inr (5, [.ref h2, .ref h1, .ref h3, .int 1, .int 0, .int 1, .int 1, .int p0, .int 0, .int 0, .int 0, .int 0]))] := hD
    have hP9 := hP.sub (ws' := [(h1, .inl (dA 0, 24, .inl g1)), (h2, .inl (dA 0, 24, .inl (upd (fun _ => 0) 0 p0))), (h0, .inr (5, [.ref h2, .ref h1, .ref h3, .int 1, .int 0, .int 1, .int 1, .int p0, .int 0, .int 0, .int 0, .int 0]))]) [0, 1, 2] rfl
    have hD9 := hD.sub (ws' := [(h1, .inl (dA 0, 24, .inl g1)), (h2, .inl (dA 0, 24, .inl (upd (fun _ => 0) 0 p0))), (h0, .inr (5, [.ref h2, .ref h1, .ref h3, .int 1, .int 0, .int 1, .int 1, .int p0, .int 0, .int 0, .int 0, .int 0]))]) [0, 1, 2] (by decide) rfl
    exact (kq_vret hx hb hr hlocks hS (Or.inr (Or.inr (Or.inr (Or.inr (Or.inr (Or.inr (Or.inr (Or.inr (Or.inr (Or.inr (⟨g1, c_62, c_63, c_64, rfl, rfl⟩))))))))))) hP9 hD9 (Nat.le_of_ble_eq_true rfl) (Nat.le_of_ble_eq_true rfl) dX1_read_63)
set_option maxHeartbeats 4000000 in
set_option maxRecDepth 100000 in
theorem c_X11_forgetRow (l : Launch) (hfl : l.stackTraces = false) (D : va_G) (dA : Nat → ClassId) (tE tC : Nat) (h0 : Nat) (h1 : Nat) (h2 : Nat) (h3 : Nat) (h4 : Nat) (h5 : Nat) (h6 : Nat) (h7 : Nat) (h8 : Nat) (h9 : Nat) (h10 : Nat) (h11 : Nat) : Ct l D dA tE tC yX11_forgetRow (Cond.code yX11_forgetRow cX11_forgetRow 1 none :: gW) ({ frames := 0, cells := 0, slots := 0, locals := 0 } : Room) [.ref h0] [(h0, .inr (15, [.ref h1, .ref h2, .ref h3, .ref h4, .ref h5, .ref h6, .ref h7, .ref h8, .ref h9, .ref h10, .ref h11, .int 0, .int 0, .int 0]))] (fun v w1 => (v = none ∧ w1 = [(h0, .inr (15, [.ref h1, .ref h2, .ref h3, .ref h4, .ref h5, .ref h6, .ref h7, .ref h8, .ref h9, .ref h10, .ref h11, .int 0, .int 0, .int 0]))])) 0 0 := by
  refine Ct_of (by decide) (Nat.le_of_ble_eq_true rfl) ?_
  intro p e s m below meth c hx hb hr hml hown hnm hlocks hgw hK A hG hA hP hD ls hl
  have hl : lv_has ls 1 [(0, .ref h0)] := hl
  have hS : va_S A s.heap s.heap [] := va_S.rf
  refine lv_aload_n hx hb dX11_forgetRow_0 rfl (lv_at hl 0 rfl) ?_
  refine lv_iconst (v := 0) hx hb dX11_forgetRow_1 (by decide) ?_
  refine va_put (D := D) (ci := 15) (v := .int 0) (ty := .boolean) (C := RX11) (T := TX11) (N := 14) hx hb hgw in_X11 tyX11 tyX11_ok nmX11 hown hK hP hD hS 0 rfl rfl 11 (by decide) (hgw _ m_3_169) (fun _ h9 => h9) rfl (by decide +kernel) rfl rfl (Nat.le_of_ble_eq_true rfl) dX11_forgetRow_2 (fun H locs hP hD hS => ?_)
  have hP : va_P D vwCl [(h0, .inr (15, [.ref h1, .ref h2, .ref h3, .ref h4, .ref h5, .ref h6, .ref h7, .ref h8, .ref h9, .ref h10, .ref h11, .int 0, .int 0, .int 0]))] H := hP
  have hD : va_D A [(h0, .inr (15, [.ref h1, .ref h2, .ref h3, .ref h4, .ref h5, .ref h6, .ref h7, .ref h8, .ref h9, .ref h10, .ref h11, .int 0, .int 0, .int 0]))] := hD
  refine lv_aload_n hx hb dX11_forgetRow_5 rfl (lv_at hl 0 rfl) ?_
  refine lv_iconst (v := 0) hx hb dX11_forgetRow_6 (by decide) ?_
  refine va_put (D := D) (ci := 15) (v := .int 0) (ty := .boolean) (C := RX11) (T := TX11) (N := 14) hx hb hgw in_X11 tyX11 tyX11_ok nmX11 hown hK hP hD hS 0 rfl rfl 12 (by decide) (hgw _ m_3_170) (fun _ h9 => h9) rfl (by decide +kernel) rfl rfl (Nat.le_of_ble_eq_true rfl) dX11_forgetRow_7 (fun H locs hP hD hS => ?_)
  have hP : va_P D vwCl [(h0, .inr (15, [.ref h1, .ref h2, .ref h3, .ref h4, .ref h5, .ref h6, .ref h7, .ref h8, .ref h9, .ref h10, .ref h11, .int 0, .int 0, .int 0]))] H := hP
  have hD : va_D A [(h0, .inr (15, [.ref h1, .ref h2, .ref h3, .ref h4, .ref h5, .ref h6, .ref h7, .ref h8, .ref h9, .ref h10, .ref h11, .int 0, .int 0, .int 0]))] := hD
  have hP9 := hP.sub (ws' := [(h0, .inr (15, [.ref h1, .ref h2, .ref h3, .ref h4, .ref h5, .ref h6, .ref h7, .ref h8, .ref h9, .ref h10, .ref h11, .int 0, .int 0, .int 0]))]) [0] rfl
  have hD9 := hD.sub (ws' := [(h0, .inr (15, [.ref h1, .ref h2, .ref h3, .ref h4, .ref h5, .ref h6, .ref h7, .ref h8, .ref h9, .ref h10, .ref h11, .int 0, .int 0, .int 0]))]) [0] (by decide) rfl
  exact (kq_vret hx hb hr hlocks hS ⟨rfl, rfl⟩ hP9 hD9 (Nat.le_of_ble_eq_true rfl) (Nat.le_of_ble_eq_true rfl) dX11_forgetRow_10)
set_option maxHeartbeats 4000000 in
set_option maxRecDepth 100000 in
theorem c_X11_type (l : Launch) (hfl : l.stackTraces = false) (D : va_G) (dA : Nat → ClassId) (tE tC : Nat) (h0 : Nat) (p0 : Int32) (h1 : Nat) (h2 : Nat) (h3 : Nat) (h4 : Nat) (h5 : Nat) (h6 : Nat) (h7 : Nat) (h8 : Nat) (h9 : Nat) (h10 : Nat) (h11 : Nat) (h12 : Nat) (h13 : Nat) (f0 : Nat → Int32) (h14 : Nat) : Cx l D dA tE tC yX11_type (Cond.code yX11_type cX11_type 2 (some .int) :: gW) ({ frames := 6, cells := 1, slots := 6, locals := 86 } : Room) [.ref h0, .int p0] [(h0, .inr (15, [.ref h1, .ref h2, .ref h3, .ref h4, .ref h5, .ref h6, .ref h7, .ref h8, .ref h9, .ref h10, .ref h11, .int 0, .int 0, .int 0])), (h12, .inl (dA 0, 24, .inl (fun _ => 0))), (h13, .inl (dA 0, 24, .inl f0)), (h2, .inr (5, [.ref h12, .ref h13, .ref h14, .int 0, .int 0, .int 0, .int 0, .int 0, .int 0, .int 0, .int 0, .int 0]))] (fun v w1 => (¬ p0.toInt < 0 ∧ p0.toInt ≤ 99 ∧ p0.toInt < 11 ∧ p0.toInt < 1 ∧ v = some (.int 1) ∧ w1 = []) ∨ (¬ p0.toInt < 0 ∧ p0.toInt ≤ 99 ∧ p0.toInt < 11 ∧ ¬ p0.toInt < 1 ∧ 8 < p0.toInt ∧ ¬ p0.toInt = 31 ∧ ¬ p0.toInt = 32 ∧ ¬ p0.toInt = 33 ∧ ¬ p0.toInt = 34 ∧ ¬ p0.toInt = 35 ∧ v = some (.int 1) ∧ w1 = []) ∨ (¬ p0.toInt < 0 ∧ p0.toInt ≤ 99 ∧ p0.toInt < 11 ∧ ¬ p0.toInt < 1 ∧ ¬ 8 < p0.toInt ∧ v = some (.int 1) ∧ w1 = []) ∨ (¬ p0.toInt < 0 ∧ p0.toInt ≤ 99 ∧ ¬ p0.toInt < 11 ∧ 15 < p0.toInt ∧ ¬ p0.toInt < 1 ∧ 8 < p0.toInt ∧ p0.toInt = 31 ∧ v = some (.int 1) ∧ w1 = []) ∨ (¬ p0.toInt < 0 ∧ p0.toInt ≤ 99 ∧ ¬ p0.toInt < 11 ∧ 15 < p0.toInt ∧ ¬ p0.toInt < 1 ∧ 8 < p0.toInt ∧ ¬ p0.toInt = 31 ∧ p0.toInt = 32 ∧ v = some (.int 1) ∧ w1 = []) ∨ (¬ p0.toInt < 0 ∧ p0.toInt ≤ 99 ∧ ¬ p0.toInt < 11 ∧ 15 < p0.toInt ∧ ¬ p0.toInt < 1 ∧ 8 < p0.toInt ∧ ¬ p0.toInt = 31 ∧ ¬ p0.toInt = 32 ∧ p0.toInt = 33 ∧ v = some (.int 1) ∧ w1 = []) ∨ (¬ p0.toInt < 0 ∧ p0.toInt ≤ 99 ∧ ¬ p0.toInt < 11 ∧ 15 < p0.toInt ∧ ¬ p0.toInt < 1 ∧ 8 < p0.toInt ∧ ¬ p0.toInt = 31 ∧ ¬ p0.toInt = 32 ∧ ¬ p0.toInt = 33 ∧ p0.toInt = 34 ∧ v = some (.int 1) ∧ w1 = []) ∨ (¬ p0.toInt < 0 ∧ p0.toInt ≤ 99 ∧ ¬ p0.toInt < 11 ∧ 15 < p0.toInt ∧ ¬ p0.toInt < 1 ∧ 8 < p0.toInt ∧ ¬ p0.toInt = 31 ∧ ¬ p0.toInt = 32 ∧ ¬ p0.toInt = 33 ∧ ¬ p0.toInt = 34 ∧ p0.toInt = 35 ∧ v = some (.int 1) ∧ w1 = []) ∨ (¬ p0.toInt < 0 ∧ p0.toInt ≤ 99 ∧ ¬ p0.toInt < 11 ∧ 15 < p0.toInt ∧ ¬ p0.toInt < 1 ∧ 8 < p0.toInt ∧ ¬ p0.toInt = 31 ∧ ¬ p0.toInt = 32 ∧ ¬ p0.toInt = 33 ∧ ¬ p0.toInt = 34 ∧ ¬ p0.toInt = 35 ∧ v = some (.int 1) ∧ w1 = []) ∨ (¬ p0.toInt < 0 ∧ p0.toInt ≤ 99 ∧ ¬ p0.toInt < 11 ∧ ¬ 15 < p0.toInt ∧ 14 ≤ p0.toInt ∧ v = some (.int 1) ∧ w1 = []) ∨ (¬ p0.toInt < 0 ∧ p0.toInt ≤ 99 ∧ ¬ p0.toInt < 11 ∧ ¬ 15 < p0.toInt ∧ ¬ 14 ≤ p0.toInt ∧ v = some (.int 1) ∧ w1 = [])) (fun E => (p0.toInt < 0 ∧ E = "java/lang/IllegalArgumentException") ∨ (¬ p0.toInt < 0 ∧ ¬ p0.toInt ≤ 99 ∧ E = "java/lang/IllegalArgumentException")) 1 6 := by
  refine Cx_of (by decide) (Nat.le_of_ble_eq_true rfl) ?_
  intro p e s m below meth c hx hb hr hml hown hnm hlocks hgw hK A hG hA hP hD ls hl hxt
  have hl : lv_has ls 2 [(0, .ref h0), (1, .int p0)] := hl
  have hS : va_S A s.heap s.heap [] := va_S.rf
  refine lv_iload_n hx hb dX11_type_0 rfl (lv_at hl 1 rfl) ?_
  refine lv_if_lt (tgt := 10) hx hb dX11_type_1 (by decide) (fun c_1 => ?_) (fun c_1 => ?_)
  · have c_1 := (kq_lt (x := p0) (y := 0) (a := p0.toInt) (b := 0) (by rfl) (by decide +kernel)).mp c_1
    exact kx_throw hx hb hfl hown hgw hG hS (hl.1.trans hml.symm) hxt hlocks m_5_25 m_1_23 n_s0 ta_X11_99 (by decide +kernel) (by decide +kernel) dX11_type_10 dX11_type_13 dX11_type_14 dX11_type_16 dX11_type_19 (Nat.le_of_ble_eq_true rfl) (Nat.le_of_ble_eq_true rfl) (Nat.le_of_ble_eq_true rfl) (Nat.le_of_ble_eq_true rfl) (Or.inl ⟨c_1, rfl⟩) (Nat.le_of_ble_eq_true rfl) (Nat.le_of_ble_eq_true rfl)
  · have c_1 := mt (kq_lt (x := p0) (y := 0) (a := p0.toInt) (b := 0) (by rfl) (by decide +kernel)).mpr c_1
    refine lv_iload_n hx hb dX11_type_4 rfl (lv_at hl 1 rfl) ?_
    refine lv_bipush (v := 99) hx hb dX11_type_5 (by decide +kernel) ?_
    refine lv_icmp_le (tgt := 20) hx hb dX11_type_7 (by decide) (fun c_2 => ?_) (fun c_2 => ?_)
    · have c_2 := (kq_le (x := p0) (y := 99) (a := p0.toInt) (b := 99) (by rfl) (by decide +kernel)).mp c_2
      refine lv_aload_n hx hb dX11_type_20 rfl (lv_at hl 0 rfl) ?_
      refine va_get (D := D) (ci := 15) (v := .ref h2) (C := RX11) (T := TX11) (N := 14) hx hb hgw in_X11 hown hK hP 0 rfl rfl 1 (by decide) (hgw _ m_3_159) (fun _ h9 => h9) rfl dX11_type_21 ?_
      refine va_get (D := D) (ci := 5) (v := .int 0) (C := RX1) (T := TX1) (N := 12) hx hb hgw in_X1 hown hK hP 3 rfl rfl 5 (by decide) (hgw _ m_2_3) (fun _ h9 => h9) rfl dX11_type_24 ?_
      refine lv_bipush (v := 24) hx hb dX11_type_27 (by decide +kernel) ?_
      refine lv_icmp_lt (tgt := 42) hx hb dX11_type_29 (by decide) (fun _ => ?_) (fun h => absurd (by decide +kernel) h)
      refine lv_aload_n hx hb dX11_type_42 rfl (lv_at hl 0 rfl) ?_
      refine va_get (D := D) (ci := 15) (v := .ref h2) (C := RX11) (T := TX11) (N := 14) hx hb hgw in_X11 hown hK hP 0 rfl rfl 1 (by decide) (hgw _ m_3_159) (fun _ h9 => h9) rfl dX11_type_43 ?_
      refine lv_iload_n hx hb dX11_type_46 rfl (lv_at hl 1 rfl) ?_
      refine kq_V (q0 := 1) (As := [.int p0]) (rest := []) (wr := [(h0, .inr (15, [.ref h1, .ref h2, .ref h3, .ref h4, .ref h5, .ref h6, .ref h7, .ref h8, .ref h9, .ref h10, .ref h11, .int 0, .int 0, .int 0])), (h13, .inl (dA 0, 24, .inl f0))]) hx hb hml hown hgw hK hG hA hP hD hS (c_X1_add l hfl D dA tE tC h2 p0 h12 h13 h14) m_5_113 m_4_189 m_4_190 m_1_6 m_4_191 hd_X1_add rfl rfl ⟨(Nat.le_of_ble_eq_true rfl), (Nat.le_of_ble_eq_true rfl)⟩ [1, 3] [0, 2] rfl rfl rfl rfl (by decide) rfl rfl rfl hl.1 rfl (Nat.le_of_ble_eq_true rfl) dX11_type_47 ⟨(Nat.le_of_ble_eq_true rfl), (Nat.le_of_ble_eq_true rfl)⟩ (fun v w1 H locs hQ hP hD hS => ?_)
      obtain ⟨rfl, rfl⟩ := hQ
      refine W.eq (g2 := F0 m 50 ls []) rfl ?_
      have hP : va_P D vwCl [(h0, .inr (15, [.ref h1, .ref h2, .ref h3, .ref h4, .ref h5, .ref h6, .ref h7, .ref h8, .ref h9, .ref h10, .ref h11, .int 0, .int 0, .int 0])), (h13, .inl (dA 0, 24, .inl f0)), (h12, .inl (dA 0, 24, .inl (upd (fun _ => 0) 0 p0))), (h2, .inr (5, [.ref h12, .ref h13, .ref h14, .int 0, .int 0, .int 1, .int 0, .int 0, .int 0, .int 0, .int 0, .int 0]))] H := hP
      have hD : va_D A [(h0, .inr (15, [.ref h1, .ref h2, .ref h3, .ref h4, .ref h5, .ref h6, .ref h7, .ref h8, .ref h9, .ref h10, .ref h11, .int 0, .int 0, .int 0])), (h13, .inl (dA 0, 24, .inl f0)), (h12, .inl (dA 0, 24, .inl (upd (fun _ => 0) 0 p0))), (h2, .inr (5, [.ref h12, .ref h13, .ref h14, .int 0, .int 0, .int 1, .int 0, .int 0, .int 0, .int 0, .int 0, .int 0]))] := hD
      refine lv_aload_n hx hb dX11_type_50 rfl (lv_at hl 0 rfl) ?_
      refine va_get (D := D) (ci := 15) (v := .ref h2) (C := RX11) (T := TX11) (N := 14) hx hb hgw in_X11 hown hK hP 0 rfl rfl 1 (by decide) (hgw _ m_3_159) (fun _ h9 => h9) rfl dX11_type_51 ?_
      refine kq_V (q0 := 2) (As := []) (rest := []) (wr := [(h0, .inr (15, [.ref h1, .ref h2, .ref h3, .ref h4, .ref h5, .ref h6, .ref h7, .ref h8, .ref h9, .ref h10, .ref h11, .int 0, .int 0, .int 0]))]) hx hb hml hown hgw hK hG hA hP hD hS (c_X1_read_1 l hfl D dA tE tC h2 h13 f0 h12 p0 h14) m_3_112 m_3_113 m_3_114 m_1_6 m_3_115 hd_X1_read rfl rfl ⟨(Nat.le_of_ble_eq_true rfl), (Nat.le_of_ble_eq_true rfl)⟩ [1, 2, 3] [0] rfl rfl rfl rfl (by decide) rfl rfl rfl hl.1 rfl (Nat.le_of_ble_eq_true rfl) dX11_type_54 ⟨(Nat.le_of_ble_eq_true rfl), (Nat.le_of_ble_eq_true rfl)⟩ (fun v w1 H locs hQ hP hD hS => ?_)
      rcases hQ with ⟨g3, c_4, c_5, rfl, rfl⟩ | ⟨g6, c_7, c_8, c_9, c_10, c_11, c_12, c_13, c_14, rfl, rfl⟩ | ⟨g15, c_16, c_17, c_18, rfl, rfl⟩ | ⟨g19, c_20, c_21, c_22, c_23, c_24, rfl, rfl⟩ | ⟨g25, c_26, c_27, c_28, c_29, c_30, c_31, rfl, rfl⟩ | ⟨g32, c_33, c_34, c_35, c_36, c_37, c_38, c_39, rfl, rfl⟩ | ⟨g40, c_41, c_42, c_43, c_44, c_45, c_46, c_47, c_48, rfl, rfl⟩ | ⟨g49, c_50, c_51, c_52, c_53, c_54, c_55, c_56, c_57, c_58, rfl, rfl⟩ | ⟨g59, c_60, c_61, c_62, c_63, c_64, c_65, c_66, c_67, c_68, rfl, rfl⟩ | ⟨g69, c_70, c_71, c_72, rfl, rfl⟩ | ⟨g73, c_74, c_75, c_76, rfl, rfl⟩
      · skip
        refine W.eq (g2 := F0 m 57 ls []) rfl ?_
        have hP : va_P D vwCl [(h0, .inr (15, [.ref h1, .ref h2, .ref h3, .ref h4, .ref h5, .ref h6, .ref h7, .ref h8, .ref h9, .ref h10, .ref h11, .int 0, .int 0, .int 0])), (h13, .inl (dA 0, 24, .inl g3)), (h12, .inl (dA 0, 24, .inl (upd (fun _ => 0) 0 p0))), (h2, .inr (5, [.ref h12, .ref h13, .ref h14, .int 0, .int 0, .int 1, .int 0, .int 0, .int 0, .int 0, .int 0, .int 0]))] H := hP
        have hD : va_D A [(h0, .inr (15, [.ref h1, .ref h2, .ref h3, .ref h4, .ref h5, .ref h6, .ref h7, .ref h8, .ref h9, .ref h10, .ref h11, .int 0, .int 0, .int 0])), (h13, .inl (dA 0, 24, .inl g3)), (h12, .inl (dA 0, 24, .inl (upd (fun _ => 0) 0 p0))), (h2, .inr (5, [.ref h12, .ref h13, .ref h14, .int 0, .int 0, .int 1, .int 0, .int 0, .int 0, .int 0, .int 0, .int 0]))] := hD
        refine lv_aload_n hx hb dX11_type_57 rfl (lv_at hl 0 rfl) ?_
        refine kq_V (q0 := 0) (As := []) (rest := []) (wr := [(h13, .inl (dA 0, 24, .inl g3)), (h12, .inl (dA 0, 24, .inl (upd (fun _ => 0) 0 p0))), (h2, .inr (5, [.ref h12, .ref h13, .ref h14, .int 0, .int 0, .int 1, .int 0, .int 0, .int 0, .int 0, .int 0, .int 0]))]) hx hb hml hown hgw hK hG hA hP hD hS (c_X11_forgetRow l hfl D dA tE tC h0 h1 h2 h3 h4 h5 h6 h7 h8 h9 h10 h11) m_3_213 m_3_215 m_s_8 m_1_1 m_3_216 hd_X11_forgetRow rfl rfl ⟨(Nat.le_of_ble_eq_true rfl), (Nat.le_of_ble_eq_true rfl)⟩ [0] [1, 2, 3] rfl rfl rfl rfl (by decide) rfl rfl rfl hl.1 rfl (Nat.le_of_ble_eq_true rfl) dX11_type_58 ⟨(Nat.le_of_ble_eq_true rfl), (Nat.le_of_ble_eq_true rfl)⟩ (fun v w1 H locs hQ hP hD hS => ?_)
        obtain ⟨rfl, rfl⟩ := hQ
        refine W.eq (g2 := F0 m 61 ls []) rfl ?_
        have hP : va_P D vwCl [(h13, .inl (dA 0, 24, .inl g3)), (h12, .inl (dA 0, 24, .inl (upd (fun _ => 0) 0 p0))), (h2, .inr (5, [.ref h12, .ref h13, .ref h14, .int 0, .int 0, .int 1, .int 0, .int 0, .int 0, .int 0, .int 0, .int 0])), (h0, .inr (15, [.ref h1, .ref h2, .ref h3, .ref h4, .ref h5, .ref h6, .ref h7, .ref h8, .ref h9, .ref h10, .ref h11, .int 0, .int 0, .int 0]))] H := hP
        have hD : va_D A [(h13, .inl (dA 0, 24, .inl g3)), (h12, .inl (dA 0, 24, .inl (upd (fun _ => 0) 0 p0))), (h2, .inr (5, [.ref h12, .ref h13, .ref h14, .int 0, .int 0, .int 1, .int 0, .int 0, .int 0, .int 0, .int 0, .int 0])), (h0, .inr (15, [.ref h1, .ref h2, .ref h3, .ref h4, .ref h5, .ref h6, .ref h7, .ref h8, .ref h9, .ref h10, .ref h11, .int 0, .int 0, .int 0]))] := hD
        refine lv_aload_n hx hb dX11_type_61 rfl (lv_at hl 0 rfl) ?_
        refine va_get (D := D) (ci := 15) (v := .ref h2) (C := RX11) (T := TX11) (N := 14) hx hb hgw in_X11 hown hK hP 3 rfl rfl 1 (by decide) (hgw _ m_3_159) (fun _ h9 => h9) rfl dX11_type_62 ?_
        refine va_get (D := D) (ci := 5) (v := .int 1) (C := RX1) (T := TX1) (N := 12) hx hb hgw in_X1 hown hK hP 2 rfl rfl 5 (by decide) (hgw _ m_2_3) (fun _ h9 => h9) rfl dX11_type_65 ?_
        have hP9 := hP.sub (ws' := []) [] rfl
        have hD9 := hD.sub (ws' := []) [] (by decide) rfl
        exact vx_ret (kq_iret (v := 1) hx hb hr hlocks hS rfl (Or.inl ⟨c_1, c_2, c_4, c_5, rfl, rfl⟩) hP9 hD9 (Nat.le_of_ble_eq_true rfl) (Nat.le_of_ble_eq_true rfl) dX11_type_68)
      · skip
        refine W.eq (g2 := F0 m 57 ls []) rfl ?_
        have hP : va_P D vwCl [(h0, .inr (15, [.ref h1, .ref h2, .ref h3, .ref h4, .ref h5, .ref h6, .ref h7, .ref h8, .ref h9, .ref h10, .ref h11, .int 0, .int 0, .int 0])), (h13, .inl (dA 0, 24, .inl g6)), (h12, .inl (dA 0, 24, .inl (upd (fun _ => 0) 0 p0))), (h2, .inr (5, [.ref h12, .ref h13, .ref h14, .int 0, .int 0, .int 1, .int 0, .int 0, .int 0, .int 0, .int 0, .int 0]))] H := hP
        have hD : va_D A [(h0, .inr (15, [.ref h1, .ref h2, .ref h3, .ref h4, .ref h5, .ref h6, .ref h7, .ref h8, .ref h9, .ref h10, .ref h11, .int 0, .int 0, .int 0])), (h13, .inl (dA 0, 24, .inl g6)), (h12, .inl (dA 0, 24, .inl (upd (fun _ => 0) 0 p0))), (h2, .inr (5, [.ref h12, .ref h13, .ref h14, .int 0, .int 0, .int 1, .int 0, .int 0, .int 0, .int 0, .int 0, .int 0]))] := hD
        refine lv_aload_n hx hb dX11_type_57 rfl (lv_at hl 0 rfl) ?_
        refine kq_V (q0 := 0) (As := []) (rest := []) (wr := [(h13, .inl (dA 0, 24, .inl g6)), (h12, .inl (dA 0, 24, .inl (upd (fun _ => 0) 0 p0))), (h2, .inr (5, [.ref h12, .ref h13, .ref h14, .int 0, .int 0, .int 1, .int 0, .int 0, .int 0, .int 0, .int 0, .int 0]))]) hx hb hml hown hgw hK hG hA hP hD hS (c_X11_forgetRow l hfl D dA tE tC h0 h1 h2 h3 h4 h5 h6 h7 h8 h9 h10 h11) m_3_213 m_3_215 m_s_8 m_1_1 m_3_216 hd_X11_forgetRow rfl rfl ⟨(Nat.le_of_ble_eq_true rfl), (Nat.le_of_ble_eq_true rfl)⟩ [0] [1, 2, 3] rfl rfl rfl rfl (by decide) rfl rfl rfl hl.1 rfl (Nat.le_of_ble_eq_true rfl) dX11_type_58 ⟨(Nat.le_of_ble_eq_true rfl), (Nat.le_of_ble_eq_true rfl)⟩ (fun v w1 H locs hQ hP hD hS => ?_)
        obtain ⟨rfl, rfl⟩ := hQ
        refine W.eq (g2 := F0 m 61 ls []) rfl ?_
        have hP : va_P D vwCl [(h13, .inl (dA 0, 24, .inl g6)), (h12, .inl (dA 0, 24, .inl (upd (fun _ => 0) 0 p0))), (h2, .inr (5, [.ref h12, .ref h13, .ref h14, .int 0, .int 0, .int 1, .int 0, .int 0, .int 0, .int 0, .int 0, .int 0])), (h0, .inr (15, [.ref h1, .ref h2, .ref h3, .ref h4, .ref h5, .ref h6, .ref h7, .ref h8, .ref h9, .ref h10, .ref h11, .int 0, .int 0, .int 0]))] H := hP
        have hD : va_D A [(h13, .inl (dA 0, 24, .inl g6)), (h12, .inl (dA 0, 24, .inl (upd (fun _ => 0) 0 p0))), (h2, .inr (5, [.ref h12, .ref h13, .ref h14, .int 0, .int 0, .int 1, .int 0, .int 0, .int 0, .int 0, .int 0, .int 0])), (h0, .inr (15, [.ref h1, .ref h2, .ref h3, .ref h4, .ref h5, .ref h6, .ref h7, .ref h8, .ref h9, .ref h10, .ref h11, .int 0, .int 0, .int 0]))] := hD
        refine lv_aload_n hx hb dX11_type_61 rfl (lv_at hl 0 rfl) ?_
        refine va_get (D := D) (ci := 15) (v := .ref h2) (C := RX11) (T := TX11) (N := 14) hx hb hgw in_X11 hown hK hP 3 rfl rfl 1 (by decide) (hgw _ m_3_159) (fun _ h9 => h9) rfl dX11_type_62 ?_
        refine va_get (D := D) (ci := 5) (v := .int 1) (C := RX1) (T := TX1) (N := 12) hx hb hgw in_X1 hown hK hP 2 rfl rfl 5 (by decide) (hgw _ m_2_3) (fun _ h9 => h9) rfl dX11_type_65 ?_
        have hP9 := hP.sub (ws' := []) [] rfl
        have hD9 := hD.sub (ws' := []) [] (by decide) rfl
        exact vx_ret (kq_iret (v := 1) hx hb hr hlocks hS rfl (Or.inr (Or.inl ⟨c_1, c_2, c_7, c_8, c_9, c_10, c_11, c_12, c_13, c_14, rfl, rfl⟩)) hP9 hD9 (Nat.le_of_ble_eq_true rfl) (Nat.le_of_ble_eq_true rfl) dX11_type_68)
      · skip
        refine W.eq (g2 := F0 m 57 ls []) rfl ?_
        have hP : va_P D vwCl [(h0, .inr (15, [.ref h1, .ref h2, .ref h3, .ref h4, .ref h5, .ref h6, .ref h7, .ref h8, .ref h9, .ref h10, .ref h11, .int 0, .int 0, .int 0])), (h13, .inl (dA 0, 24, .inl (upd g15 0 p0))), (h12, .inl (dA 0, 24, .inl (upd (fun _ => 0) 0 p0))), (h2, .inr (5, [.ref h12, .ref h13, .ref h14, .int 1, .int p0, .int 1, .int (-1), .int 0, .int 0, .int p0, .int 0, .int 0]))] H := hP
        have hD : va_D A [(h0, .inr (15, [.ref h1, .ref h2, .ref h3, .ref h4, .ref h5, .ref h6, .ref h7, .ref h8, .ref h9, .ref h10, .ref h11, .int 0, .int 0, .int 0])), (h13, .inl (dA 0, 24, .inl (upd g15 0 p0))), (h12, .inl (dA 0, 24, .inl (upd (fun _ => 0) 0 p0))), (h2, .inr (5, [.ref h12, .ref h13, .ref h14, .int 1, .int p0, .int 1, .int (-1), .int 0, .int 0, .int p0, .int 0, .int 0]))] := hD
        refine lv_aload_n hx hb dX11_type_57 rfl (lv_at hl 0 rfl) ?_
        refine kq_V (q0 := 0) (As := []) (rest := []) (wr := [(h13, .inl (dA 0, 24, .inl (upd g15 0 p0))), (h12, .inl (dA 0, 24, .inl (upd (fun _ => 0) 0 p0))), (h2, .inr (5, [.ref h12, .ref h13, .ref h14, .int 1, .int p0, .int 1, .int (-1), .int 0, .int 0, .int p0, .int 0, .int 0]))]) hx hb hml hown hgw hK hG hA hP hD hS (c_X11_forgetRow l hfl D dA tE tC h0 h1 h2 h3 h4 h5 h6 h7 h8 h9 h10 h11) m_3_213 m_3_215 m_s_8 m_1_1 m_3_216 hd_X11_forgetRow rfl rfl ⟨(Nat.le_of_ble_eq_true rfl), (Nat.le_of_ble_eq_true rfl)⟩ [0] [1, 2, 3] rfl rfl rfl rfl (by decide) rfl rfl rfl hl.1 rfl (Nat.le_of_ble_eq_true rfl) dX11_type_58 ⟨(Nat.le_of_ble_eq_true rfl), (Nat.le_of_ble_eq_true rfl)⟩ (fun v w1 H locs hQ hP hD hS => ?_)
        obtain ⟨rfl, rfl⟩ := hQ
        refine W.eq (g2 := F0 m 61 ls []) rfl ?_
        have hP : va_P D vwCl [(h13, .inl (dA 0, 24, .inl (upd g15 0 p0))), (h12, .inl (dA 0, 24, .inl (upd (fun _ => 0) 0 p0))), (h2, .inr (5, [.ref h12, .ref h13, .ref h14, .int 1, .int p0, .int 1, .int (-1), .int 0, .int 0, .int p0, .int 0, .int 0])), (h0, .inr (15, [.ref h1, .ref h2, .ref h3, .ref h4, .ref h5, .ref h6, .ref h7, .ref h8, .ref h9, .ref h10, .ref h11, .int 0, .int 0, .int 0]))] H := hP
        have hD : va_D A [(h13, .inl (dA 0, 24, .inl (upd g15 0 p0))), (h12, .inl (dA 0, 24, .inl (upd (fun _ => 0) 0 p0))), (h2, .inr (5, [.ref h12, .ref h13, .ref h14, .int 1, .int p0, .int 1, .int (-1), .int 0, .int 0, .int p0, .int 0, .int 0])), (h0, .inr (15, [.ref h1, .ref h2, .ref h3, .ref h4, .ref h5, .ref h6, .ref h7, .ref h8, .ref h9, .ref h10, .ref h11, .int 0, .int 0, .int 0]))] := hD
        refine lv_aload_n hx hb dX11_type_61 rfl (lv_at hl 0 rfl) ?_
        refine va_get (D := D) (ci := 15) (v := .ref h2) (C := RX11) (T := TX11) (N := 14) hx hb hgw in_X11 hown hK hP 3 rfl rfl 1 (by decide) (hgw _ m_3_159) (fun _ h9 => h9) rfl dX11_type_62 ?_
        refine va_get (D := D) (ci := 5) (v := .int 1) (C := RX1) (T := TX1) (N := 12) hx hb hgw in_X1 hown hK hP 2 rfl rfl 5 (by decide) (hgw _ m_2_3) (fun _ h9 => h9) rfl dX11_type_65 ?_
        have hP9 := hP.sub (ws' := []) [] rfl
        have hD9 := hD.sub (ws' := []) [] (by decide) rfl
        exact vx_ret (kq_iret (v := 1) hx hb hr hlocks hS rfl (Or.inr (Or.inr (Or.inl ⟨c_1, c_2, c_16, c_17, c_18, rfl, rfl⟩))) hP9 hD9 (Nat.le_of_ble_eq_true rfl) (Nat.le_of_ble_eq_true rfl) dX11_type_68)
      · skip
        refine W.eq (g2 := F0 m 57 ls []) rfl ?_
        have hP : va_P D vwCl [(h0, .inr (15, [.ref h1, .ref h2, .ref h3, .ref h4, .ref h5, .ref h6, .ref h7, .ref h8, .ref h9, .ref h10, .ref h11, .int 0, .int 0, .int 0])), (h13, .inl (dA 0, 24, .inl g19)), (h12, .inl (dA 0, 24, .inl (upd (fun _ => 0) 0 p0))), (h2, .inr (5, [.ref h12, .ref h13, .ref h14, .int 0, .int 0, .int 1, .int 0, .int 0, .int 0, .int 0, .int 0, .int 0]))] H := hP
        have hD : va_D A [(h0, .inr (15, [.ref h1, .ref h2, .ref h3, .ref h4, .ref h5, .ref h6, .ref h7, .ref h8, .ref h9, .ref h10, .ref h11, .int 0, .int 0, .int 0])), (h13, .inl (dA 0, 24, .inl g19)), (h12, .inl (dA 0, 24, .inl (upd (fun _ => 0) 0 p0))), (h2, .inr (5, [.ref h12, .ref h13, .ref h14, .int 0, .int 0, .int 1, .int 0, .int 0, .int 0, .int 0, .int 0, .int 0]))] := hD
        refine lv_aload_n hx hb dX11_type_57 rfl (lv_at hl 0 rfl) ?_
        refine kq_V (q0 := 0) (As := []) (rest := []) (wr := [(h13, .inl (dA 0, 24, .inl g19)), (h12, .inl (dA 0, 24, .inl (upd (fun _ => 0) 0 p0))), (h2, .inr (5, [.ref h12, .ref h13, .ref h14, .int 0, .int 0, .int 1, .int 0, .int 0, .int 0, .int 0, .int 0, .int 0]))]) hx hb hml hown hgw hK hG hA hP hD hS (c_X11_forgetRow l hfl D dA tE tC h0 h1 h2 h3 h4 h5 h6 h7 h8 h9 h10 h11) m_3_213 m_3_215 m_s_8 m_1_1 m_3_216 hd_X11_forgetRow rfl rfl ⟨(Nat.le_of_ble_eq_true rfl), (Nat.le_of_ble_eq_true rfl)⟩ [0] [1, 2, 3] rfl rfl rfl rfl (by decide) rfl rfl rfl hl.1 rfl (Nat.le_of_ble_eq_true rfl) dX11_type_58 ⟨(Nat.le_of_ble_eq_true rfl), (Nat.le_of_ble_eq_true rfl)⟩ (fun v w1 H locs hQ hP hD hS => ?_)
        obtain ⟨rfl, rfl⟩ := hQ
        refine W.eq (g2 := F0 m 61 ls []) rfl ?_
        have hP : va_P D vwCl [(h13, .inl (dA 0, 24, .inl g19)), (h12, .inl (dA 0, 24, .inl (upd (fun _ => 0) 0 p0))), (h2, .inr (5, [.ref h12, .ref h13, .ref h14, .int 0, .int 0, .int 1, .int 0, .int 0, .int 0, .int 0, .int 0, .int 0])), (h0, .inr (15, [.ref h1, .ref h2, .ref h3, .ref h4, .ref h5, .ref h6, .ref h7, .ref h8, .ref h9, .ref h10, .ref h11, .int 0, .int 0, .int 0]))] H := hP
        have hD : va_D A [(h13, .inl (dA 0, 24, .inl g19)), (h12, .inl (dA 0, 24, .inl (upd (fun _ => 0) 0 p0))), (h2, .inr (5, [.ref h12, .ref h13, .ref h14, .int 0, .int 0, .int 1, .int 0, .int 0, .int 0, .int 0, .int 0, .int 0])), (h0, .inr (15, [.ref h1, .ref h2, .ref h3, .ref h4, .ref h5, .ref h6, .ref h7, .ref h8, .ref h9, .ref h10, .ref h11, .int 0, .int 0, .int 0]))] := hD
        refine lv_aload_n hx hb dX11_type_61 rfl (lv_at hl 0 rfl) ?_
        refine va_get (D := D) (ci := 15) (v := .ref h2) (C := RX11) (T := TX11) (N := 14) hx hb hgw in_X11 hown hK hP 3 rfl rfl 1 (by decide) (hgw _ m_3_159) (fun _ h9 => h9) rfl dX11_type_62 ?_
        refine va_get (D := D) (ci := 5) (v := .int 1) (C := RX1) (T := TX1) (N := 12) hx hb hgw in_X1 hown hK hP 2 rfl rfl 5 (by decide) (hgw _ m_2_3) (fun _ h9 => h9) rfl dX11_type_65 ?_
        have hP9 := hP.sub (ws' := []) [] rfl
        have hD9 := hD.sub (ws' := []) [] (by decide) rfl
        exact vx_ret (kq_iret (v := 1) hx hb hr hlocks hS rfl (Or.inr (Or.inr (Or.inr (Or.inl ⟨c_1, c_2, c_20, c_21, c_22, c_23, c_24, rfl, rfl⟩)))) hP9 hD9 (Nat.le_of_ble_eq_true rfl) (Nat.le_of_ble_eq_true rfl) dX11_type_68)
      · skip
        refine W.eq (g2 := F0 m 57 ls []) rfl ?_
        have hP : va_P D vwCl [(h0, .inr (15, [.ref h1, .ref h2, .ref h3, .ref h4, .ref h5, .ref h6, .ref h7, .ref h8, .ref h9, .ref h10, .ref h11, .int 0, .int 0, .int 0])), (h13, .inl (dA 0, 24, .inl g25)), (h12, .inl (dA 0, 24, .inl (upd (fun _ => 0) 0 p0))), (h2, .inr (5, [.ref h12, .ref h13, .ref h14, .int 0, .int 0, .int 1, .int 0, .int 0, .int 0, .int 0, .int 0, .int 0]))] H := hP
        have hD : va_D A [(h0, .inr (15, [.ref h1, .ref h2, .ref h3, .ref h4, .ref h5, .ref h6, .ref h7, .ref h8, .ref h9, .ref h10, .ref h11, .int 0, .int 0, .int 0])), (h13, .inl (dA 0, 24, .inl g25)), (h12, .inl (dA 0, 24, .inl (upd (fun _ => 0) 0 p0))), (h2, .inr (5, [.ref h12, .ref h13, .ref h14, .int 0, .int 0, .int 1, .int 0, .int 0, .int 0, .int 0, .int 0, .int 0]))] := hD
        refine lv_aload_n hx hb dX11_type_57 rfl (lv_at hl 0 rfl) ?_
        refine kq_V (q0 := 0) (As := []) (rest := []) (wr := [(h13, .inl (dA 0, 24, .inl g25)), (h12, .inl (dA 0, 24, .inl (upd (fun _ => 0) 0 p0))), (h2, .inr (5, [.ref h12, .ref h13, .ref h14, .int 0, .int 0, .int 1, .int 0, .int 0, .int 0, .int 0, .int 0, .int 0]))]) hx hb hml hown hgw hK hG hA hP hD hS (c_X11_forgetRow l hfl D dA tE tC h0 h1 h2 h3 h4 h5 h6 h7 h8 h9 h10 h11) m_3_213 m_3_215 m_s_8 m_1_1 m_3_216 hd_X11_forgetRow rfl rfl ⟨(Nat.le_of_ble_eq_true rfl), (Nat.le_of_ble_eq_true rfl)⟩ [0] [1, 2, 3] rfl rfl rfl rfl (by decide) rfl rfl rfl hl.1 rfl (Nat.le_of_ble_eq_true rfl) dX11_type_58 ⟨(Nat.le_of_ble_eq_true rfl), (Nat.le_of_ble_eq_true rfl)⟩ (fun v w1 H locs hQ hP hD hS => ?_)
        obtain ⟨rfl, rfl⟩ := hQ
        refine W.eq (g2 := F0 m 61 ls []) rfl ?_
        have hP : va_P D vwCl [(h13, .inl (dA 0, 24, .inl g25)), (h12, .inl (dA 0, 24, .inl (upd (fun _ => 0) 0 p0))), (h2, .inr (5, [.ref h12, .ref h13, .ref h14, .int 0, .int 0, .int 1, .int 0, .int 0, .int 0, .int 0, .int 0, .int 0])), (h0, .inr (15, [.ref h1, .ref h2, .ref h3, .ref h4, .ref h5, .ref h6, .ref h7, .ref h8, .ref h9, .ref h10, .ref h11, .int 0, .int 0, .int 0]))] H := hP
        have hD : va_D A [(h13, .inl (dA 0, 24, .inl g25)), (h12, .inl (dA 0, 24, .inl (upd (fun _ => 0) 0 p0))), (h2, .inr (5, [.ref h12, .ref h13, .ref h14, .int 0, .int 0, .int 1, .int 0, .int 0, .int 0, .int 0, .int 0, .int 0])), (h0, .inr (15, [.ref h1, .ref h2, .ref h3, .ref h4, .ref h5, .ref h6, .ref h7, .ref h8, .ref h9, .ref h10, .ref h11, .int 0, .int 0, .int 0]))] := hD
        refine lv_aload_n hx hb dX11_type_61 rfl (lv_at hl 0 rfl) ?_
        refine va_get (D := D) (ci := 15) (v := .ref h2) (C := RX11) (T := TX11) (N := 14) hx hb hgw in_X11 hown hK hP 3 rfl rfl 1 (by decide) (hgw _ m_3_159) (fun _ h9 => h9) rfl dX11_type_62 ?_
        refine va_get (D := D) (ci := 5) (v := .int 1) (C := RX1) (T := TX1) (N := 12) hx hb hgw in_X1 hown hK hP 2 rfl rfl 5 (by decide) (hgw _ m_2_3) (fun _ h9 => h9) rfl dX11_type_65 ?_
        have hP9 := hP.sub (ws' := []) [] rfl
        have hD9 := hD.sub (ws' := []) [] (by decide) rfl
        exact vx_ret (kq_iret (v := 1) hx hb hr hlocks hS rfl (Or.inr (Or.inr (Or.inr (Or.inr (Or.inl ⟨c_1, c_2, c_26, c_27, c_28, c_29, c_30, c_31, rfl, rfl⟩))))) hP9 hD9 (Nat.le_of_ble_eq_true rfl) (Nat.le_of_ble_eq_true rfl) dX11_type_68)
      · skip
        refine W.eq (g2 := F0 m 57 ls []) rfl ?_
        have hP : va_P D vwCl [(h0, .inr (15, [.ref h1, .ref h2, .ref h3, .ref h4, .ref h5, .ref h6, .ref h7, .ref h8, .ref h9, .ref h10, .ref h11, .int 0, .int 0, .int 0])), (h13, .inl (dA 0, 24, .inl g32)), (h12, .inl (dA 0, 24, .inl (upd (fun _ => 0) 0 p0))), (h2, .inr (5, [.ref h12, .ref h13, .ref h14, .int 0, .int 0, .int 1, .int 0, .int 0, .int 0, .int 0, .int 0, .int 0]))] H := hP
        have hD : va_D A [(h0, .inr (15, [.ref h1, .ref h2, .ref h3, .ref h4, .ref h5, .ref h6, .ref h7, .ref h8, .ref h9, .ref h10, .ref h11, .int 0, .int 0, .int 0])), (h13, .inl (dA 0, 24, .inl g32)), (h12, .inl (dA 0, 24, .inl (upd (fun _ => 0) 0 p0))), (h2, .inr (5, [.ref h12, .ref h13, .ref h14, .int 0, .int 0, .int 1, .int 0, .int 0, .int 0, .int 0, .int 0, .int 0]))] := hD
        refine lv_aload_n hx hb dX11_type_57 rfl (lv_at hl 0 rfl) ?_
        refine kq_V (q0 := 0) (As := []) (rest := []) (wr := [(h13, .inl (dA 0, 24, .inl g32)), (h12, .inl (dA 0, 24, .inl (upd (fun _ => 0) 0 p0))), (h2, .inr (5, [.ref h12, .ref h13, .ref h14, .int 0, .int 0, .int 1, .int 0, .int 0, .int 0, .int 0, .int 0, .int 0]))]) hx hb hml hown hgw hK hG hA hP hD hS (c_X11_forgetRow l hfl D dA tE tC h0 h1 h2 h3 h4 h5 h6 h7 h8 h9 h10 h11) m_3_213 m_3_215 m_s_8 m_1_1 m_3_216 hd_X11_forgetRow rfl rfl ⟨(Nat.le_of_ble_eq_true rfl), (Nat.le_of_ble_eq_true rfl)⟩ [0] [1, 2, 3] rfl rfl rfl rfl (by decide) rfl rfl rfl hl.1 rfl (Nat.le_of_ble_eq_true rfl) dX11_type_58 ⟨(Nat.le_of_ble_eq_true rfl), (Nat.le_of_ble_eq_true rfl)⟩ (fun v w1 H locs hQ hP hD hS => ?_)
        obtain ⟨rfl, rfl⟩ := hQ
        refine W.eq (g2 := F0 m 61 ls []) rfl ?_
        have hP : va_P D vwCl [(h13, .inl (dA 0, 24, .inl g32)), (h12, .inl (dA 0, 24, .inl (upd (fun _ => 0) 0 p0))), (h2, .inr (5, [.ref h12, .ref h13, .ref h14, .int 0, .int 0, .int 1, .int 0, .int 0, .int 0, .int 0, .int 0, .int 0])), (h0, .inr (15, [.ref h1, .ref h2, .ref h3, .ref h4, .ref h5, .ref h6, .ref h7, .ref h8, .ref h9, .ref h10, .ref h11, .int 0, .int 0, .int 0]))] H := hP
        have hD : va_D A [(h13, .inl (dA 0, 24, .inl g32)), (h12, .inl (dA 0, 24, .inl (upd (fun _ => 0) 0 p0))), (h2, .inr (5, [.ref h12, .ref h13, .ref h14, .int 0, .int 0, .int 1, .int 0, .int 0, .int 0, .int 0, .int 0, .int 0])), (h0, .inr (15, [.ref h1, .ref h2, .ref h3, .ref h4, .ref h5, .ref h6, .ref h7, .ref h8, .ref h9, .ref h10, .ref h11, .int 0, .int 0, .int 0]))] := hD
        refine lv_aload_n hx hb dX11_type_61 rfl (lv_at hl 0 rfl) ?_
        refine va_get (D := D) (ci := 15) (v := .ref h2) (C := RX11) (T := TX11) (N := 14) hx hb hgw in_X11 hown hK hP 3 rfl rfl 1 (by decide) (hgw _ m_3_159) (fun _ h9 => h9) rfl dX11_type_62 ?_
        refine va_get (D := D) (ci := 5) (v := .int 1) (C := RX1) (T := TX1) (N := 12) hx hb hgw in_X1 hown hK hP 2 rfl rfl 5 (by decide) (hgw _ m_2_3) (fun _ h9 => h9) rfl dX11_type_65 ?_
        have hP9 := hP.sub (ws' := []) [] rfl
        have hD9 := hD.sub (ws' := []) [] (by decide) rfl
        exact vx_ret (kq_iret (v := 1) hx hb hr hlocks hS rfl (Or.inr (Or.inr (Or.inr (Or.inr (Or.inr (Or.inl ⟨c_1, c_2, c_33, c_34, c_35, c_36, c_37, c_38, c_39, rfl, rfl⟩)))))) hP9 hD9 (Nat.le_of_ble_eq_true rfl) (Nat.le_of_ble_eq_true rfl) dX11_type_68)
      · skip
        refine W.eq (g2 := F0 m 57 ls []) rfl ?_
        have hP : va_P D vwCl [(h0, .inr (15, [.ref h1, .ref h2, .ref h3, .ref h4, .ref h5, .ref h6, .ref h7, .ref h8, .ref h9, .ref h10, .ref h11, .int 0, .int 0, .int 0])), (h13, .inl (dA 0, 24, .inl g40)), (h12, .inl (dA 0, 24, .inl (upd (fun _ => 0) 0 p0))), (h2, .inr (5, [.ref h12, .ref h13, .ref h14, .int 0, .int 0, .int 1, .int 0, .int 0, .int 0, .int 0, .int 0, .int 0]))] H := hP
        have hD : va_D A [(h0, .inr (15, [.ref h1, .ref h2, .ref h3, .ref h4, .ref h5, .ref h6, .ref h7, .ref h8, .ref h9, .ref h10, .ref h11, .int 0, .int 0, .int 0])), (h13, .inl (dA 0, 24, .inl g40)), (h12, .inl (dA 0, 24, .inl (upd (fun _ => 0) 0 p0))), (h2, .inr (5, [.ref h12, .ref h13, .ref h14, .int 0, .int 0, .int 1, .int 0, .int 0, .int 0, .int 0, .int 0, .int 0]))] := hD
        refine lv_aload_n hx hb dX11_type_57 rfl (lv_at hl 0 rfl) ?_
        refine kq_V (q0 := 0) (As := []) (rest := []) (wr := [(h13, .inl (dA 0, 24, .inl g40)), (h12, .inl (dA 0, 24, .inl (upd (fun _ => 0) 0 p0))), (h2, .inr (5, [.ref h12, .ref h13, .ref h14, .int 0, .int 0, .int 1, .int 0, .int 0, .int 0, .int 0, .int 0, .int 0]))]) hx hb hml hown hgw hK hG hA hP hD hS (c_X11_forgetRow l hfl D dA tE tC h0 h1 h2 h3 h4 h5 h6 h7 h8 h9 h10 h11) m_3_213 m_3_215 m_s_8 m_1_1 m_3_216 hd_X11_forgetRow rfl rfl ⟨(Nat.le_of_ble_eq_true rfl), (Nat.le_of_ble_eq_true rfl)⟩ [0] [1, 2, 3] rfl rfl rfl rfl (by decide) rfl rfl rfl hl.1 rfl (Nat.le_of_ble_eq_true rfl) dX11_type_58 ⟨(Nat.le_of_ble_eq_true rfl), (Nat.le_of_ble_eq_true rfl)⟩ (fun v w1 H locs hQ hP hD hS => ?_)
        obtain ⟨rfl, rfl⟩ := hQ
        refine W.eq (g2 := F0 m 61 ls []) rfl ?_
        have hP : va_P D vwCl [(h13, .inl (dA 0, 24, .inl g40)), (h12, .inl (dA 0, 24, .inl (upd (fun _ => 0) 0 p0))), (h2, .inr (5, [.ref h12, .ref h13, .ref h14, .int 0, .int 0, .int 1, .int 0, .int 0, .int 0, .int 0, .int 0, .int 0])), (h0, .inr (15, [.ref h1, .ref h2, .ref h3, .ref h4, .ref h5, .ref h6, .ref h7, .ref h8, .ref h9, .ref h10, .ref h11, .int 0, .int 0, .int 0]))] H := hP
        have hD : va_D A [(h13, .inl (dA 0, 24, .inl g40)), (h12, .inl (dA 0, 24, .inl (upd (fun _ => 0) 0 p0))), (h2, .inr (5, [.ref h12, .ref h13, .ref h14, .int 0, .int 0, .int 1, .int 0, .int 0, .int 0, .int 0, .int 0, .int 0])), (h0, .inr (15, [.ref h1, .ref h2, .ref h3, .ref h4, .ref h5, .ref h6, .ref h7, .ref h8, .ref h9, .ref h10, .ref h11, .int 0, .int 0, .int 0]))] := hD
        refine lv_aload_n hx hb dX11_type_61 rfl (lv_at hl 0 rfl) ?_
        refine va_get (D := D) (ci := 15) (v := .ref h2) (C := RX11) (T := TX11) (N := 14) hx hb hgw in_X11 hown hK hP 3 rfl rfl 1 (by decide) (hgw _ m_3_159) (fun _ h9 => h9) rfl dX11_type_62 ?_
        refine va_get (D := D) (ci := 5) (v := .int 1) (C := RX1) (T := TX1) (N := 12) hx hb hgw in_X1 hown hK hP 2 rfl rfl 5 (by decide) (hgw _ m_2_3) (fun _ h9 => h9) rfl dX11_type_65 ?_
        have hP9 := hP.sub (ws' := []) [] rfl
        have hD9 := hD.sub (ws' := []) [] (by decide) rfl
        exact vx_ret (kq_iret (v := 1) hx hb hr hlocks hS rfl (Or.inr (Or.inr (Or.inr (Or.inr (Or.inr (Or.inr (Or.inl ⟨c_1, c_2, c_41, c_42, c_43, c_44, c_45, c_46, c_47, c_48, rfl, rfl⟩))))))) hP9 hD9 (Nat.le_of_ble_eq_true rfl) (Nat.le_of_ble_eq_true rfl) dX11_type_68)
      · skip
        refine W.eq (g2 := F0 m 57 ls []) rfl ?_
        have hP : va_P D vwCl [(h0, .inr (15, [.ref h1, .ref h2, .ref h3, .ref h4, .ref h5, .ref h6, .ref h7, .ref h8, .ref h9, .ref h10, .ref h11, .int 0, .int 0, .int 0])), (h13, .inl (dA 0, 24, .inl g49)), (h12, .inl (dA 0, 24, .inl (upd (fun _ => 0) 0 p0))), (h2, .inr (5, [.ref h12, .ref h13, .ref h14, .int 0, .int 0, .int 1, .int 0, .int 0, .int 0, .int 0, .int 0, .int 0]))] H := hP
        have hD : va_D A [(h0, .inr (15, [.ref h1, .ref h2, .ref h3, .ref h4, .ref h5, .ref h6, .ref h7, .ref h8, .ref h9, .ref h10, .ref h11, .int 0, .int 0, .int 0])), (h13, .inl (dA 0, 24, .inl g49)), (h12, .inl (dA 0, 24, .inl (upd (fun _ => 0) 0 p0))), (h2, .inr (5, [.ref h12, .ref h13, .ref h14, .int 0, .int 0, .int 1, .int 0, .int 0, .int 0, .int 0, .int 0, .int 0]))] := hD
        refine lv_aload_n hx hb dX11_type_57 rfl (lv_at hl 0 rfl) ?_
        refine kq_V (q0 := 0) (As := []) (rest := []) (wr := [(h13, .inl (dA 0, 24, .inl g49)), (h12, .inl (dA 0, 24, .inl (upd (fun _ => 0) 0 p0))), (h2, .inr (5, [.ref h12, .ref h13, .ref h14, .int 0, .int 0, .int 1, .int 0, .int 0, .int 0, .int 0, .int 0, .int 0]))]) hx hb hml hown hgw hK hG hA hP hD hS (c_X11_forgetRow l hfl D dA tE tC h0 h1 h2 h3 h4 h5 h6 h7 h8 h9 h10 h11) m_3_213 m_3_215 m_s_8 m_1_1 m_3_216 hd_X11_forgetRow rfl rfl ⟨(Nat.le_of_ble_eq_true rfl), (Nat.le_of_ble_eq_true rfl)⟩ [0] [1, 2, 3] rfl rfl rfl rfl (by decide) rfl rfl rfl hl.1 rfl (Nat.le_of_ble_eq_true rfl) dX11_type_58 ⟨(Nat.le_of_ble_eq_true rfl), (Nat.le_of_ble_eq_true rfl)⟩ (fun v w1 H locs hQ hP hD hS => ?_)
        obtain ⟨rfl, rfl⟩ := hQ
        refine W.eq (g2 := F0 m 61 ls []) rfl ?_
        have hP : va_P D vwCl [(h13, .inl (dA 0, 24, .inl g49)), (h12, .inl (dA 0, 24, .inl (upd (fun _ => 0) 0 p0))), (h2, .inr (5, [.ref h12, .ref h13, .ref h14, .int 0, .int 0, .int 1, .int 0, .int 0, .int 0, .int 0, .int 0, .int 0])), (h0, .inr (15, [.ref h1, .ref h2, .ref h3, .ref h4, .ref h5, .ref h6, .ref h7, .ref h8, .ref h9, .ref h10, .ref h11, .int 0, .int 0, .int 0]))] H := hP
        have hD : va_D A [(h13, .inl (dA 0, 24, .inl g49)), (h12, .inl (dA 0, 24, .inl (upd (fun _ => 0) 0 p0))), (h2, .inr (5, [.ref h12, .ref h13, .ref h14, .int 0, .int 0, .int 1, .int 0, .int 0, .int 0, .int 0, .int 0, .int 0])), (h0, .inr (15, [.ref h1, .ref h2, .ref h3, .ref h4, .ref h5, .ref h6, .ref h7, .ref h8, .ref h9, .ref h10, .ref h11, .int 0, .int 0, .int 0]))] := hD
        refine lv_aload_n hx hb dX11_type_61 rfl (lv_at hl 0 rfl) ?_
        refine va_get (D := D) (ci := 15) (v := .ref h2) (C := RX11) (T := TX11) (N := 14) hx hb hgw in_X11 hown hK hP 3 rfl rfl 1 (by decide) (hgw _ m_3_159) (fun _ h9 => h9) rfl dX11_type_62 ?_
        refine va_get (D := D) (ci := 5) (v := .int 1) (C := RX1) (T := TX1) (N := 12) hx hb hgw in_X1 hown hK hP 2 rfl rfl 5 (by decide) (hgw _ m_2_3) (fun _ h9 => h9) rfl dX11_type_65 ?_
        have hP9 := hP.sub (ws' := []) [] rfl
        have hD9 := hD.sub (ws' := []) [] (by decide) rfl
        exact vx_ret (kq_iret (v := 1) hx hb hr hlocks hS rfl (Or.inr (Or.inr (Or.inr (Or.inr (Or.inr (Or.inr (Or.inr (Or.inl ⟨c_1, c_2, c_50, c_51, c_52, c_53, c_54, c_55, c_56, c_57, c_58, rfl, rfl⟩)))))))) hP9 hD9 (Nat.le_of_ble_eq_true rfl) (Nat.le_of_ble_eq_true rfl) dX11_type_68)
      · skip
        refine W.eq (g2 := F0 m 57 ls []) rfl ?_
        have hP : va_P D vwCl [(h0, .inr (15, [.ref h1, .ref h2, .ref h3, .ref h4, .ref h5, .ref h6, .ref h7, .ref h8, .ref h9, .ref h10, .ref h11, .int 0, .int 0, .int 0])), (h13, .inl (dA 0, 24, .inl g59)), (h12, .inl (dA 0, 24, .inl (upd (fun _ => 0) 0 p0))), (h2, .inr (5, [.ref h12, .ref h13, .ref h14, .int 0, .int 0, .int 1, .int 0, .int 0, .int 0, .int 0, .int 0, .int 0]))] H := hP
        have hD : va_D A [(h0, .inr (15, [.ref h1, .ref h2, .ref h3, .ref h4, .ref h5, .ref h6, .ref h7, .ref h8, .ref h9, .ref h10, .ref h11, .int 0, .int 0, .int 0])), (h13, .inl (dA 0, 24, .inl g59)), (h12, .inl (dA 0, 24, .inl (upd (fun _ => 0) 0 p0))), (h2, .inr (5, [.ref h12, .ref h13, .ref h14, .int 0, .int 0, .int 1, .int 0, .int 0, .int 0, .int 0, .int 0, .int 0]))] := hD
        refine lv_aload_n hx hb dX11_type_57 rfl (lv_at hl 0 rfl) ?_
        refine kq_V (q0 := 0) (As := []) (rest := []) (wr := [(h13, .inl (dA 0, 24, .inl g59)), (h12, .inl (dA 0, 24, .inl (upd (fun _ => 0) 0 p0))), (h2, .inr (5, [.ref h12, .ref h13, .ref h14, .int 0, .int 0, .int 1, .int 0, .int 0, .int 0, .int 0, .int 0, .int 0]))]) hx hb hml hown hgw hK hG hA hP hD hS (c_X11_forgetRow l hfl D dA tE tC h0 h1 h2 h3 h4 h5 h6 h7 h8 h9 h10 h11) m_3_213 m_3_215 m_s_8 m_1_1 m_3_216 hd_X11_forgetRow rfl rfl ⟨(Nat.le_of_ble_eq_true rfl), (Nat.le_of_ble_eq_true rfl)⟩ [0] [1, 2, 3] rfl rfl rfl rfl (by decide) rfl rfl rfl hl.1 rfl (Nat.le_of_ble_eq_true rfl) dX11_type_58 ⟨(Nat.le_of_ble_eq_true rfl), (Nat.le_of_ble_eq_true rfl)⟩ (fun v w1 H locs hQ hP hD hS => ?_)
        obtain ⟨rfl, rfl⟩ := hQ
        refine W.eq (g2 := F0 m 61 ls []) rfl ?_
        have hP : va_P D vwCl [(h13, .inl (dA 0, 24, .inl g59)), (h12, .inl (dA 0, 24, .inl (upd (fun _ => 0) 0 p0))), (h2, .inr (5, [.ref h12, .ref h13, .ref h14, .int 0, .int 0, .int 1, .int 0, .int 0, .int 0, .int 0, .int 0, .int 0])), (h0, .inr (15, [.ref h1, .ref h2, .ref h3, .ref h4, .ref h5, .ref h6, .ref h7, .ref h8, .ref h9, .ref h10, .ref h11, .int 0, .int 0, .int 0]))] H := hP
        have hD : va_D A [(h13, .inl (dA 0, 24, .inl g59)), (h12, .inl (dA 0, 24, .inl (upd (fun _ => 0) 0 p0))), (h2, .inr (5, [.ref h12, .ref h13, .ref h14, .int 0, .int 0, .int 1, .int 0, .int 0, .int 0, .int 0, .int 0, .int 0])), (h0, .inr (15, [.ref h1, .ref h2, .ref h3, .ref h4, .ref h5, .ref h6, .ref h7, .ref h8, .ref h9, .ref h10, .ref h11, .int 0, .int 0, .int 0]))] := hD
        refine lv_aload_n hx hb dX11_type_61 rfl (lv_at hl 0 rfl) ?_
        refine va_get (D := D) (ci := 15) (v := .ref h2) (C := RX11) (T := TX11) (N := 14) hx hb hgw in_X11 hown hK hP 3 rfl rfl 1 (by decide) (hgw _ m_3_159) (fun _ h9 => h9) rfl dX11_type_62 ?_
        refine va_get (D := D) (ci := 5) (v := .int 1) (C := RX1) (T := TX1) (N := 12) hx hb hgw in_X1 hown hK hP 2 rfl rfl 5 (by decide) (hgw _ m_2_3) (fun _ h9 => h9) rfl dX11_type_65 ?_
        have hP9 := hP.sub (ws' := []) [] rfl
        have hD9 := hD.sub (ws' := []) [] (by decide) rfl
        exact vx_ret (kq_iret (v := 1) hx hb hr hlocks hS rfl (Or.inr (Or.inr (Or.inr (Or.inr (Or.inr (Or.inr (Or.inr (Or.inr (Or.inl ⟨c_1, c_2, c_60, c_61, c_62, c_63, c_64, c_65, c_66, c_67, c_68, rfl, rfl⟩))))))))) hP9 hD9 (Nat.le_of_ble_eq_true rfl) (Nat.le_of_ble_eq_true rfl) dX11_type_68)
      · skip
        refine W.eq (g2 := F0 m 57 ls []) rfl ?_
        have hP : va_P D vwCl [(h0, .inr (15, [.ref h1, .ref h2, .ref h3, .ref h4, .ref h5, .ref h6, .ref h7, .ref h8, .ref h9, .ref h10, .ref h11, .int 0, .int 0, .int 0])), (h13, .inl (dA 0, 24, .inl g69)), (h12, .inl (dA 0, 24, .inl (upd (fun _ => 0) 0 p0))), (h2, .inr (5, [.ref h12, .ref h13, .ref h14, .int 1, .int 0, .int 1, .int 1, .int p0, .int 0, .int 0, .int 0, .int 0]))] H := hP
        have hD : va_D A [(h0, .inr (15, [.ref h1, .ref h2, .ref h3, .ref h4, .ref h5, .ref h6, .ref h7, .ref h8, .ref h9, .ref h10, .ref h11, .int 0, .int 0, .int 0])), (h13, .inl (dA 0, 24, .inl g69)), (h12, .inl (dA 0, 24, .inl (upd (fun _ => 0) 0 p0))), (h2, .inr (5, [.ref h12, .ref h13, .ref h14, .int 1, .int 0, .int 1, .int 1, .int p0, .int 0, .int 0, .int 0, .int 0]))] := hD
        refine lv_aload_n hx hb dX11_type_57 rfl (lv_at hl 0 rfl) ?_
        refine kq_V (q0 := 0) (As := []) (rest := []) (wr := [(h13, .inl (dA 0, 24, .inl g69)), (h12, .inl (dA 0, 24, .inl (upd (fun _ => 0) 0 p0))), (h2, .inr (5, [.ref h12, .ref h13, .ref h14, .int 1, .int 0, .int 1, .int 1, .int p0, .int 0, .int 0, .int 0, .int 0]))]) hx hb hml hown hgw hK hG hA hP hD hS (c_X11_forgetRow l hfl D dA tE tC h0 h1 h2 h3 h4 h5 h6 h7 h8 h9 h10 h11) m_3_213 m_3_215 m_s_8 m_1_1 m_3_216 hd_X11_forgetRow rfl rfl ⟨(Nat.le_of_ble_eq_true rfl), (Nat.le_of_ble_eq_true rfl)⟩ [0] [1, 2, 3] rfl rfl rfl rfl (by decide) rfl rfl rfl hl.1 rfl (Nat.le_of_ble_eq_true rfl) dX11_type_58 ⟨(Nat.le_of_ble_eq_true rfl), (Nat.le_of_ble_eq_true rfl)⟩ (fun v w1 H locs hQ hP hD hS => ?_)
        obtain ⟨rfl, rfl⟩ := hQ
        refine W.eq (g2 := F0 m 61 ls []) rfl ?_
        have hP : va_P D vwCl [(h13, .inl (dA 0, 24, .inl g69)), (h12, .inl (dA 0, 24, .inl (upd (fun _ => 0) 0 p0))), (h2, .inr (5, [.ref h12, .ref h13, .ref h14, .int 1, .int 0, .int 1, .int 1, .int p0, .int 0, .int 0, .int 0, .int 0])), (h0, .inr (15, [.ref h1, .ref h2, .ref h3, .ref h4, .ref h5, .ref h6, .ref h7, .ref h8, .ref h9, .ref h10, .ref h11, .int 0, .int 0, .int 0]))] H := hP
        have hD : va_D A [(h13, .inl (dA 0, 24, .inl g69)), (h12, .inl (dA 0, 24, .inl (upd (fun _ => 0) 0 p0))), (h2, .inr (5, [.ref h12, .ref h13, .ref h14, .int 1, .int 0, .int 1, .int 1, .int p0, .int 0, .int 0, .int 0, .int 0])), (h0, .inr (15, [.ref h1, .ref h2, .ref h3, .ref h4, .ref h5, .ref h6, .ref h7, .ref h8, .ref h9, .ref h10, .ref h11, .int 0, .int 0, .int 0]))] := hD
        refine lv_aload_n hx hb dX11_type_61 rfl (lv_at hl 0 rfl) ?_
        refine va_get (D := D) (ci := 15) (v := .ref h2) (C := RX11) (T := TX11) (N := 14) hx hb hgw in_X11 hown hK hP 3 rfl rfl 1 (by decide) (hgw _ m_3_159) (fun _ h9 => h9) rfl dX11_type_62 ?_
        refine va_get (D := D) (ci := 5) (v := .int 1) (C := RX1) (T := TX1) (N := 12) hx hb hgw in_X1 hown hK hP 2 rfl rfl 5 (by decide) (hgw _ m_2_3) (fun _ h9 => h9) rfl dX11_type_65 ?_
        have hP9 := hP.sub (ws' := []) [] rfl
        have hD9 := hD.sub (ws' := []) [] (by decide) rfl
        exact vx_ret (kq_iret (v := 1) hx hb hr hlocks hS rfl (Or.inr (Or.inr (Or.inr (Or.inr (Or.inr (Or.inr (Or.inr (Or.inr (Or.inr (Or.inl ⟨c_1, c_2, c_70, c_71, c_72, rfl, rfl⟩)))))))))) hP9 hD9 (Nat.le_of_ble_eq_true rfl) (Nat.le_of_ble_eq_true rfl) dX11_type_68)
      · skip
        refine W.eq (g2 := F0 m 57 ls []) rfl ?_
        have hP : va_P D vwCl [(h0, .inr (15, [.ref h1, .ref h2, .ref h3, .ref h4, .ref h5, .ref h6, .ref h7, .ref h8, .ref h9, .ref h10, .ref h11, .int 0, .int 0, .int 0])), (h13, .inl (dA 0, 24, .inl g73)), (h12, .inl (dA 0, 24, .inl (upd (fun _ => 0) 0 p0))), (h2, .inr (5, [.ref h12, .ref h13, .ref h14, .int 1, .int 0, .int 1, .int 1, .int p0, .int 0, .int 0, .int 0, .int 0]))] H := hP
        have hD : va_D A [(h0, .inr (15, [.ref h1, .ref h2, .ref h3, .ref h4, .ref h5, .ref h6, .ref h7, .ref h8, .ref h9, .ref h10, .ref h11, .int 0, .int 0, .int 0])), (h13, .inl (dA 0, 24, .inl g73)), (h12, .inl (dA 0, 24, .inl (upd (fun _ => 0) 0 p0))), (h2, .inr (5, [.ref h12, .ref h13, .ref h14, .int 1, .int 0, .int 1, .int 1, .int p0, .int 0, .int 0, .int 0, .int 0]))] := hD
        refine lv_aload_n hx hb dX11_type_57 rfl (lv_at hl 0 rfl) ?_
        refine kq_V (q0 := 0) (As := []) (rest := []) (wr := [(h13, .inl (dA 0, 24, .inl g73)), (h12, .inl (dA 0, 24, .inl (upd (fun _ => 0) 0 p0))), (h2, .inr (5, [.ref h12, .ref h13, .ref h14, .int 1, .int 0, .int 1, .int 1, .int p0, .int 0, .int 0, .int 0, .int 0]))]) hx hb hml hown hgw hK hG hA hP hD hS (c_X11_forgetRow l hfl D dA tE tC h0 h1 h2 h3 h4 h5 h6 h7 h8 h9 h10 h11) m_3_213 m_3_215 m_s_8 m_1_1 m_3_216 hd_X11_forgetRow rfl rfl ⟨(Nat.le_of_ble_eq_true rfl), (Nat.le_of_ble_eq_true rfl)⟩ [0] [1, 2, 3] rfl rfl rfl rfl (by decide) rfl rfl rfl hl.1 rfl (Nat.le_of_ble_eq_true rfl) dX11_type_58 ⟨(Nat.le_of_ble_eq_true rfl), (Nat.le_of_ble_eq_true rfl)⟩ (fun v w1 H locs hQ hP hD hS => ?_)
        obtain ⟨rfl, rfl⟩ := hQ
        refine W.eq (g2 := F0 m 61 ls []) rfl ?_
        have hP : va_P D vwCl [(h13, .inl (dA 0, 24, .inl g73)), (h12, .inl (dA 0, 24, .inl (upd (fun _ => 0) 0 p0))), (h2, .inr (5, [.ref h12, .ref h13, .ref h14, .int 1, .int 0, .int 1, .int 1, .int p0, .int 0, .int 0, .int 0, .int 0])), (h0, .inr (15, [.ref h1, .ref h2, .ref h3, .ref h4, .ref h5, .ref h6, .ref h7, .ref h8, .ref h9, .ref h10, .ref h11, .int 0, .int 0, .int 0]))] H := hP
        have hD : va_D A [(h13, .inl (dA 0, 24, .inl g73)), (h12, .inl (dA 0, 24, .inl (upd (fun _ => 0) 0 p0))), (h2, .inr (5, [.ref h12, .ref h13, .ref h14, .int 1, .int 0, .int 1, .int 1, .int p0, .int 0, .int 0, .int 0, .int 0])), (h0, .inr (15, [.ref h1, .ref h2, .ref h3, .ref h4, .ref h5, .ref h6, .ref h7, .ref h8, .ref h9, .ref h10, .ref h11, .int 0, .int 0, .int 0]))] := hD
        refine lv_aload_n hx hb dX11_type_61 rfl (lv_at hl 0 rfl) ?_
        refine va_get (D := D) (ci := 15) (v := .ref h2) (C := RX11) (T := TX11) (N := 14) hx hb hgw in_X11 hown hK hP 3 rfl rfl 1 (by decide) (hgw _ m_3_159) (fun _ h9 => h9) rfl dX11_type_62 ?_
        refine va_get (D := D) (ci := 5) (v := .int 1) (C := RX1) (T := TX1) (N := 12) hx hb hgw in_X1 hown hK hP 2 rfl rfl 5 (by decide) (hgw _ m_2_3) (fun _ h9 => h9) rfl dX11_type_65 ?_
        have hP9 := hP.sub (ws' := []) [] rfl
        have hD9 := hD.sub (ws' := []) [] (by decide) rfl
        exact vx_ret (kq_iret (v := 1) hx hb hr hlocks hS rfl (Or.inr (Or.inr (Or.inr (Or.inr (Or.inr (Or.inr (Or.inr (Or.inr (Or.inr (Or.inr (⟨c_1, c_2, c_74, c_75, c_76, rfl, rfl⟩))))))))))) hP9 hD9 (Nat.le_of_ble_eq_true rfl) (Nat.le_of_ble_eq_true rfl) dX11_type_68)
    · have c_2 := mt (kq_le (x := p0) (y := 99) (a := p0.toInt) (b := 99) (by rfl) (by decide +kernel)).mpr c_2
      exact kx_throw hx hb hfl hown hgw hG hS (hl.1.trans hml.symm) hxt hlocks m_5_25 m_1_23 n_s0 ta_X11_99 (by decide +kernel) (by decide +kernel) dX11_type_10 dX11_type_13 dX11_type_14 dX11_type_16 dX11_type_19 (Nat.le_of_ble_eq_true rfl) (Nat.le_of_ble_eq_true rfl) (Nat.le_of_ble_eq_true rfl) (Nat.le_of_ble_eq_true rfl) (Or.inr (⟨c_1, c_2, rfl⟩)) (Nat.le_of_ble_eq_true rfl) (Nat.le_of_ble_eq_true rfl)
