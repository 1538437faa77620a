set_option maxHeartbeats 4000000 in
set_option maxRecDepth 100000 in
theorem c_X18_isArms (l : Launch) (hfl : l.stackTraces = false) (D : va_G) (dA : Nat → ClassId) (tE tC : Nat) (h0 : Nat) (p0 : Int32) (h1 : Nat) (h2 : Nat) (h3 : Nat) (h4 : Nat) (h5 : Nat) (h6 : Nat) (h7 : Nat) (h8 : Nat) (h9 : Nat) (h10 : Nat) (h11 : Nat) (h12 : Nat) (h13 : Nat) (h14 : Nat) (h15 : Nat) (h16 : Nat) (h17 : Nat) (h18 : Nat) : Ct l D dA tE tC yX18_isArms (Cond.code yX18_isArms cX18_isArms 2 (some .boolean) :: gW) ({ frames := 1, cells := 0, slots := 0, locals := 22 } : Room) [.ref h0, .int p0] [(h0, .inr (22, [.int 0, .ref h1, .int 0, .ref h2, .ref h3, .ref h4, .int 0, .int 0, .int 0, .ref h5, .int 0, .ref h6, .int 0, .int 0, .ref h7, .ref h8, .ref h9, .ref h10, .ref h11, .ref h12, .int 0, .ref h13, .int 0, .ref h14, .ref h15, .ref h16, .ref h17, .ref h18])), (h3, .inr (3, [.int 0, .ref tE, .int 0]))] (fun v w1 => (p0.toInt < 0 ∧ v = some (.int 0) ∧ w1 = [(h0, .inr (22, [.int 0, .ref h1, .int 0, .ref h2, .ref h3, .ref h4, .int 0, .int 0, .int 0, .ref h5, .int 0, .ref h6, .int 0, .int 0, .ref h7, .ref h8, .ref h9, .ref h10, .ref h11, .ref h12, .int 0, .ref h13, .int 0, .ref h14, .ref h15, .ref h16, .ref h17, .ref h18])), (h3, .inr (3, [.int 0, .ref tE, .int 0]))]) ∨ (¬ p0.toInt < 0 ∧ v = some (.int 0) ∧ w1 = [(h0, .inr (22, [.int 0, .ref h1, .int 0, .ref h2, .ref h3, .ref h4, .int 0, .int 0, .int 0, .ref h5, .int 0, .ref h6, .int 0, .int 0, .ref h7, .ref h8, .ref h9, .ref h10, .ref h11, .ref h12, .int 0, .ref h13, .int 0, .ref h14, .ref h15, .ref h16, .ref h17, .ref h18])), (h3, .inr (3, [.int 0, .ref tE, .int 0]))])) 0 0 := by
  refine Ct_of (by decide) (Nat.le_of_ble_eq_true rfl) ?_
  intro p e s m below meth c hx hb hr hml hown hnm hlocks hgw hK A hG hA hP hD ls hl
  have hl : lv_has ls 2 [(0, .ref h0), (1, .int p0)] := hl
  have hS : va_S A s.heap s.heap [] := va_S.rf
  refine lv_iload_n hx hb dX18_isArms_0 rfl (lv_at hl 1 rfl) ?_
  refine lv_iconst (v := 0) hx hb dX18_isArms_1 (by decide) ?_
  refine lv_aload_n hx hb dX18_isArms_2 rfl (lv_at hl 0 rfl) ?_
  refine va_get (D := D) (ci := 22) (v := .ref h3) (C := RX18) (T := TX18) (N := 28) hx hb hgw in_X18 hown hK hP 0 rfl rfl 4 (by decide) (hgw _ m_10_1) (fun _ h9 => h9) rfl dX18_isArms_3 ?_
  refine kq_V (q0 := 0) (As := []) (rest := [.int 0, .int p0]) (wr := [(h0, .inr (22, [.int 0, .ref h1, .int 0, .ref h2, .ref h3, .ref h4, .int 0, .int 0, .int 0, .ref h5, .int 0, .ref h6, .int 0, .int 0, .ref h7, .ref h8, .ref h9, .ref h10, .ref h11, .ref h12, .int 0, .ref h13, .int 0, .ref h14, .ref h15, .ref h16, .ref h17, .ref h18]))]) hx hb hml hown hgw hK hG hA hP hD hS (c_Jx4a65c_size_8abf5 l hfl D dA tE tC h3) m_11_97 m_11_98 m_11_99 m_1_18 m_11_100 hd_Jx4a65c_size_8abf5 rfl rfl ⟨(Nat.le_of_ble_eq_true rfl), (Nat.le_of_ble_eq_true rfl)⟩ [1] [0] rfl rfl rfl rfl (by decide) rfl rfl rfl hl.1 rfl (Nat.le_of_ble_eq_true rfl) dX18_isArms_6 ⟨(Nat.le_of_ble_eq_true rfl), (Nat.le_of_ble_eq_true rfl)⟩ (fun v w1 H locs hQ hP hD hS => ?_)
  obtain ⟨rfl, rfl⟩ := hQ
  refine W.eq (g2 := F0 m 9 ls [.int 0, .int 0, .int p0]) rfl ?_
  have hP : va_P D vwCl [(h0, .inr (22, [.int 0, .ref h1, .int 0, .ref h2, .ref h3, .ref h4, .int 0, .int 0, .int 0, .ref h5, .int 0, .ref h6, .int 0, .int 0, .ref h7, .ref h8, .ref h9, .ref h10, .ref h11, .ref h12, .int 0, .ref h13, .int 0, .ref h14, .ref h15, .ref h16, .ref h17, .ref h18])), (h3, .inr (3, [.int 0, .ref tE, .int 0]))] H := hP
  have hD : va_D A [(h0, .inr (22, [.int 0, .ref h1, .int 0, .ref h2, .ref h3, .ref h4, .int 0, .int 0, .int 0, .ref h5, .int 0, .ref h6, .int 0, .int 0, .ref h7, .ref h8, .ref h9, .ref h10, .ref h11, .ref h12, .int 0, .ref h13, .int 0, .ref h14, .ref h15, .ref h16, .ref h17, .ref h18])), (h3, .inr (3, [.int 0, .ref tE, .int 0]))] := hD
  refine lv_iconst (v := 1) hx hb dX18_isArms_9 (by decide) ?_
  refine lv_isub hx hb dX18_isArms_10 ?_
  refine kq_topi (y := (-1)) (by decide +kernel) ?_
  refine kq_S (As := [.int p0, .int 0, .int (-1)]) (rest := []) (wr := [(h0, .inr (22, [.int 0, .ref h1, .int 0, .ref h2, .ref h3, .ref h4, .int 0, .int 0, .int 0, .ref h5, .int 0, .ref h6, .int 0, .int 0, .ref h7, .ref h8, .ref h9, .ref h10, .ref h11, .ref h12, .int 0, .ref h13, .int 0, .ref h14, .ref h15, .ref h16, .ref h17, .ref h18])), (h3, .inr (3, [.int 0, .ref tE, .int 0]))]) hx hb hml hown hgw hK hG hA hP hD hS (c_X18_in_8 l hfl D dA tE tC p0) m_10_90 m_10_91 m_1_15 m_10_92 hd_X18_in rfl rfl ⟨(Nat.le_of_ble_eq_true rfl), (Nat.le_of_ble_eq_true rfl)⟩ [] [0, 1] rfl rfl rfl rfl (by decide) hl.1 rfl (Nat.le_of_ble_eq_true rfl) dX18_isArms_11 ⟨(Nat.le_of_ble_eq_true rfl), (Nat.le_of_ble_eq_true rfl)⟩ (fun v w1 H locs hQ hP hD hS => ?_)
  rcases hQ with ⟨c_1, rfl, rfl⟩ | ⟨c_2, rfl, rfl⟩
  · skip
    refine W.eq (g2 := F0 m 14 ls [.int 0]) rfl ?_
    have hP : va_P D vwCl [(h0, .inr (22, [.int 0, .ref h1, .int 0, .ref h2, .ref h3, .ref h4, .int 0, .int 0, .int 0, .ref h5, .int 0, .ref h6, .int 0, .int 0, .ref h7, .ref h8, .ref h9, .ref h10, .ref h11, .ref h12, .int 0, .ref h13, .int 0, .ref h14, .ref h15, .ref h16, .ref h17, .ref h18])), (h3, .inr (3, [.int 0, .ref tE, .int 0]))] H := hP
    have hD : va_D A [(h0, .inr (22, [.int 0, .ref h1, .int 0, .ref h2, .ref h3, .ref h4, .int 0, .int 0, .int 0, .ref h5, .int 0, .ref h6, .int 0, .int 0, .ref h7, .ref h8, .ref h9, .ref h10, .ref h11, .ref h12, .int 0, .ref h13, .int 0, .ref h14, .ref h15, .ref h16, .ref h17, .ref h18])), (h3, .inr (3, [.int 0, .ref tE, .int 0]))] := hD
    have hP9 := hP.sub (ws' := [(h0, .inr (22, [.int 0, .ref h1, .int 0, .ref h2, .ref h3, .ref h4, .int 0, .int 0, .int 0, .ref h5, .int 0, .ref h6, .int 0, .int 0, .ref h7, .ref h8, .ref h9, .ref h10, .ref h11, .ref h12, .int 0, .ref h13, .int 0, .ref h14, .ref h15, .ref h16, .ref h17, .ref h18])), (h3, .inr (3, [.int 0, .ref tE, .int 0]))]) [0, 1] rfl
    have hD9 := hD.sub (ws' := [(h0, .inr (22, [.int 0, .ref h1, .int 0, .ref h2, .ref h3, .ref h4, .int 0, .int 0, .int 0, .ref h5, .int 0, .ref h6, .int 0, .int 0, .ref h7, .ref h8, .ref h9, .ref h10, .ref h11, .ref h12, .int 0, .ref h13, .int 0, .ref h14, .ref h15, .ref h16, .ref h17, .ref h18])), (h3, .inr (3, [.int 0, .ref tE, .int 0]))]) [0, 1] (by decide) rfl
    exact (kq_iret (v := 0) hx hb hr hlocks hS rfl (Or.inl ⟨c_1, rfl, rfl⟩) hP9 hD9 (Nat.le_of_ble_eq_true rfl) (Nat.le_of_ble_eq_true rfl) dX18_isArms_14)
  · skip
    refine W.eq (g2 := F0 m 14 ls [.int 0]) rfl ?_
    have hP : va_P D vwCl [(h0, .inr (22, [.int 0, .ref h1, .int 0, .ref h2, .ref h3, .ref h4, .int 0, .int 0, .int 0, .ref h5, .int 0, .ref h6, .int 0, .int 0, .ref h7, .ref h8, .ref h9, .ref h10, .ref h11, .ref h12, .int 0, .ref h13, .int 0, .ref h14, .ref h15, .ref h16, .ref h17, .ref h18])), (h3, .inr (3, [.int 0, .ref tE, .int 0]))] H := hP
    have hD : va_D A [(h0, .inr (22, [.int 0, .ref h1, .int 0, .ref h2, .ref h3, .ref h4, .int 0, .int 0, .int 0, .ref h5, .int 0, .ref h6, .int 0, .int 0, .ref h7, .ref h8, .ref h9, .ref h10, .ref h11, .ref h12, .int 0, .ref h13, .int 0, .ref h14, .ref h15, .ref h16, .ref h17, .ref h18])), (h3, .inr (3, [.int 0, .ref tE, .int 0]))] := hD
    have hP9 := hP.sub (ws' := [(h0, .inr (22, [.int 0, .ref h1, .int 0, .ref h2, .ref h3, .ref h4, .int 0, .int 0, .int 0, .ref h5, .int 0, .ref h6, .int 0, .int 0, .ref h7, .ref h8, .ref h9, .ref h10, .ref h11, .ref h12, .int 0, .ref h13, .int 0, .ref h14, .ref h15, .ref h16, .ref h17, .ref h18])), (h3, .inr (3, [.int 0, .ref tE, .int 0]))]) [0, 1] rfl
    have hD9 := hD.sub (ws' := [(h0, .inr (22, [.int 0, .ref h1, .int 0, .ref h2, .ref h3, .ref h4, .int 0, .int 0, .int 0, .ref h5, .int 0, .ref h6, .int 0, .int 0, .ref h7, .ref h8, .ref h9, .ref h10, .ref h11, .ref h12, .int 0, .ref h13, .int 0, .ref h14, .ref h15, .ref h16, .ref h17, .ref h18])), (h3, .inr (3, [.int 0, .ref tE, .int 0]))]) [0, 1] (by decide) rfl
    exact (kq_iret (v := 0) hx hb hr hlocks hS rfl (Or.inr (⟨c_2, rfl, rfl⟩)) hP9 hD9 (Nat.le_of_ble_eq_true rfl) (Nat.le_of_ble_eq_true rfl) dX18_isArms_14)
set_option maxHeartbeats 4000000 in
set_option maxRecDepth 100000 in
theorem c_X18_failsArms (l : Launch) (hfl : l.stackTraces = false) (D : va_G) (dA : Nat → ClassId) (tE tC : Nat) (h0 : Nat) (p0 : Int32) (h1 : Nat) (h2 : Nat) (h3 : Nat) (h4 : Nat) (h5 : Nat) (h6 : Nat) (h7 : Nat) (h8 : Nat) (h9 : Nat) (h10 : Nat) (h11 : Nat) (h12 : Nat) (h13 : Nat) (h14 : Nat) (h15 : Nat) (h16 : Nat) (h17 : Nat) (h18 : Nat) : Ct l D dA tE tC yX18_failsArms (Cond.code yX18_failsArms cX18_failsArms 2 (some .boolean) :: gW) ({ frames := 2, cells := 0, slots := 0, locals := 43 } : Room) [.ref h0, .int p0] [(h0, .inr (22, [.int 0, .ref h1, .int 0, .ref h2, .ref h3, .ref h4, .int 0, .int 0, .int 0, .ref h5, .int 0, .ref h6, .int 0, .int 0, .ref h7, .ref h8, .ref h9, .ref h10, .ref h11, .ref h12, .int 0, .ref h13, .int 0, .ref h14, .ref h15, .ref h16, .ref h17, .ref h18])), (h3, .inr (3, [.int 0, .ref tE, .int 0]))] (fun v w1 => (p0.toInt < 0 ∧ v = some (.int 1) ∧ w1 = [(h3, .inr (3, [.int 0, .ref tE, .int 0])), (h0, .inr (22, [.int 1, .ref h1, .int 0, .ref h2, .ref h3, .ref h4, .int 0, .int 0, .int 0, .ref h5, .int 0, .ref h6, .int 0, .int 0, .ref h7, .ref h8, .ref h9, .ref h10, .ref h11, .ref h12, .int 0, .ref h13, .int 0, .ref h14, .ref h15, .ref h16, .ref h17, .ref h18]))]) ∨ (¬ p0.toInt < 0 ∧ v = some (.int 1) ∧ w1 = [(h3, .inr (3, [.int 0, .ref tE, .int 0])), (h0, .inr (22, [.int 1, .ref h1, .int 0, .ref h2, .ref h3, .ref h4, .int 0, .int 0, .int 0, .ref h5, .int 0, .ref h6, .int 0, .int 0, .ref h7, .ref h8, .ref h9, .ref h10, .ref h11, .ref h12, .int 0, .ref h13, .int 0, .ref h14, .ref h15, .ref h16, .ref h17, .ref h18]))])) 0 0 := by
  refine Ct_of (by decide) (Nat.le_of_ble_eq_true rfl) ?_
  intro p e s m below meth c hx hb hr hml hown hnm hlocks hgw hK A hG hA hP hD ls hl
  have hl : lv_has ls 2 [(0, .ref h0), (1, .int p0)] := hl
  have hS : va_S A s.heap s.heap [] := va_S.rf
  refine lv_aload_n hx hb dX18_failsArms_0 rfl (lv_at hl 0 rfl) ?_
  refine lv_aload_n hx hb dX18_failsArms_1 rfl (lv_at hl 0 rfl) ?_
  refine lv_iload_n hx hb dX18_failsArms_2 rfl (lv_at hl 1 rfl) ?_
  refine kq_V (q0 := 0) (As := [.int p0]) (rest := [.ref h0]) (wr := []) hx hb hml hown hgw hK hG hA hP hD hS (c_X18_isArms l hfl D dA tE tC h0 p0 h1 h2 h3 h4 h5 h6 h7 h8 h9 h10 h11 h12 h13 h14 h15 h16 h17 h18) m_13_5 m_13_7 m_s_103 m_1_15 m_13_8 hd_X18_isArms rfl rfl ⟨(Nat.le_of_ble_eq_true rfl), (Nat.le_of_ble_eq_true rfl)⟩ [0, 1] [] rfl rfl rfl rfl (by decide) rfl rfl rfl hl.1 rfl (Nat.le_of_ble_eq_true rfl) dX18_failsArms_3 ⟨(Nat.le_of_ble_eq_true rfl), (Nat.le_of_ble_eq_true rfl)⟩ (fun v w1 H locs hQ hP hD hS => ?_)
  rcases hQ with ⟨c_1, rfl, rfl⟩ | ⟨c_2, rfl, rfl⟩
  · skip
    refine W.eq (g2 := F0 m 6 ls [.int 0, .ref h0]) rfl ?_
    have hP : va_P D vwCl [(h0, .inr (22, [.int 0, .ref h1, .int 0, .ref h2, .ref h3, .ref h4, .int 0, .int 0, .int 0, .ref h5, .int 0, .ref h6, .int 0, .int 0, .ref h7, .ref h8, .ref h9, .ref h10, .ref h11, .ref h12, .int 0, .ref h13, .int 0, .ref h14, .ref h15, .ref h16, .ref h17, .ref h18])), (h3, .inr (3, [.int 0, .ref tE, .int 0]))] H := hP
    have hD : va_D A [(h0, .inr (22, [.int 0, .ref h1, .int 0, .ref h2, .ref h3, .ref h4, .int 0, .int 0, .int 0, .ref h5, .int 0, .ref h6, .int 0, .int 0, .ref h7, .ref h8, .ref h9, .ref h10, .ref h11, .ref h12, .int 0, .ref h13, .int 0, .ref h14, .ref h15, .ref h16, .ref h17, .ref h18])), (h3, .inr (3, [.int 0, .ref tE, .int 0]))] := hD
    refine lv_if_eq (tgt := 13) hx hb dX18_failsArms_6 (by decide) (fun _ => ?_) (fun h => absurd (by decide +kernel) h)
    refine lv_iconst (v := 1) hx hb dX18_failsArms_13 (by decide) ?_
    refine kq_V (q0 := 0) (As := [.int 1]) (rest := []) (wr := [(h3, .inr (3, [.int 0, .ref tE, .int 0]))]) hx hb hml hown hgw hK hG hA hP hD hS (c_X18_fails l hfl D dA tE tC h0 h1 h2 h3 h4 h5 h6 h7 h8 h9 h10 h11 h12 h13 h14 h15 h16 h17 h18) m_10_93 m_10_95 m_s_61 m_1_15 m_10_96 hd_X18_fails rfl rfl ⟨(Nat.le_of_ble_eq_true rfl), (Nat.le_of_ble_eq_true rfl)⟩ [0] [1] rfl rfl rfl rfl (by decide) rfl rfl rfl hl.1 rfl (Nat.le_of_ble_eq_true rfl) dX18_failsArms_14 ⟨(Nat.le_of_ble_eq_true rfl), (Nat.le_of_ble_eq_true rfl)⟩ (fun v w1 H locs hQ hP hD hS => ?_)
    obtain ⟨rfl, rfl⟩ := hQ
    refine W.eq (g2 := F0 m 17 ls [.int 1]) rfl ?_
    have hP : va_P D vwCl [(h3, .inr (3, [.int 0, .ref tE, .int 0])), (h0, .inr (22, [.int 1, .ref h1, .int 0, .ref h2, .ref h3, .ref h4, .int 0, .int 0, .int 0, .ref h5, .int 0, .ref h6, .int 0, .int 0, .ref h7, .ref h8, .ref h9, .ref h10, .ref h11, .ref h12, .int 0, .ref h13, .int 0, .ref h14, .ref h15, .ref h16, .ref h17, .ref h18]))] H := hP
    have hD : va_D A [(h3, .inr (3, [.int 0, .ref tE, .int 0])), (h0, .inr (22, [.int 1, .ref h1, .int 0, .ref h2, .ref h3, .ref h4, .int 0, .int 0, .int 0, .ref h5, .int 0, .ref h6, .int 0, .int 0, .ref h7, .ref h8, .ref h9, .ref h10, .ref h11, .ref h12, .int 0, .ref h13, .int 0, .ref h14, .ref h15, .ref h16, .ref h17, .ref h18]))] := hD
    have hP9 := hP.sub (ws' := [(h3, .inr (3, [.int 0, .ref tE, .int 0])), (h0, .inr (22, [.int 1, .ref h1, .int 0, .ref h2, .ref h3, .ref h4, .int 0, .int 0, .int 0, .ref h5, .int 0, .ref h6, .int 0, .int 0, .ref h7, .ref h8, .ref h9, .ref h10, .ref h11, .ref h12, .int 0, .ref h13, .int 0, .ref h14, .ref h15, .ref h16, .ref h17, .ref h18]))]) [0, 1] rfl
    have hD9 := hD.sub (ws' := [(h3, .inr (3, [.int 0, .ref tE, .int 0])), (h0, .inr (22, [.int 1, .ref h1, .int 0, .ref h2, .ref h3, .ref h4, .int 0, .int 0, .int 0, .ref h5, .int 0, .ref h6, .int 0, .int 0, .ref h7, .ref h8, .ref h9, .ref h10, .ref h11, .ref h12, .int 0, .ref h13, .int 0, .ref h14, .ref h15, .ref h16, .ref h17, .ref h18]))]) [0, 1] (by decide) rfl
    exact (kq_iret (v := 1) hx hb hr hlocks hS rfl (Or.inl ⟨c_1, rfl, rfl⟩) hP9 hD9 (Nat.le_of_ble_eq_true rfl) (Nat.le_of_ble_eq_true rfl) dX18_failsArms_17)
  · skip
    refine W.eq (g2 := F0 m 6 ls [.int 0, .ref h0]) rfl ?_
    have hP : va_P D vwCl [(h0, .inr (22, [.int 0, .ref h1, .int 0, .ref h2, .ref h3, .ref h4, .int 0, .int 0, .int 0, .ref h5, .int 0, .ref h6, .int 0, .int 0, .ref h7, .ref h8, .ref h9, .ref h10, .ref h11, .ref h12, .int 0, .ref h13, .int 0, .ref h14, .ref h15, .ref h16, .ref h17, .ref h18])), (h3, .inr (3, [.int 0, .ref tE, .int 0]))] H := hP
    have hD : va_D A [(h0, .inr (22, [.int 0, .ref h1, .int 0, .ref h2, .ref h3, .ref h4, .int 0, .int 0, .int 0, .ref h5, .int 0, .ref h6, .int 0, .int 0, .ref h7, .ref h8, .ref h9, .ref h10, .ref h11, .ref h12, .int 0, .ref h13, .int 0, .ref h14, .ref h15, .ref h16, .ref h17, .ref h18])), (h3, .inr (3, [.int 0, .ref tE, .int 0]))] := hD
    refine lv_if_eq (tgt := 13) hx hb dX18_failsArms_6 (by decide) (fun _ => ?_) (fun h => absurd (by decide +kernel) h)
    refine lv_iconst (v := 1) hx hb dX18_failsArms_13 (by decide) ?_
    refine kq_V (q0 := 0) (As := [.int 1]) (rest := []) (wr := [(h3, .inr (3, [.int 0, .ref tE, .int 0]))]) hx hb hml hown hgw hK hG hA hP hD hS (c_X18_fails l hfl D dA tE tC h0 h1 h2 h3 h4 h5 h6 h7 h8 h9 h10 h11 h12 h13 h14 h15 h16 h17 h18) m_10_93 m_10_95 m_s_61 m_1_15 m_10_96 hd_X18_fails rfl rfl ⟨(Nat.le_of_ble_eq_true rfl), (Nat.le_of_ble_eq_true rfl)⟩ [0] [1] rfl rfl rfl rfl (by decide) rfl rfl rfl hl.1 rfl (Nat.le_of_ble_eq_true rfl) dX18_failsArms_14 ⟨(Nat.le_of_ble_eq_true rfl), (Nat.le_of_ble_eq_true rfl)⟩ (fun v w1 H locs hQ hP hD hS => ?_)
    obtain ⟨rfl, rfl⟩ := hQ
    refine W.eq (g2 := F0 m 17 ls [.int 1]) rfl ?_
    have hP : va_P D vwCl [(h3, .inr (3, [.int 0, .ref tE, .int 0])), (h0, .inr (22, [.int 1, .ref h1, .int 0, .ref h2, .ref h3, .ref h4, .int 0, .int 0, .int 0, .ref h5, .int 0, .ref h6, .int 0, .int 0, .ref h7, .ref h8, .ref h9, .ref h10, .ref h11, .ref h12, .int 0, .ref h13, .int 0, .ref h14, .ref h15, .ref h16, .ref h17, .ref h18]))] H := hP
    have hD : va_D A [(h3, .inr (3, [.int 0, .ref tE, .int 0])), (h0, .inr (22, [.int 1, .ref h1, .int 0, .ref h2, .ref h3, .ref h4, .int 0, .int 0, .int 0, .ref h5, .int 0, .ref h6, .int 0, .int 0, .ref h7, .ref h8, .ref h9, .ref h10, .ref h11, .ref h12, .int 0, .ref h13, .int 0, .ref h14, .ref h15, .ref h16, .ref h17, .ref h18]))] := hD
    have hP9 := hP.sub (ws' := [(h3, .inr (3, [.int 0, .ref tE, .int 0])), (h0, .inr (22, [.int 1, .ref h1, .int 0, .ref h2, .ref h3, .ref h4, .int 0, .int 0, .int 0, .ref h5, .int 0, .ref h6, .int 0, .int 0, .ref h7, .ref h8, .ref h9, .ref h10, .ref h11, .ref h12, .int 0, .ref h13, .int 0, .ref h14, .ref h15, .ref h16, .ref h17, .ref h18]))]) [0, 1] rfl
    have hD9 := hD.sub (ws' := [(h3, .inr (3, [.int 0, .ref tE, .int 0])), (h0, .inr (22, [.int 1, .ref h1, .int 0, .ref h2, .ref h3, .ref h4, .int 0, .int 0, .int 0, .ref h5, .int 0, .ref h6, .int 0, .int 0, .ref h7, .ref h8, .ref h9, .ref h10, .ref h11, .ref h12, .int 0, .ref h13, .int 0, .ref h14, .ref h15, .ref h16, .ref h17, .ref h18]))]) [0, 1] (by decide) rfl
    exact (kq_iret (v := 1) hx hb hr hlocks hS rfl (Or.inr (⟨c_2, rfl, rfl⟩)) hP9 hD9 (Nat.le_of_ble_eq_true rfl) (Nat.le_of_ble_eq_true rfl) dX18_failsArms_17)
set_option maxHeartbeats 4000000 in
set_option maxRecDepth 100000 in
theorem c_X18_cameBy (l : Launch) (hfl : l.stackTraces = false) (D : va_G) (dA : Nat → ClassId) (tE tC : Nat) (h0 : Nat) (p0 : Int32) (h1 : Nat) (h2 : Nat) (h3 : Nat) (h4 : Nat) (h5 : Nat) (h6 : Nat) (h7 : Nat) (h8 : Nat) (h9 : Nat) (h10 : Nat) (h11 : Nat) (h12 : Nat) (h13 : Nat) (h14 : Nat) (h15 : Nat) (h16 : Nat) (h17 : Nat) (h18 : Nat) : Ct l D dA tE tC yX18_cameBy (Cond.code yX18_cameBy cX18_cameBy 2 (some .char) :: gW) ({ frames := 3, cells := 0, slots := 0, locals := 64 } : Room) [.ref h0, .int p0] [(h0, .inr (22, [.int 0, .ref h1, .int 0, .ref h2, .ref h3, .ref h4, .int 0, .int 0, .int 0, .ref h5, .int 0, .ref h6, .int 0, .int 0, .ref h7, .ref h8, .ref h9, .ref h10, .ref h11, .ref h12, .int 0, .ref h13, .int 0, .ref h14, .ref h15, .ref h16, .ref h17, .ref h18])), (h3, .inr (3, [.int 0, .ref tE, .int 0]))] (fun v w1 => (p0.toInt < 0 ∧ v = some (.int 0) ∧ w1 = [(h0, .inr (22, [.int 1, .ref h1, .int 0, .ref h2, .ref h3, .ref h4, .int 0, .int 0, .int 0, .ref h5, .int 0, .ref h6, .int 0, .int 0, .ref h7, .ref h8, .ref h9, .ref h10, .ref h11, .ref h12, .int 0, .ref h13, .int 0, .ref h14, .ref h15, .ref h16, .ref h17, .ref h18]))]) ∨ (¬ p0.toInt < 0 ∧ v = some (.int 0) ∧ w1 = [(h0, .inr (22, [.int 1, .ref h1, .int 0, .ref h2, .ref h3, .ref h4, .int 0, .int 0, .int 0, .ref h5, .int 0, .ref h6, .int 0, .int 0, .ref h7, .ref h8, .ref h9, .ref h10, .ref h11, .ref h12, .int 0, .ref h13, .int 0, .ref h14, .ref h15, .ref h16, .ref h17, .ref h18]))])) 0 0 := by
  refine Ct_of (by decide) (Nat.le_of_ble_eq_true rfl) ?_
  intro p e s m below meth c hx hb hr hml hown hnm hlocks hgw hK A hG hA hP hD ls hl
  have hl : lv_has ls 2 [(0, .ref h0), (1, .int p0)] := hl
  have hS : va_S A s.heap s.heap [] := va_S.rf
  refine lv_aload_n hx hb dX18_cameBy_0 rfl (lv_at hl 0 rfl) ?_
  refine lv_iload_n hx hb dX18_cameBy_1 rfl (lv_at hl 1 rfl) ?_
  refine kq_V (q0 := 0) (As := [.int p0]) (rest := []) (wr := []) hx hb hml hown hgw hK hG hA hP hD hS (c_X18_failsArms l hfl D dA tE tC h0 p0 h1 h2 h3 h4 h5 h6 h7 h8 h9 h10 h11 h12 h13 h14 h15 h16 h17 h18) m_13_1 m_13_3 m_s_102 m_1_15 m_13_4 hd_X18_failsArms rfl rfl ⟨(Nat.le_of_ble_eq_true rfl), (Nat.le_of_ble_eq_true rfl)⟩ [0, 1] [] rfl rfl rfl rfl (by decide) rfl rfl rfl hl.1 rfl (Nat.le_of_ble_eq_true rfl) dX18_cameBy_2 ⟨(Nat.le_of_ble_eq_true rfl), (Nat.le_of_ble_eq_true rfl)⟩ (fun v w1 H locs hQ hP hD hS => ?_)
  rcases hQ with ⟨c_1, rfl, rfl⟩ | ⟨c_2, rfl, rfl⟩
  · skip
    refine W.eq (g2 := F0 m 5 ls [.int 1]) rfl ?_
    have hP : va_P D vwCl [(h3, .inr (3, [.int 0, .ref tE, .int 0])), (h0, .inr (22, [.int 1, .ref h1, .int 0, .ref h2, .ref h3, .ref h4, .int 0, .int 0, .int 0, .ref h5, .int 0, .ref h6, .int 0, .int 0, .ref h7, .ref h8, .ref h9, .ref h10, .ref h11, .ref h12, .int 0, .ref h13, .int 0, .ref h14, .ref h15, .ref h16, .ref h17, .ref h18]))] H := hP
    have hD : va_D A [(h3, .inr (3, [.int 0, .ref tE, .int 0])), (h0, .inr (22, [.int 1, .ref h1, .int 0, .ref h2, .ref h3, .ref h4, .int 0, .int 0, .int 0, .ref h5, .int 0, .ref h6, .int 0, .int 0, .ref h7, .ref h8, .ref h9, .ref h10, .ref h11, .ref h12, .int 0, .ref h13, .int 0, .ref h14, .ref h15, .ref h16, .ref h17, .ref h18]))] := hD
    refine lv_if_eq (tgt := 12) hx hb dX18_cameBy_5 (by decide) (fun h => absurd h (by decide +kernel)) (fun _ => ?_)
    refine lv_iconst (v := 0) hx hb dX18_cameBy_8 (by decide) ?_
    refine lv_goto (tgt := 26) hx hb dX18_cameBy_9 (by decide) ?_
    have hP9 := hP.sub (ws' := [(h0, .inr (22, [.int 1, .ref h1, .int 0, .ref h2, .ref h3, .ref h4, .int 0, .int 0, .int 0, .ref h5, .int 0, .ref h6, .int 0, .int 0, .ref h7, .ref h8, .ref h9, .ref h10, .ref h11, .ref h12, .int 0, .ref h13, .int 0, .ref h14, .ref h15, .ref h16, .ref h17, .ref h18]))]) [1] rfl
    have hD9 := hD.sub (ws' := [(h0, .inr (22, [.int 1, .ref h1, .int 0, .ref h2, .ref h3, .ref h4, .int 0, .int 0, .int 0, .ref h5, .int 0, .ref h6, .int 0, .int 0, .ref h7, .ref h8, .ref h9, .ref h10, .ref h11, .ref h12, .int 0, .ref h13, .int 0, .ref h14, .ref h15, .ref h16, .ref h17, .ref h18]))]) [1] (by decide) rfl
    exact (kq_iret (v := 0) hx hb hr hlocks hS rfl (Or.inl ⟨c_1, rfl, rfl⟩) hP9 hD9 (Nat.le_of_ble_eq_true rfl) (Nat.le_of_ble_eq_true rfl) dX18_cameBy_26)
  · skip
    refine W.eq (g2 := F0 m 5 ls [.int 1]) rfl ?_
    have hP : va_P D vwCl [(h3, .inr (3, [.int 0, .ref tE, .int 0])), (h0, .inr (22, [.int 1, .ref h1, .int 0, .ref h2, .ref h3, .ref h4, .int 0, .int 0, .int 0, .ref h5, .int 0, .ref h6, .int 0, .int 0, .ref h7, .ref h8, .ref h9, .ref h10, .ref h11, .ref h12, .int 0, .ref h13, .int 0, .ref h14, .ref h15, .ref h16, .ref h17, .ref h18]))] H := hP
    have hD : va_D A [(h3, .inr (3, [.int 0, .ref tE, .int 0])), (h0, .inr (22, [.int 1, .ref h1, .int 0, .ref h2, .ref h3, .ref h4, .int 0, .int 0, .int 0, .ref h5, .int 0, .ref h6, .int 0, .int 0, .ref h7, .ref h8, .ref h9, .ref h10, .ref h11, .ref h12, .int 0, .ref h13, .int 0, .ref h14, .ref h15, .ref h16, .ref h17, .ref h18]))] := hD
    refine lv_if_eq (tgt := 12) hx hb dX18_cameBy_5 (by decide) (fun h => absurd h (by decide +kernel)) (fun _ => ?_)
    refine lv_iconst (v := 0) hx hb dX18_cameBy_8 (by decide) ?_
    refine lv_goto (tgt := 26) hx hb dX18_cameBy_9 (by decide) ?_
    have hP9 := hP.sub (ws' := [(h0, .inr (22, [.int 1, .ref h1, .int 0, .ref h2, .ref h3, .ref h4, .int 0, .int 0, .int 0, .ref h5, .int 0, .ref h6, .int 0, .int 0, .ref h7, .ref h8, .ref h9, .ref h10, .ref h11, .ref h12, .int 0, .ref h13, .int 0, .ref h14, .ref h15, .ref h16, .ref h17, .ref h18]))]) [1] rfl
    have hD9 := hD.sub (ws' := [(h0, .inr (22, [.int 1, .ref h1, .int 0, .ref h2, .ref h3, .ref h4, .int 0, .int 0, .int 0, .ref h5, .int 0, .ref h6, .int 0, .int 0, .ref h7, .ref h8, .ref h9, .ref h10, .ref h11, .ref h12, .int 0, .ref h13, .int 0, .ref h14, .ref h15, .ref h16, .ref h17, .ref h18]))]) [1] (by decide) rfl
    exact (kq_iret (v := 0) hx hb hr hlocks hS rfl (Or.inr (⟨c_2, rfl, rfl⟩)) hP9 hD9 (Nat.le_of_ble_eq_true rfl) (Nat.le_of_ble_eq_true rfl) dX18_cameBy_26)
set_option maxHeartbeats 4000000 in
set_option maxRecDepth 100000 in
theorem c_X11_yearOf (l : Launch) (hfl : l.stackTraces = false) (D : va_G) (dA : Nat → ClassId) (tE tC : Nat) (h0 : Nat) (p0 : Int32) (h1 : Nat) (h2 : Nat) (h3 : Nat) (h4 : Nat) (h5 : Nat) (h6 : Nat) (h7 : Nat) (h8 : Nat) (h9 : Nat) (h10 : Nat) (h11 : Nat) (h12 : Nat) (h13 : Nat) (h14 : Nat) (h15 : Nat) (h16 : Nat) (h17 : Nat) (h18 : Nat) (h19 : Nat) (h20 : Nat) (h21 : Nat) : Cx l D dA tE tC yX11_yearOf (Cond.code yX11_yearOf cX11_yearOf 2 (some .int) :: gW) ({ frames := 7, cells := 1, slots := 6, locals := 103 } : Room) [.ref h0, .int p0] [(h0, .inr (15, [.ref h1, .ref h2, .ref h3, .ref h4, .ref h5, .ref h6, .ref h7, .ref h8, .ref h9, .ref h10, .ref h11, .int 0, .int 0, .int 0])), (h7, .inr (13, [.ref h1, .ref h12, .ref h13, .ref h14, .ref h15, .ref h16, .ref h17, .ref h18, .ref h19, .ref h20, .ref h21, .int 0]))] (fun v w1 => False) (fun E => (p0.toInt < 0 ∧ E = "java/lang/IndexOutOfBoundsException") ∨ (¬ p0.toInt < 0 ∧ E = "java/lang/IndexOutOfBoundsException")) 1 6 := by
  refine Cx_of (by decide) (Nat.le_of_ble_eq_true rfl) ?_
  intro p e s m below meth c hx hb hr hml hown hnm hlocks hgw hK A hG hA hP hD ls hl hxt
  have hl : lv_has ls 2 [(0, .ref h0), (1, .int p0)] := hl
  have hS : va_S A s.heap s.heap [] := va_S.rf
  refine lv_aload_n hx hb dX11_yearOf_0 rfl (lv_at hl 0 rfl) ?_
  refine lv_iload_n hx hb dX11_yearOf_1 rfl (lv_at hl 1 rfl) ?_
  refine kx_V (q0 := 0) (As := [.int p0]) (rest := []) (wr := []) hx hb hml hown hgw hK hG hA hP hD hS (c_X11_needArms l hfl D dA tE tC h0 p0 h1 h2 h3 h4 h5 h6 h7 h8 h9 h10 h11 h12 h13 h14 h15 h16 h17 h18 h19 h20 h21) m_7_136 m_7_138 m_s_49 m_1_1 m_7_139 hd_X11_needArms rfl rfl ⟨(Nat.le_of_ble_eq_true rfl), (Nat.le_of_ble_eq_true rfl)⟩ [0, 1] [] rfl rfl rfl rfl (by decide) rfl rfl rfl hl.1 rfl (Nat.le_of_ble_eq_true rfl) dX11_yearOf_2 ⟨(Nat.le_of_ble_eq_true rfl), (Nat.le_of_ble_eq_true rfl)⟩ (fun v w1 H locs hQ hP hD hS => hQ.elim) (fun E ce q9 H locs hX hP hD hS hce hcv hcl => ?_)
  rcases hX with ⟨c_1, rfl⟩ | ⟨c_2, rfl⟩
  · skip
    exact kx_out hxt hlocks hS hce hcv hcl (Or.inl ⟨c_1, rfl⟩) (Nat.le_of_ble_eq_true rfl) (Nat.le_of_ble_eq_true rfl)
  · skip
    exact kx_out hxt hlocks hS hce hcv hcl (Or.inr (⟨c_2, rfl⟩)) (Nat.le_of_ble_eq_true rfl) (Nat.le_of_ble_eq_true rfl)
set_option maxHeartbeats 4000000 in
set_option maxRecDepth 100000 in
theorem c_L_yearOf (l : Launch) (hfl : l.stackTraces = false) (D : va_G) (dA : Nat → ClassId) (tE tC : Nat) (h0 : Nat) (p0 : Int32) (h1 : Nat) (h2 : Nat) (h3 : Nat) (h4 : Nat) (h5 : Nat) (h6 : Nat) (h7 : Nat) (h8 : Nat) (h9 : Nat) (h10 : Nat) (h11 : Nat) (h12 : Nat) (h13 : Nat) (h14 : Nat) (h15 : Nat) (h16 : Nat) (h17 : Nat) (h18 : Nat) (h19 : Nat) (h20 : Nat) (h21 : Nat) (h22 : Nat) : Cx l D dA tE tC yL_yearOf (Cond.codeWith yL_yearOf cL_yearOf 4 (some .int) [(0, 9, 12, 21)] :: gW) ({ frames := 8, cells := 1, slots := 6, locals := 124 } : Room) [.ref h0, .int p0, .ref h1] [(h0, .inr (15, [.ref h2, .ref h3, .ref h4, .ref h5, .ref h6, .ref h7, .ref h8, .ref h9, .ref h10, .ref h11, .ref h12, .int 0, .int 0, .int 0])), (h8, .inr (13, [.ref h2, .ref h13, .ref h14, .ref h15, .ref h16, .ref h17, .ref h18, .ref h19, .ref h20, .ref h21, .ref h22, .int 0]))] (fun v w1 => (p0.toInt < 0 ∧ v = some (.int 1) ∧ w1 = []) ∨ (¬ p0.toInt < 0 ∧ v = some (.int 1) ∧ w1 = [])) (fun E => False) 1 6 := by
  refine Ch_of (by decide) (Nat.le_of_ble_eq_true rfl) ?_
  intro p e s m below meth c hx hb hr hml hown hnm hlocks hgw hK A hG hA hP hD ls hl hxt
  have hl : lv_has ls 4 [(0, .ref h0), (1, .int p0), (2, .ref h1)] := hl
  have hS : va_S A s.heap s.heap [] := va_S.rf
  refine lv_aload_n hx hb dL_yearOf_0 rfl (lv_at hl 2 rfl) ?_
  refine lv_iconst (v := 0) hx hb dL_yearOf_1 (by decide) ?_
  refine lv_aload_n hx hb dL_yearOf_2 rfl (lv_at hl 0 rfl) ?_
  refine lv_iload_n hx hb dL_yearOf_3 rfl (lv_at hl 1 rfl) ?_
  refine kx_V (q0 := 0) (As := [.int p0]) (rest := [.int 0, .ref h1]) (wr := []) hx hb hml hown hgw hK hG hA hP hD hS (c_X11_yearOf l hfl D dA tE tC h0 p0 h2 h3 h4 h5 h6 h7 h8 h9 h10 h11 h12 h13 h14 h15 h16 h17 h18 h19 h20 h21 h22) m_7_148 m_7_149 m_7_150 m_1_1 m_7_151 hd_X11_yearOf rfl rfl ⟨(Nat.le_of_ble_eq_true rfl), (Nat.le_of_ble_eq_true rfl)⟩ [0, 1] [] rfl rfl rfl rfl (by decide) rfl rfl rfl hl.1 rfl (Nat.le_of_ble_eq_true rfl) dL_yearOf_4 ⟨(Nat.le_of_ble_eq_true rfl), (Nat.le_of_ble_eq_true rfl)⟩ (fun v w1 H locs hQ hP hD hS => hQ.elim) (fun E ce q9 H locs hX hP hD hS hce hcv hcl => ?_)
  rcases hX with ⟨c_1, rfl⟩ | ⟨c_2, rfl⟩
  · skip
    refine vx_catch (name := "java/lang/IndexOutOfBoundsException") hown (tableOf []) { startPc := 0, endPc := 9, handlerPc := 12, catchType := 21 } (tableOf []) hxt kx_p0 rfl (by decide) (hgw _ m_5_117) (va_Nw.use rfl (hG.2.2.2.1 ("java/lang/IndexOutOfBoundsException", "java/lang/IndexOutOfBoundsException") n_c3)) hce hcv hcl ?_
    refine W.eq (g2 := F0 m 12 ls [.ref q9]) rfl ?_
    refine lv_astore_n (lv' := [(3, .ref q9), (0, .ref h0), (1, .int p0), (2, .ref h1)]) hx hb dL_yearOf_12 rfl hl (by decide) rfl (fun ls hl => ?_)
    refine lv_iconst (v := 1) hx hb dL_yearOf_13 (by decide) ?_
    have hP9 := hP.sub (ws' := []) [] rfl
    have hD9 := hD.sub (ws' := []) [] (by decide) rfl
    exact vx_ret (kq_iret (v := 1) hx hb hr hlocks hS rfl (Or.inl ⟨c_1, rfl, rfl⟩) hP9 hD9 (Nat.le_of_ble_eq_true rfl) (Nat.le_of_ble_eq_true rfl) dL_yearOf_14)
  · skip
    refine vx_catch (name := "java/lang/IndexOutOfBoundsException") hown (tableOf []) { startPc := 0, endPc := 9, handlerPc := 12, catchType := 21 } (tableOf []) hxt kx_p0 rfl (by decide) (hgw _ m_5_117) (va_Nw.use rfl (hG.2.2.2.1 ("java/lang/IndexOutOfBoundsException", "java/lang/IndexOutOfBoundsException") n_c3)) hce hcv hcl ?_
    refine W.eq (g2 := F0 m 12 ls [.ref q9]) rfl ?_
    refine lv_astore_n (lv' := [(3, .ref q9), (0, .ref h0), (1, .int p0), (2, .ref h1)]) hx hb dL_yearOf_12 rfl hl (by decide) rfl (fun ls hl => ?_)
    refine lv_iconst (v := 1) hx hb dL_yearOf_13 (by decide) ?_
    have hP9 := hP.sub (ws' := []) [] rfl
    have hD9 := hD.sub (ws' := []) [] (by decide) rfl
    exact vx_ret (kq_iret (v := 1) hx hb hr hlocks hS rfl (Or.inr (⟨c_2, rfl, rfl⟩)) hP9 hD9 (Nat.le_of_ble_eq_true rfl) (Nat.le_of_ble_eq_true rfl) dL_yearOf_14)
set_option maxHeartbeats 4000000 in
set_option maxRecDepth 100000 in
theorem c_X18_yearOf (l : Launch) (hfl : l.stackTraces = false) (D : va_G) (dA : Nat → ClassId) (tE tC : Nat) (h0 : Nat) (p0 : Int32) (h1 : Nat) (h2 : Nat) (h3 : Nat) (h4 : Nat) (h5 : Nat) (h6 : Nat) (h7 : Nat) (h8 : Nat) (h9 : Nat) (h10 : Nat) (h11 : Nat) (h12 : Nat) (h13 : Nat) (h14 : Nat) (h15 : Nat) (h16 : Nat) (h17 : Nat) (h18 : Nat) : Ct l D dA tE tC yX18_yearOf (Cond.code yX18_yearOf cX18_yearOf 2 (some .int) :: gW) ({ frames := 3, cells := 0, slots := 0, locals := 64 } : Room) [.ref h0, .int p0] [(h0, .inr (22, [.int 0, .ref h1, .int 0, .ref h2, .ref h3, .ref h4, .int 0, .int 0, .int 0, .ref h5, .int 0, .ref h6, .int 0, .int 0, .ref h7, .ref h8, .ref h9, .ref h10, .ref h11, .ref h12, .int 0, .ref h13, .int 0, .ref h14, .ref h15, .ref h16, .ref h17, .ref h18])), (h3, .inr (3, [.int 0, .ref tE, .int 0]))] (fun v w1 => (p0.toInt < 0 ∧ v = some (.int 0) ∧ w1 = [(h0, .inr (22, [.int 1, .ref h1, .int 0, .ref h2, .ref h3, .ref h4, .int 0, .int 0, .int 0, .ref h5, .int 0, .ref h6, .int 0, .int 0, .ref h7, .ref h8, .ref h9, .ref h10, .ref h11, .ref h12, .int 0, .ref h13, .int 0, .ref h14, .ref h15, .ref h16, .ref h17, .ref h18]))]) ∨ (¬ p0.toInt < 0 ∧ v = some (.int 0) ∧ w1 = [(h0, .inr (22, [.int 1, .ref h1, .int 0, .ref h2, .ref h3, .ref h4, .int 0, .int 0, .int 0, .ref h5, .int 0, .ref h6, .int 0, .int 0, .ref h7, .ref h8, .ref h9, .ref h10, .ref h11, .ref h12, .int 0, .ref h13, .int 0, .ref h14, .ref h15, .ref h16, .ref h17, .ref h18]))])) 0 0 := by
  refine Ct_of (by decide) (Nat.le_of_ble_eq_true rfl) ?_
  intro p e s m below meth c hx hb hr hml hown hnm hlocks hgw hK A hG hA hP hD ls hl
  have hl : lv_has ls 2 [(0, .ref h0), (1, .int p0)] := hl
  have hS : va_S A s.heap s.heap [] := va_S.rf
  refine lv_aload_n hx hb dX18_yearOf_0 rfl (lv_at hl 0 rfl) ?_
  refine lv_iload_n hx hb dX18_yearOf_1 rfl (lv_at hl 1 rfl) ?_
  refine kq_V (q0 := 0) (As := [.int p0]) (rest := []) (wr := []) hx hb hml hown hgw hK hG hA hP hD hS (c_X18_failsArms l hfl D dA tE tC h0 p0 h1 h2 h3 h4 h5 h6 h7 h8 h9 h10 h11 h12 h13 h14 h15 h16 h17 h18) m_13_1 m_13_3 m_s_102 m_1_15 m_13_4 hd_X18_failsArms rfl rfl ⟨(Nat.le_of_ble_eq_true rfl), (Nat.le_of_ble_eq_true rfl)⟩ [0, 1] [] rfl rfl rfl rfl (by decide) rfl rfl rfl hl.1 rfl (Nat.le_of_ble_eq_true rfl) dX18_yearOf_2 ⟨(Nat.le_of_ble_eq_true rfl), (Nat.le_of_ble_eq_true rfl)⟩ (fun v w1 H locs hQ hP hD hS => ?_)
  rcases hQ with ⟨c_1, rfl, rfl⟩ | ⟨c_2, rfl, rfl⟩
  · skip
    refine W.eq (g2 := F0 m 5 ls [.int 1]) rfl ?_
    have hP : va_P D vwCl [(h3, .inr (3, [.int 0, .ref tE, .int 0])), (h0, .inr (22, [.int 1, .ref h1, .int 0, .ref h2, .ref h3, .ref h4, .int 0, .int 0, .int 0, .ref h5, .int 0, .ref h6, .int 0, .int 0, .ref h7, .ref h8, .ref h9, .ref h10, .ref h11, .ref h12, .int 0, .ref h13, .int 0, .ref h14, .ref h15, .ref h16, .ref h17, .ref h18]))] H := hP
    have hD : va_D A [(h3, .inr (3, [.int 0, .ref tE, .int 0])), (h0, .inr (22, [.int 1, .ref h1, .int 0, .ref h2, .ref h3, .ref h4, .int 0, .int 0, .int 0, .ref h5, .int 0, .ref h6, .int 0, .int 0, .ref h7, .ref h8, .ref h9, .ref h10, .ref h11, .ref h12, .int 0, .ref h13, .int 0, .ref h14, .ref h15, .ref h16, .ref h17, .ref h18]))] := hD
    refine lv_if_eq (tgt := 12) hx hb dX18_yearOf_5 (by decide) (fun h => absurd h (by decide +kernel)) (fun _ => ?_)
    refine lv_iconst (v := 0) hx hb dX18_yearOf_8 (by decide) ?_
    refine lv_goto (tgt := 26) hx hb dX18_yearOf_9 (by decide) ?_
    have hP9 := hP.sub (ws' := [(h0, .inr (22, [.int 1, .ref h1, .int 0, .ref h2, .ref h3, .ref h4, .int 0, .int 0, .int 0, .ref h5, .int 0, .ref h6, .int 0, .int 0, .ref h7, .ref h8, .ref h9, .ref h10, .ref h11, .ref h12, .int 0, .ref h13, .int 0, .ref h14, .ref h15, .ref h16, .ref h17, .ref h18]))]) [1] rfl
    have hD9 := hD.sub (ws' := [(h0, .inr (22, [.int 1, .ref h1, .int 0, .ref h2, .ref h3, .ref h4, .int 0, .int 0, .int 0, .ref h5, .int 0, .ref h6, .int 0, .int 0, .ref h7, .ref h8, .ref h9, .ref h10, .ref h11, .ref h12, .int 0, .ref h13, .int 0, .ref h14, .ref h15, .ref h16, .ref h17, .ref h18]))]) [1] (by decide) rfl
    exact (kq_iret (v := 0) hx hb hr hlocks hS rfl (Or.inl ⟨c_1, rfl, rfl⟩) hP9 hD9 (Nat.le_of_ble_eq_true rfl) (Nat.le_of_ble_eq_true rfl) dX18_yearOf_26)
  · skip
    refine W.eq (g2 := F0 m 5 ls [.int 1]) rfl ?_
    have hP : va_P D vwCl [(h3, .inr (3, [.int 0, .ref tE, .int 0])), (h0, .inr (22, [.int 1, .ref h1, .int 0, .ref h2, .ref h3, .ref h4, .int 0, .int 0, .int 0, .ref h5, .int 0, .ref h6, .int 0, .int 0, .ref h7, .ref h8, .ref h9, .ref h10, .ref h11, .ref h12, .int 0, .ref h13, .int 0, .ref h14, .ref h15, .ref h16, .ref h17, .ref h18]))] H := hP
    have hD : va_D A [(h3, .inr (3, [.int 0, .ref tE, .int 0])), (h0, .inr (22, [.int 1, .ref h1, .int 0, .ref h2, .ref h3, .ref h4, .int 0, .int 0, .int 0, .ref h5, .int 0, .ref h6, .int 0, .int 0, .ref h7, .ref h8, .ref h9, .ref h10, .ref h11, .ref h12, .int 0, .ref h13, .int 0, .ref h14, .ref h15, .ref h16, .ref h17, .ref h18]))] := hD
    refine lv_if_eq (tgt := 12) hx hb dX18_yearOf_5 (by decide) (fun h => absurd h (by decide +kernel)) (fun _ => ?_)
    refine lv_iconst (v := 0) hx hb dX18_yearOf_8 (by decide) ?_
    refine lv_goto (tgt := 26) hx hb dX18_yearOf_9 (by decide) ?_
    have hP9 := hP.sub (ws' := [(h0, .inr (22, [.int 1, .ref h1, .int 0, .ref h2, .ref h3, .ref h4, .int 0, .int 0, .int 0, .ref h5, .int 0, .ref h6, .int 0, .int 0, .ref h7, .ref h8, .ref h9, .ref h10, .ref h11, .ref h12, .int 0, .ref h13, .int 0, .ref h14, .ref h15, .ref h16, .ref h17, .ref h18]))]) [1] rfl
    have hD9 := hD.sub (ws' := [(h0, .inr (22, [.int 1, .ref h1, .int 0, .ref h2, .ref h3, .ref h4, .int 0, .int 0, .int 0, .ref h5, .int 0, .ref h6, .int 0, .int 0, .ref h7, .ref h8, .ref h9, .ref h10, .ref h11, .ref h12, .int 0, .ref h13, .int 0, .ref h14, .ref h15, .ref h16, .ref h17, .ref h18]))]) [1] (by decide) rfl
    exact (kq_iret (v := 0) hx hb hr hlocks hS rfl (Or.inr (⟨c_2, rfl, rfl⟩)) hP9 hD9 (Nat.le_of_ble_eq_true rfl) (Nat.le_of_ble_eq_true rfl) dX18_yearOf_26)
set_option maxHeartbeats 4000000 in
set_option maxRecDepth 100000 in
theorem c_X11_borne (l : Launch) (hfl : l.stackTraces = false) (D : va_G) (dA : Nat → ClassId) (tE tC : Nat) (h0 : Nat) (p0 : Int32) (h1 : Nat) (h2 : Nat) (h3 : Nat) (h4 : Nat) (h5 : Nat) (h6 : Nat) (h7 : Nat) (h8 : Nat) (h9 : Nat) (h10 : Nat) (h11 : Nat) (h12 : Nat) (h13 : Nat) (h14 : Nat) (h15 : Nat) (h16 : Nat) (h17 : Nat) (h18 : Nat) : Cx l D dA tE tC yX11_borne (Cond.code yX11_borne cX11_borne 2 (some .int) :: gW) ({ frames := 7, cells := 1, slots := 6, locals := 103 } : Room) [.ref h0, .int p0] [(h0, .inr (15, [.ref h1, .ref h2, .ref h3, .ref h4, .ref h5, .ref h6, .ref h7, .ref h8, .ref h9, .ref h10, .ref h11, .int 0, .int 0, .int 0])), (h6, .inr (9, [.ref h12, .ref h13, .ref h14, .ref h15, .ref h16, .ref h17, .ref h18, .int 0, .int 0]))] (fun v w1 => False) (fun E => (p0.toInt < 0 ∧ E = "java/lang/IndexOutOfBoundsException") ∨ (¬ p0.toInt < 0 ∧ E = "java/lang/IndexOutOfBoundsException")) 1 6 := by
  refine Cx_of (by decide) (Nat.le_of_ble_eq_true rfl) ?_
  intro p e s m below meth c hx hb hr hml hown hnm hlocks hgw hK A hG hA hP hD ls hl hxt
  have hl : lv_has ls 2 [(0, .ref h0), (1, .int p0)] := hl
  have hS : va_S A s.heap s.heap [] := va_S.rf
  refine lv_aload_n hx hb dX11_borne_0 rfl (lv_at hl 0 rfl) ?_
  refine lv_iload_n hx hb dX11_borne_1 rfl (lv_at hl 1 rfl) ?_
  refine kx_V (q0 := 0) (As := [.int p0]) (rest := []) (wr := []) hx hb hml hown hgw hK hG hA hP hD hS (c_X11_needPerson l hfl D dA tE tC h0 p0 h1 h2 h3 h4 h5 h6 h7 h8 h9 h10 h11 h12 h13 h14 h15 h16 h17 h18) m_6_99 m_6_101 m_s_34 m_1_1 m_6_102 hd_X11_needPerson rfl rfl ⟨(Nat.le_of_ble_eq_true rfl), (Nat.le_of_ble_eq_true rfl)⟩ [0, 1] [] rfl rfl rfl rfl (by decide) rfl rfl rfl hl.1 rfl (Nat.le_of_ble_eq_true rfl) dX11_borne_2 ⟨(Nat.le_of_ble_eq_true rfl), (Nat.le_of_ble_eq_true rfl)⟩ (fun v w1 H locs hQ hP hD hS => hQ.elim) (fun E ce q9 H locs hX hP hD hS hce hcv hcl => ?_)
  rcases hX with ⟨c_1, rfl⟩ | ⟨c_2, rfl⟩
  · skip
    exact kx_out hxt hlocks hS hce hcv hcl (Or.inl ⟨c_1, rfl⟩) (Nat.le_of_ble_eq_true rfl) (Nat.le_of_ble_eq_true rfl)
  · skip
    exact kx_out hxt hlocks hS hce hcv hcl (Or.inr (⟨c_2, rfl⟩)) (Nat.le_of_ble_eq_true rfl) (Nat.le_of_ble_eq_true rfl)
set_option maxHeartbeats 4000000 in
set_option maxRecDepth 100000 in
theorem c_L_borne (l : Launch) (hfl : l.stackTraces = false) (D : va_G) (dA : Nat → ClassId) (tE tC : Nat) (h0 : Nat) (p0 : Int32) (h1 : Nat) (h2 : Nat) (h3 : Nat) (h4 : Nat) (h5 : Nat) (h6 : Nat) (h7 : Nat) (h8 : Nat) (h9 : Nat) (h10 : Nat) (h11 : Nat) (h12 : Nat) (h13 : Nat) (h14 : Nat) (h15 : Nat) (h16 : Nat) (h17 : Nat) (h18 : Nat) (h19 : Nat) : Cx l D dA tE tC yL_borne (Cond.codeWith yL_borne cL_borne 4 (some .int) [(0, 9, 12, 21), (0, 9, 15, 36)] :: gW) ({ frames := 8, cells := 1, slots := 6, locals := 124 } : Room) [.ref h0, .int p0, .ref h1] [(h0, .inr (15, [.ref h2, .ref h3, .ref h4, .ref h5, .ref h6, .ref h7, .ref h8, .ref h9, .ref h10, .ref h11, .ref h12, .int 0, .int 0, .int 0])), (h7, .inr (9, [.ref h13, .ref h14, .ref h15, .ref h16, .ref h17, .ref h18, .ref h19, .int 0, .int 0]))] (fun v w1 => (p0.toInt < 0 ∧ v = some (.int 1) ∧ w1 = []) ∨ (¬ p0.toInt < 0 ∧ v = some (.int 1) ∧ w1 = [])) (fun E => False) 1 6 := by
  refine Ch_of (by decide) (Nat.le_of_ble_eq_true rfl) ?_
  intro p e s m below meth c hx hb hr hml hown hnm hlocks hgw hK A hG hA hP hD ls hl hxt
  have hl : lv_has ls 4 [(0, .ref h0), (1, .int p0), (2, .ref h1)] := hl
  have hS : va_S A s.heap s.heap [] := va_S.rf
  refine lv_aload_n hx hb dL_borne_0 rfl (lv_at hl 2 rfl) ?_
  refine lv_iconst (v := 0) hx hb dL_borne_1 (by decide) ?_
  refine lv_aload_n hx hb dL_borne_2 rfl (lv_at hl 0 rfl) ?_
  refine lv_iload_n hx hb dL_borne_3 rfl (lv_at hl 1 rfl) ?_
  refine kx_V (q0 := 0) (As := [.int p0]) (rest := [.int 0, .ref h1]) (wr := []) hx hb hml hown hgw hK hG hA hP hD hS (c_X11_borne l hfl D dA tE tC h0 p0 h2 h3 h4 h5 h6 h7 h8 h9 h10 h11 h12 h13 h14 h15 h16 h17 h18 h19) m_7_159 m_7_160 m_7_161 m_1_1 m_7_162 hd_X11_borne rfl rfl ⟨(Nat.le_of_ble_eq_true rfl), (Nat.le_of_ble_eq_true rfl)⟩ [0, 1] [] rfl rfl rfl rfl (by decide) rfl rfl rfl hl.1 rfl (Nat.le_of_ble_eq_true rfl) dL_borne_4 ⟨(Nat.le_of_ble_eq_true rfl), (Nat.le_of_ble_eq_true rfl)⟩ (fun v w1 H locs hQ hP hD hS => hQ.elim) (fun E ce q9 H locs hX hP hD hS hce hcv hcl => ?_)
  rcases hX with ⟨c_1, rfl⟩ | ⟨c_2, rfl⟩
  · skip
    refine vx_catch (name := "java/lang/IndexOutOfBoundsException") hown (tableOf []) { startPc := 0, endPc := 9, handlerPc := 12, catchType := 21 } (tableOf [(0, 9, 15, 36)]) hxt kx_p0 rfl (by decide) (hgw _ m_5_117) (va_Nw.use rfl (hG.2.2.2.1 ("java/lang/IndexOutOfBoundsException", "java/lang/IndexOutOfBoundsException") n_c3)) hce hcv hcl ?_
    refine W.eq (g2 := F0 m 12 ls [.ref q9]) rfl ?_
    refine lv_astore_n (lv' := [(3, .ref q9), (0, .ref h0), (1, .int p0), (2, .ref h1)]) hx hb dL_borne_12 rfl hl (by decide) rfl (fun ls hl => ?_)
    refine lv_iconst (v := 1) hx hb dL_borne_13 (by decide) ?_
    have hP9 := hP.sub (ws' := []) [] rfl
    have hD9 := hD.sub (ws' := []) [] (by decide) rfl
    exact vx_ret (kq_iret (v := 1) hx hb hr hlocks hS rfl (Or.inl ⟨c_1, rfl, rfl⟩) hP9 hD9 (Nat.le_of_ble_eq_true rfl) (Nat.le_of_ble_eq_true rfl) dL_borne_14)
  · skip
    refine vx_catch (name := "java/lang/IndexOutOfBoundsException") hown (tableOf []) { startPc := 0, endPc := 9, handlerPc := 12, catchType := 21 } (tableOf [(0, 9, 15, 36)]) hxt kx_p0 rfl (by decide) (hgw _ m_5_117) (va_Nw.use rfl (hG.2.2.2.1 ("java/lang/IndexOutOfBoundsException", "java/lang/IndexOutOfBoundsException") n_c3)) hce hcv hcl ?_
    refine W.eq (g2 := F0 m 12 ls [.ref q9]) rfl ?_
    refine lv_astore_n (lv' := [(3, .ref q9), (0, .ref h0), (1, .int p0), (2, .ref h1)]) hx hb dL_borne_12 rfl hl (by decide) rfl (fun ls hl => ?_)
    refine lv_iconst (v := 1) hx hb dL_borne_13 (by decide) ?_
    have hP9 := hP.sub (ws' := []) [] rfl
    have hD9 := hD.sub (ws' := []) [] (by decide) rfl
    exact vx_ret (kq_iret (v := 1) hx hb hr hlocks hS rfl (Or.inr (⟨c_2, rfl, rfl⟩)) hP9 hD9 (Nat.le_of_ble_eq_true rfl) (Nat.le_of_ble_eq_true rfl) dL_borne_14)
set_option maxHeartbeats 4000000 in
set_option maxRecDepth 100000 in
theorem c_X18_borne (l : Launch) (hfl : l.stackTraces = false) (D : va_G) (dA : Nat → ClassId) (tE tC : Nat) (h0 : Nat) (p0 : Int32) (h1 : Nat) (h2 : Nat) (h3 : Nat) (h4 : Nat) (h5 : Nat) (h6 : Nat) (h7 : Nat) (h8 : Nat) (h9 : Nat) (h10 : Nat) (h11 : Nat) (h12 : Nat) (h13 : Nat) (h14 : Nat) (h15 : Nat) (h16 : Nat) (h17 : Nat) (h18 : Nat) : Ct l D dA tE tC yX18_borne (Cond.code yX18_borne cX18_borne 3 (some .int) :: gW) ({ frames := 3, cells := 0, slots := 0, locals := 64 } : Room) [.ref h0, .int p0] [(h0, .inr (22, [.int 0, .ref h1, .int 0, .ref h2, .ref h3, .ref h4, .int 0, .int 0, .int 0, .ref h5, .int 0, .ref h6, .int 0, .int 0, .ref h7, .ref h8, .ref h9, .ref h10, .ref h11, .ref h12, .int 0, .ref h13, .int 0, .ref h14, .ref h15, .ref h16, .ref h17, .ref h18])), (h2, .inr (3, [.int 0, .ref tE, .int 0]))] (fun v w1 => (p0.toInt < 0 ∧ v = some (.int 0) ∧ w1 = [(h0, .inr (22, [.int 1, .ref h1, .int 0, .ref h2, .ref h3, .ref h4, .int 0, .int 0, .int 0, .ref h5, .int 0, .ref h6, .int 0, .int 0, .ref h7, .ref h8, .ref h9, .ref h10, .ref h11, .ref h12, .int 0, .ref h13, .int 0, .ref h14, .ref h15, .ref h16, .ref h17, .ref h18]))]) ∨ (¬ p0.toInt < 0 ∧ v = some (.int 0) ∧ w1 = [(h0, .inr (22, [.int 1, .ref h1, .int 0, .ref h2, .ref h3, .ref h4, .int 0, .int 0, .int 0, .ref h5, .int 0, .ref h6, .int 0, .int 0, .ref h7, .ref h8, .ref h9, .ref h10, .ref h11, .ref h12, .int 0, .ref h13, .int 0, .ref h14, .ref h15, .ref h16, .ref h17, .ref h18]))])) 0 0 := by
  refine Ct_of (by decide) (Nat.le_of_ble_eq_true rfl) ?_
  intro p e s m below meth c hx hb hr hml hown hnm hlocks hgw hK A hG hA hP hD ls hl
  have hl : lv_has ls 3 [(0, .ref h0), (1, .int p0)] := hl
  have hS : va_S A s.heap s.heap [] := va_S.rf
  refine lv_aload_n hx hb dX18_borne_0 rfl (lv_at hl 0 rfl) ?_
  refine lv_iload_n hx hb dX18_borne_1 rfl (lv_at hl 1 rfl) ?_
  refine kq_V (q0 := 0) (As := [.int p0]) (rest := []) (wr := []) hx hb hml hown hgw hK hG hA hP hD hS (c_X18_failsPerson l hfl D dA tE tC h0 p0 h1 h2 h3 h4 h5 h6 h7 h8 h9 h10 h11 h12 h13 h14 h15 h16 h17 h18) m_12_6 m_12_8 m_s_84 m_1_15 m_12_9 hd_X18_failsPerson rfl rfl ⟨(Nat.le_of_ble_eq_true rfl), (Nat.le_of_ble_eq_true rfl)⟩ [0, 1] [] rfl rfl rfl rfl (by decide) rfl rfl rfl hl.1 rfl (Nat.le_of_ble_eq_true rfl) dX18_borne_2 ⟨(Nat.le_of_ble_eq_true rfl), (Nat.le_of_ble_eq_true rfl)⟩ (fun v w1 H locs hQ hP hD hS => ?_)
  rcases hQ with ⟨c_1, rfl, rfl⟩ | ⟨c_2, rfl, rfl⟩
  · skip
    refine W.eq (g2 := F0 m 5 ls [.int 1]) rfl ?_
    have hP : va_P D vwCl [(h2, .inr (3, [.int 0, .ref tE, .int 0])), (h0, .inr (22, [.int 1, .ref h1, .int 0, .ref h2, .ref h3, .ref h4, .int 0, .int 0, .int 0, .ref h5, .int 0, .ref h6, .int 0, .int 0, .ref h7, .ref h8, .ref h9, .ref h10, .ref h11, .ref h12, .int 0, .ref h13, .int 0, .ref h14, .ref h15, .ref h16, .ref h17, .ref h18]))] H := hP
    have hD : va_D A [(h2, .inr (3, [.int 0, .ref tE, .int 0])), (h0, .inr (22, [.int 1, .ref h1, .int 0, .ref h2, .ref h3, .ref h4, .int 0, .int 0, .int 0, .ref h5, .int 0, .ref h6, .int 0, .int 0, .ref h7, .ref h8, .ref h9, .ref h10, .ref h11, .ref h12, .int 0, .ref h13, .int 0, .ref h14, .ref h15, .ref h16, .ref h17, .ref h18]))] := hD
    refine lv_if_eq (tgt := 10) hx hb dX18_borne_5 (by decide) (fun h => absurd h (by decide +kernel)) (fun _ => ?_)
    refine lv_iconst (v := 0) hx hb dX18_borne_8 (by decide) ?_
    have hP9 := hP.sub (ws' := [(h0, .inr (22, [.int 1, .ref h1, .int 0, .ref h2, .ref h3, .ref h4, .int 0, .int 0, .int 0, .ref h5, .int 0, .ref h6, .int 0, .int 0, .ref h7, .ref h8, .ref h9, .ref h10, .ref h11, .ref h12, .int 0, .ref h13, .int 0, .ref h14, .ref h15, .ref h16, .ref h17, .ref h18]))]) [1] rfl
    have hD9 := hD.sub (ws' := [(h0, .inr (22, [.int 1, .ref h1, .int 0, .ref h2, .ref h3, .ref h4, .int 0, .int 0, .int 0, .ref h5, .int 0, .ref h6, .int 0, .int 0, .ref h7, .ref h8, .ref h9, .ref h10, .ref h11, .ref h12, .int 0, .ref h13, .int 0, .ref h14, .ref h15, .ref h16, .ref h17, .ref h18]))]) [1] (by decide) rfl
    exact (kq_iret (v := 0) hx hb hr hlocks hS rfl (Or.inl ⟨c_1, rfl, rfl⟩) hP9 hD9 (Nat.le_of_ble_eq_true rfl) (Nat.le_of_ble_eq_true rfl) dX18_borne_9)
  · skip
    refine W.eq (g2 := F0 m 5 ls [.int 1]) rfl ?_
    have hP : va_P D vwCl [(h2, .inr (3, [.int 0, .ref tE, .int 0])), (h0, .inr (22, [.int 1, .ref h1, .int 0, .ref h2, .ref h3, .ref h4, .int 0, .int 0, .int 0, .ref h5, .int 0, .ref h6, .int 0, .int 0, .ref h7, .ref h8, .ref h9, .ref h10, .ref h11, .ref h12, .int 0, .ref h13, .int 0, .ref h14, .ref h15, .ref h16, .ref h17, .ref h18]))] H := hP
    have hD : va_D A [(h2, .inr (3, [.int 0, .ref tE, .int 0])), (h0, .inr (22, [.int 1, .ref h1, .int 0, .ref h2, .ref h3, .ref h4, .int 0, .int 0, .int 0, .ref h5, .int 0, .ref h6, .int 0, .int 0, .ref h7, .ref h8, .ref h9, .ref h10, .ref h11, .ref h12, .int 0, .ref h13, .int 0, .ref h14, .ref h15, .ref h16, .ref h17, .ref h18]))] := hD
    refine lv_if_eq (tgt := 10) hx hb dX18_borne_5 (by decide) (fun h => absurd h (by decide +kernel)) (fun _ => ?_)
    refine lv_iconst (v := 0) hx hb dX18_borne_8 (by decide) ?_
    have hP9 := hP.sub (ws' := [(h0, .inr (22, [.int 1, .ref h1, .int 0, .ref h2, .ref h3, .ref h4, .int 0, .int 0, .int 0, .ref h5, .int 0, .ref h6, .int 0, .int 0, .ref h7, .ref h8, .ref h9, .ref h10, .ref h11, .ref h12, .int 0, .ref h13, .int 0, .ref h14, .ref h15, .ref h16, .ref h17, .ref h18]))]) [1] rfl
    have hD9 := hD.sub (ws' := [(h0, .inr (22, [.int 1, .ref h1, .int 0, .ref h2, .ref h3, .ref h4, .int 0, .int 0, .int 0, .ref h5, .int 0, .ref h6, .int 0, .int 0, .ref h7, .ref h8, .ref h9, .ref h10, .ref h11, .ref h12, .int 0, .ref h13, .int 0, .ref h14, .ref h15, .ref h16, .ref h17, .ref h18]))]) [1] (by decide) rfl
    exact (kq_iret (v := 0) hx hb hr hlocks hS rfl (Or.inr (⟨c_2, rfl, rfl⟩)) hP9 hD9 (Nat.le_of_ble_eq_true rfl) (Nat.le_of_ble_eq_true rfl) dX18_borne_9)
set_option maxHeartbeats 4000000 in
set_option maxRecDepth 100000 in
theorem c_X11_differences (l : Launch) (hfl : l.stackTraces = false) (D : va_G) (dA : Nat → ClassId) (tE tC : Nat) (h0 : Nat) (p0 : Int32) (h1 : Nat) (h2 : Nat) (h3 : Nat) (h4 : Nat) (h5 : Nat) (h6 : Nat) (h7 : Nat) (h8 : Nat) (h9 : Nat) (h10 : Nat) (h11 : Nat) (h12 : Nat) (h13 : Nat) (h14 : Nat) (h15 : Nat) (h16 : Nat) (h17 : Nat) (h18 : Nat) : Cx l D dA tE tC yX11_differences (Cond.code yX11_differences cX11_differences 2 (some .int) :: gW) ({ frames := 7, cells := 1, slots := 6, locals := 103 } : Room) [.ref h0, .int p0] [(h0, .inr (15, [.ref h1, .ref h2, .ref h3, .ref h4, .ref h5, .ref h6, .ref h7, .ref h8, .ref h9, .ref h10, .ref h11, .int 0, .int 0, .int 0])), (h6, .inr (9, [.ref h12, .ref h13, .ref h14, .ref h15, .ref h16, .ref h17, .ref h18, .int 0, .int 0]))] (fun v w1 => False) (fun E => (p0.toInt < 0 ∧ E = "java/lang/IndexOutOfBoundsException") ∨ (¬ p0.toInt < 0 ∧ E = "java/lang/IndexOutOfBoundsException")) 1 6 := by
  refine Cx_of (by decide) (Nat.le_of_ble_eq_true rfl) ?_
  intro p e s m below meth c hx hb hr hml hown hnm hlocks hgw hK A hG hA hP hD ls hl hxt
  have hl : lv_has ls 2 [(0, .ref h0), (1, .int p0)] := hl
  have hS : va_S A s.heap s.heap [] := va_S.rf
  refine lv_aload_n hx hb dX11_differences_0 rfl (lv_at hl 0 rfl) ?_
  refine lv_iload_n hx hb dX11_differences_1 rfl (lv_at hl 1 rfl) ?_
  refine kx_V (q0 := 0) (As := [.int p0]) (rest := []) (wr := []) hx hb hml hown hgw hK hG hA hP hD hS (c_X11_needPerson l hfl D dA tE tC h0 p0 h1 h2 h3 h4 h5 h6 h7 h8 h9 h10 h11 h12 h13 h14 h15 h16 h17 h18) m_6_99 m_6_101 m_s_34 m_1_1 m_6_102 hd_X11_needPerson rfl rfl ⟨(Nat.le_of_ble_eq_true rfl), (Nat.le_of_ble_eq_true rfl)⟩ [0, 1] [] rfl rfl rfl rfl (by decide) rfl rfl rfl hl.1 rfl (Nat.le_of_ble_eq_true rfl) dX11_differences_2 ⟨(Nat.le_of_ble_eq_true rfl), (Nat.le_of_ble_eq_true rfl)⟩ (fun v w1 H locs hQ hP hD hS => hQ.elim) (fun E ce q9 H locs hX hP hD hS hce hcv hcl => ?_)
  rcases hX with ⟨c_1, rfl⟩ | ⟨c_2, rfl⟩
  · skip
    exact kx_out hxt hlocks hS hce hcv hcl (Or.inl ⟨c_1, rfl⟩) (Nat.le_of_ble_eq_true rfl) (Nat.le_of_ble_eq_true rfl)
  · skip
    exact kx_out hxt hlocks hS hce hcv hcl (Or.inr (⟨c_2, rfl⟩)) (Nat.le_of_ble_eq_true rfl) (Nat.le_of_ble_eq_true rfl)
set_option maxHeartbeats 4000000 in
set_option maxRecDepth 100000 in
theorem c_L_differences (l : Launch) (hfl : l.stackTraces = false) (D : va_G) (dA : Nat → ClassId) (tE tC : Nat) (h0 : Nat) (p0 : Int32) (h1 : Nat) (h2 : Nat) (h3 : Nat) (h4 : Nat) (h5 : Nat) (h6 : Nat) (h7 : Nat) (h8 : Nat) (h9 : Nat) (h10 : Nat) (h11 : Nat) (h12 : Nat) (h13 : Nat) (h14 : Nat) (h15 : Nat) (h16 : Nat) (h17 : Nat) (h18 : Nat) (h19 : Nat) : Cx l D dA tE tC yL_differences (Cond.codeWith yL_differences cL_differences 4 (some .int) [(0, 9, 12, 21), (0, 9, 15, 36)] :: gW) ({ frames := 8, cells := 1, slots := 6, locals := 124 } : Room) [.ref h0, .int p0, .ref h1] [(h0, .inr (15, [.ref h2, .ref h3, .ref h4, .ref h5, .ref h6, .ref h7, .ref h8, .ref h9, .ref h10, .ref h11, .ref h12, .int 0, .int 0, .int 0])), (h7, .inr (9, [.ref h13, .ref h14, .ref h15, .ref h16, .ref h17, .ref h18, .ref h19, .int 0, .int 0]))] (fun v w1 => (p0.toInt < 0 ∧ v = some (.int 1) ∧ w1 = []) ∨ (¬ p0.toInt < 0 ∧ v = some (.int 1) ∧ w1 = [])) (fun E => False) 1 6 := by
  refine Ch_of (by decide) (Nat.le_of_ble_eq_true rfl) ?_
  intro p e s m below meth c hx hb hr hml hown hnm hlocks hgw hK A hG hA hP hD ls hl hxt
  have hl : lv_has ls 4 [(0, .ref h0), (1, .int p0), (2, .ref h1)] := hl
  have hS : va_S A s.heap s.heap [] := va_S.rf
  refine lv_aload_n hx hb dL_differences_0 rfl (lv_at hl 2 rfl) ?_
  refine lv_iconst (v := 0) hx hb dL_differences_1 (by decide) ?_
  refine lv_aload_n hx hb dL_differences_2 rfl (lv_at hl 0 rfl) ?_
  refine lv_iload_n hx hb dL_differences_3 rfl (lv_at hl 1 rfl) ?_
  refine kx_V (q0 := 0) (As := [.int p0]) (rest := [.int 0, .ref h1]) (wr := []) hx hb hml hown hgw hK hG hA hP hD hS (c_X11_differences l hfl D dA tE tC h0 p0 h2 h3 h4 h5 h6 h7 h8 h9 h10 h11 h12 h13 h14 h15 h16 h17 h18 h19) m_7_171 m_7_172 m_7_173 m_1_1 m_7_174 hd_X11_differences rfl rfl ⟨(Nat.le_of_ble_eq_true rfl), (Nat.le_of_ble_eq_true rfl)⟩ [0, 1] [] rfl rfl rfl rfl (by decide) rfl rfl rfl hl.1 rfl (Nat.le_of_ble_eq_true rfl) dL_differences_4 ⟨(Nat.le_of_ble_eq_true rfl), (Nat.le_of_ble_eq_true rfl)⟩ (fun v w1 H locs hQ hP hD hS => hQ.elim) (fun E ce q9 H locs hX hP hD hS hce hcv hcl => ?_)
  rcases hX with ⟨c_1, rfl⟩ | ⟨c_2, rfl⟩
  · skip
    refine vx_catch (name := "java/lang/IndexOutOfBoundsException") hown (tableOf []) { startPc := 0, endPc := 9, handlerPc := 12, catchType := 21 } (tableOf [(0, 9, 15, 36)]) hxt kx_p0 rfl (by decide) (hgw _ m_5_117) (va_Nw.use rfl (hG.2.2.2.1 ("java/lang/IndexOutOfBoundsException", "java/lang/IndexOutOfBoundsException") n_c3)) hce hcv hcl ?_
    refine W.eq (g2 := F0 m 12 ls [.ref q9]) rfl ?_
    refine lv_astore_n (lv' := [(3, .ref q9), (0, .ref h0), (1, .int p0), (2, .ref h1)]) hx hb dL_differences_12 rfl hl (by decide) rfl (fun ls hl => ?_)
    refine lv_iconst (v := 1) hx hb dL_differences_13 (by decide) ?_
    have hP9 := hP.sub (ws' := []) [] rfl
    have hD9 := hD.sub (ws' := []) [] (by decide) rfl
    exact vx_ret (kq_iret (v := 1) hx hb hr hlocks hS rfl (Or.inl ⟨c_1, rfl, rfl⟩) hP9 hD9 (Nat.le_of_ble_eq_true rfl) (Nat.le_of_ble_eq_true rfl) dL_differences_14)
  · skip
    refine vx_catch (name := "java/lang/IndexOutOfBoundsException") hown (tableOf []) { startPc := 0, endPc := 9, handlerPc := 12, catchType := 21 } (tableOf [(0, 9, 15, 36)]) hxt kx_p0 rfl (by decide) (hgw _ m_5_117) (va_Nw.use rfl (hG.2.2.2.1 ("java/lang/IndexOutOfBoundsException", "java/lang/IndexOutOfBoundsException") n_c3)) hce hcv hcl ?_
    refine W.eq (g2 := F0 m 12 ls [.ref q9]) rfl ?_
    refine lv_astore_n (lv' := [(3, .ref q9), (0, .ref h0), (1, .int p0), (2, .ref h1)]) hx hb dL_differences_12 rfl hl (by decide) rfl (fun ls hl => ?_)
    refine lv_iconst (v := 1) hx hb dL_differences_13 (by decide) ?_
    have hP9 := hP.sub (ws' := []) [] rfl
    have hD9 := hD.sub (ws' := []) [] (by decide) rfl
    exact vx_ret (kq_iret (v := 1) hx hb hr hlocks hS rfl (Or.inr (⟨c_2, rfl, rfl⟩)) hP9 hD9 (Nat.le_of_ble_eq_true rfl) (Nat.le_of_ble_eq_true rfl) dL_differences_14)
set_option maxHeartbeats 4000000 in
set_option maxRecDepth 100000 in
theorem c_X18_differences (l : Launch) (hfl : l.stackTraces = false) (D : va_G) (dA : Nat → ClassId) (tE tC : Nat) (h0 : Nat) (p0 : Int32) (h1 : Nat) (h2 : Nat) (h3 : Nat) (h4 : Nat) (h5 : Nat) (h6 : Nat) (h7 : Nat) (h8 : Nat) (h9 : Nat) (h10 : Nat) (h11 : Nat) (h12 : Nat) (h13 : Nat) (h14 : Nat) (h15 : Nat) (h16 : Nat) (h17 : Nat) (h18 : Nat) : Ct l D dA tE tC yX18_differences (Cond.code yX18_differences cX18_differences 3 (some .int) :: gW) ({ frames := 3, cells := 0, slots := 0, locals := 64 } : Room) [.ref h0, .int p0] [(h0, .inr (22, [.int 0, .ref h1, .int 0, .ref h2, .ref h3, .ref h4, .int 0, .int 0, .int 0, .ref h5, .int 0, .ref h6, .int 0, .int 0, .ref h7, .ref h8, .ref h9, .ref h10, .ref h11, .ref h12, .int 0, .ref h13, .int 0, .ref h14, .ref h15, .ref h16, .ref h17, .ref h18])), (h2, .inr (3, [.int 0, .ref tE, .int 0]))] (fun v w1 => (p0.toInt < 0 ∧ v = some (.int 0) ∧ w1 = [(h0, .inr (22, [.int 1, .ref h1, .int 0, .ref h2, .ref h3, .ref h4, .int 0, .int 0, .int 0, .ref h5, .int 0, .ref h6, .int 0, .int 0, .ref h7, .ref h8, .ref h9, .ref h10, .ref h11, .ref h12, .int 0, .ref h13, .int 0, .ref h14, .ref h15, .ref h16, .ref h17, .ref h18]))]) ∨ (¬ p0.toInt < 0 ∧ v = some (.int 0) ∧ w1 = [(h0, .inr (22, [.int 1, .ref h1, .int 0, .ref h2, .ref h3, .ref h4, .int 0, .int 0, .int 0, .ref h5, .int 0, .ref h6, .int 0, .int 0, .ref h7, .ref h8, .ref h9, .ref h10, .ref h11, .ref h12, .int 0, .ref h13, .int 0, .ref h14, .ref h15, .ref h16, .ref h17, .ref h18]))])) 0 0 := by
  refine Ct_of (by decide) (Nat.le_of_ble_eq_true rfl) ?_
  intro p e s m below meth c hx hb hr hml hown hnm hlocks hgw hK A hG hA hP hD ls hl
  have hl : lv_has ls 3 [(0, .ref h0), (1, .int p0)] := hl
  have hS : va_S A s.heap s.heap [] := va_S.rf
  refine lv_aload_n hx hb dX18_differences_0 rfl (lv_at hl 0 rfl) ?_
  refine lv_iload_n hx hb dX18_differences_1 rfl (lv_at hl 1 rfl) ?_
  refine kq_V (q0 := 0) (As := [.int p0]) (rest := []) (wr := []) hx hb hml hown hgw hK hG hA hP hD hS (c_X18_failsPerson l hfl D dA tE tC h0 p0 h1 h2 h3 h4 h5 h6 h7 h8 h9 h10 h11 h12 h13 h14 h15 h16 h17 h18) m_12_6 m_12_8 m_s_84 m_1_15 m_12_9 hd_X18_failsPerson rfl rfl ⟨(Nat.le_of_ble_eq_true rfl), (Nat.le_of_ble_eq_true rfl)⟩ [0, 1] [] rfl rfl rfl rfl (by decide) rfl rfl rfl hl.1 rfl (Nat.le_of_ble_eq_true rfl) dX18_differences_2 ⟨(Nat.le_of_ble_eq_true rfl), (Nat.le_of_ble_eq_true rfl)⟩ (fun v w1 H locs hQ hP hD hS => ?_)
  rcases hQ with ⟨c_1, rfl, rfl⟩ | ⟨c_2, rfl, rfl⟩
  · skip
    refine W.eq (g2 := F0 m 5 ls [.int 1]) rfl ?_
    have hP : va_P D vwCl [(h2, .inr (3, [.int 0, .ref tE, .int 0])), (h0, .inr (22, [.int 1, .ref h1, .int 0, .ref h2, .ref h3, .ref h4, .int 0, .int 0, .int 0, .ref h5, .int 0, .ref h6, .int 0, .int 0, .ref h7, .ref h8, .ref h9, .ref h10, .ref h11, .ref h12, .int 0, .ref h13, .int 0, .ref h14, .ref h15, .ref h16, .ref h17, .ref h18]))] H := hP
    have hD : va_D A [(h2, .inr (3, [.int 0, .ref tE, .int 0])), (h0, .inr (22, [.int 1, .ref h1, .int 0, .ref h2, .ref h3, .ref h4, .int 0, .int 0, .int 0, .ref h5, .int 0, .ref h6, .int 0, .int 0, .ref h7, .ref h8, .ref h9, .ref h10, .ref h11, .ref h12, .int 0, .ref h13, .int 0, .ref h14, .ref h15, .ref h16, .ref h17, .ref h18]))] := hD
    refine lv_if_eq (tgt := 10) hx hb dX18_differences_5 (by decide) (fun h => absurd h (by decide +kernel)) (fun _ => ?_)
    refine lv_iconst (v := 0) hx hb dX18_differences_8 (by decide) ?_
    have hP9 := hP.sub (ws' := [(h0, .inr (22, [.int 1, .ref h1, .int 0, .ref h2, .ref h3, .ref h4, .int 0, .int 0, .int 0, .ref h5, .int 0, .ref h6, .int 0, .int 0, .ref h7, .ref h8, .ref h9, .ref h10, .ref h11, .ref h12, .int 0, .ref h13, .int 0, .ref h14, .ref h15, .ref h16, .ref h17, .ref h18]))]) [1] rfl
    have hD9 := hD.sub (ws' := [(h0, .inr (22, [.int 1, .ref h1, .int 0, .ref h2, .ref h3, .ref h4, .int 0, .int 0, .int 0, .ref h5, .int 0, .ref h6, .int 0, .int 0, .ref h7, .ref h8, .ref h9, .ref h10, .ref h11, .ref h12, .int 0, .ref h13, .int 0, .ref h14, .ref h15, .ref h16, .ref h17, .ref h18]))]) [1] (by decide) rfl
    exact (kq_iret (v := 0) hx hb hr hlocks hS rfl (Or.inl ⟨c_1, rfl, rfl⟩) hP9 hD9 (Nat.le_of_ble_eq_true rfl) (Nat.le_of_ble_eq_true rfl) dX18_differences_9)
  · skip
    refine W.eq (g2 := F0 m 5 ls [.int 1]) rfl ?_
    have hP : va_P D vwCl [(h2, .inr (3, [.int 0, .ref tE, .int 0])), (h0, .inr (22, [.int 1, .ref h1, .int 0, .ref h2, .ref h3, .ref h4, .int 0, .int 0, .int 0, .ref h5, .int 0, .ref h6, .int 0, .int 0, .ref h7, .ref h8, .ref h9, .ref h10, .ref h11, .ref h12, .int 0, .ref h13, .int 0, .ref h14, .ref h15, .ref h16, .ref h17, .ref h18]))] H := hP
    have hD : va_D A [(h2, .inr (3, [.int 0, .ref tE, .int 0])), (h0, .inr (22, [.int 1, .ref h1, .int 0, .ref h2, .ref h3, .ref h4, .int 0, .int 0, .int 0, .ref h5, .int 0, .ref h6, .int 0, .int 0, .ref h7, .ref h8, .ref h9, .ref h10, .ref h11, .ref h12, .int 0, .ref h13, .int 0, .ref h14, .ref h15, .ref h16, .ref h17, .ref h18]))] := hD
    refine lv_if_eq (tgt := 10) hx hb dX18_differences_5 (by decide) (fun h => absurd h (by decide +kernel)) (fun _ => ?_)
    refine lv_iconst (v := 0) hx hb dX18_differences_8 (by decide) ?_
    have hP9 := hP.sub (ws' := [(h0, .inr (22, [.int 1, .ref h1, .int 0, .ref h2, .ref h3, .ref h4, .int 0, .int 0, .int 0, .ref h5, .int 0, .ref h6, .int 0, .int 0, .ref h7, .ref h8, .ref h9, .ref h10, .ref h11, .ref h12, .int 0, .ref h13, .int 0, .ref h14, .ref h15, .ref h16, .ref h17, .ref h18]))]) [1] rfl
    have hD9 := hD.sub (ws' := [(h0, .inr (22, [.int 1, .ref h1, .int 0, .ref h2, .ref h3, .ref h4, .int 0, .int 0, .int 0, .ref h5, .int 0, .ref h6, .int 0, .int 0, .ref h7, .ref h8, .ref h9, .ref h10, .ref h11, .ref h12, .int 0, .ref h13, .int 0, .ref h14, .ref h15, .ref h16, .ref h17, .ref h18]))]) [1] (by decide) rfl
    exact (kq_iret (v := 0) hx hb hr hlocks hS rfl (Or.inr (⟨c_2, rfl, rfl⟩)) hP9 hD9 (Nat.le_of_ble_eq_true rfl) (Nat.le_of_ble_eq_true rfl) dX18_differences_9)
set_option maxHeartbeats 4000000 in
set_option maxRecDepth 100000 in
theorem c_X11_difference (l : Launch) (hfl : l.stackTraces = false) (D : va_G) (dA : Nat → ClassId) (tE tC : Nat) (h0 : Nat) (p0 : Int32) (p1 : Int32) (h1 : Nat) (h2 : Nat) (h3 : Nat) (h4 : Nat) (h5 : Nat) (h6 : Nat) (h7 : Nat) (h8 : Nat) (h9 : Nat) (h10 : Nat) (h11 : Nat) (h12 : Nat) (h13 : Nat) (h14 : Nat) (h15 : Nat) (h16 : Nat) (h17 : Nat) (h18 : Nat) : Cx l D dA tE tC yX11_difference (Cond.code yX11_difference cX11_difference 3 (some .int) :: gW) ({ frames := 7, cells := 1, slots := 6, locals := 103 } : Room) [.ref h0, .int p0, .int p1] [(h0, .inr (15, [.ref h1, .ref h2, .ref h3, .ref h4, .ref h5, .ref h6, .ref h7, .ref h8, .ref h9, .ref h10, .ref h11, .int 0, .int 0, .int 0])), (h6, .inr (9, [.ref h12, .ref h13, .ref h14, .ref h15, .ref h16, .ref h17, .ref h18, .int 0, .int 0]))] (fun v w1 => False) (fun E => (p0.toInt < 0 ∧ E = "java/lang/IndexOutOfBoundsException") ∨ (¬ p0.toInt < 0 ∧ E = "java/lang/IndexOutOfBoundsException")) 1 6 := by
  refine Cx_of (by decide) (Nat.le_of_ble_eq_true rfl) ?_
  intro p e s m below meth c hx hb hr hml hown hnm hlocks hgw hK A hG hA hP hD ls hl hxt
  have hl : lv_has ls 3 [(0, .ref h0), (1, .int p0), (2, .int p1)] := hl
  have hS : va_S A s.heap s.heap [] := va_S.rf
  refine lv_aload_n hx hb dX11_difference_0 rfl (lv_at hl 0 rfl) ?_
  refine lv_iload_n hx hb dX11_difference_1 rfl (lv_at hl 1 rfl) ?_
  refine kx_V (q0 := 0) (As := [.int p0]) (rest := []) (wr := []) hx hb hml hown hgw hK hG hA hP hD hS (c_X11_needPerson l hfl D dA tE tC h0 p0 h1 h2 h3 h4 h5 h6 h7 h8 h9 h10 h11 h12 h13 h14 h15 h16 h17 h18) m_6_99 m_6_101 m_s_34 m_1_1 m_6_102 hd_X11_needPerson rfl rfl ⟨(Nat.le_of_ble_eq_true rfl), (Nat.le_of_ble_eq_true rfl)⟩ [0, 1] [] rfl rfl rfl rfl (by decide) rfl rfl rfl hl.1 rfl (Nat.le_of_ble_eq_true rfl) dX11_difference_2 ⟨(Nat.le_of_ble_eq_true rfl), (Nat.le_of_ble_eq_true rfl)⟩ (fun v w1 H locs hQ hP hD hS => hQ.elim) (fun E ce q9 H locs hX hP hD hS hce hcv hcl => ?_)
  rcases hX with ⟨c_1, rfl⟩ | ⟨c_2, rfl⟩
  · skip
    exact kx_out hxt hlocks hS hce hcv hcl (Or.inl ⟨c_1, rfl⟩) (Nat.le_of_ble_eq_true rfl) (Nat.le_of_ble_eq_true rfl)
  · skip
    exact kx_out hxt hlocks hS hce hcv hcl (Or.inr (⟨c_2, rfl⟩)) (Nat.le_of_ble_eq_true rfl) (Nat.le_of_ble_eq_true rfl)
set_option maxHeartbeats 4000000 in
set_option maxRecDepth 100000 in
theorem c_L_difference (l : Launch) (hfl : l.stackTraces = false) (D : va_G) (dA : Nat → ClassId) (tE tC : Nat) (h0 : Nat) (p0 : Int32) (p1 : Int32) (h1 : Nat) (h2 : Nat) (h3 : Nat) (h4 : Nat) (h5 : Nat) (h6 : Nat) (h7 : Nat) (h8 : Nat) (h9 : Nat) (h10 : Nat) (h11 : Nat) (h12 : Nat) (h13 : Nat) (h14 : Nat) (h15 : Nat) (h16 : Nat) (h17 : Nat) (h18 : Nat) (h19 : Nat) : Cx l D dA tE tC yL_difference (Cond.codeWith yL_difference cL_difference 5 (some .int) [(0, 10, 13, 21), (0, 10, 17, 36)] :: gW) ({ frames := 8, cells := 1, slots := 6, locals := 125 } : Room) [.ref h0, .int p0, .int p1, .ref h1] [(h0, .inr (15, [.ref h2, .ref h3, .ref h4, .ref h5, .ref h6, .ref h7, .ref h8, .ref h9, .ref h10, .ref h11, .ref h12, .int 0, .int 0, .int 0])), (h7, .inr (9, [.ref h13, .ref h14, .ref h15, .ref h16, .ref h17, .ref h18, .ref h19, .int 0, .int 0]))] (fun v w1 => (p0.toInt < 0 ∧ v = some (.int 1) ∧ w1 = []) ∨ (¬ p0.toInt < 0 ∧ v = some (.int 1) ∧ w1 = [])) (fun E => False) 1 6 := by
  refine Ch_of (by decide) (Nat.le_of_ble_eq_true rfl) ?_
  intro p e s m below meth c hx hb hr hml hown hnm hlocks hgw hK A hG hA hP hD ls hl hxt
  have hl : lv_has ls 5 [(0, .ref h0), (1, .int p0), (2, .int p1), (3, .ref h1)] := hl
  have hS : va_S A s.heap s.heap [] := va_S.rf
  refine lv_aload_n hx hb dL_difference_0 rfl (lv_at hl 3 rfl) ?_
  refine lv_iconst (v := 0) hx hb dL_difference_1 (by decide) ?_
  refine lv_aload_n hx hb dL_difference_2 rfl (lv_at hl 0 rfl) ?_
  refine lv_iload_n hx hb dL_difference_3 rfl (lv_at hl 1 rfl) ?_
  refine lv_iload_n hx hb dL_difference_4 rfl (lv_at hl 2 rfl) ?_
  refine kx_V (q0 := 0) (As := [.int p0, .int p1]) (rest := [.int 0, .ref h1]) (wr := []) hx hb hml hown hgw hK hG hA hP hD hS (c_X11_difference l hfl D dA tE tC h0 p0 p1 h2 h3 h4 h5 h6 h7 h8 h9 h10 h11 h12 h13 h14 h15 h16 h17 h18 h19) m_7_182 m_7_183 m_7_184 m_1_1 m_7_185 hd_X11_difference rfl rfl ⟨(Nat.le_of_ble_eq_true rfl), (Nat.le_of_ble_eq_true rfl)⟩ [0, 1] [] rfl rfl rfl rfl (by decide) rfl rfl rfl hl.1 rfl (Nat.le_of_ble_eq_true rfl) dL_difference_5 ⟨(Nat.le_of_ble_eq_true rfl), (Nat.le_of_ble_eq_true rfl)⟩ (fun v w1 H locs hQ hP hD hS => hQ.elim) (fun E ce q9 H locs hX hP hD hS hce hcv hcl => ?_)
  rcases hX with ⟨c_1, rfl⟩ | ⟨c_2, rfl⟩
  · skip
    refine vx_catch (name := "java/lang/IndexOutOfBoundsException") hown (tableOf []) { startPc := 0, endPc := 10, handlerPc := 13, catchType := 21 } (tableOf [(0, 10, 17, 36)]) hxt kx_p0 rfl (by decide) (hgw _ m_5_117) (va_Nw.use rfl (hG.2.2.2.1 ("java/lang/IndexOutOfBoundsException", "java/lang/IndexOutOfBoundsException") n_c3)) hce hcv hcl ?_
    refine W.eq (g2 := F0 m 13 ls [.ref q9]) rfl ?_
    refine lv_astore (lv' := [(4, .ref q9), (0, .ref h0), (1, .int p0), (2, .int p1), (3, .ref h1)]) hx hb dL_difference_13 hl (by decide) rfl (fun ls hl => ?_)
    refine lv_iconst (v := 1) hx hb dL_difference_15 (by decide) ?_
    have hP9 := hP.sub (ws' := []) [] rfl
    have hD9 := hD.sub (ws' := []) [] (by decide) rfl
    exact vx_ret (kq_iret (v := 1) hx hb hr hlocks hS rfl (Or.inl ⟨c_1, rfl, rfl⟩) hP9 hD9 (Nat.le_of_ble_eq_true rfl) (Nat.le_of_ble_eq_true rfl) dL_difference_16)
  · skip
    refine vx_catch (name := "java/lang/IndexOutOfBoundsException") hown (tableOf []) { startPc := 0, endPc := 10, handlerPc := 13, catchType := 21 } (tableOf [(0, 10, 17, 36)]) hxt kx_p0 rfl (by decide) (hgw _ m_5_117) (va_Nw.use rfl (hG.2.2.2.1 ("java/lang/IndexOutOfBoundsException", "java/lang/IndexOutOfBoundsException") n_c3)) hce hcv hcl ?_
    refine W.eq (g2 := F0 m 13 ls [.ref q9]) rfl ?_
    refine lv_astore (lv' := [(4, .ref q9), (0, .ref h0), (1, .int p0), (2, .int p1), (3, .ref h1)]) hx hb dL_difference_13 hl (by decide) rfl (fun ls hl => ?_)
    refine lv_iconst (v := 1) hx hb dL_difference_15 (by decide) ?_
    have hP9 := hP.sub (ws' := []) [] rfl
    have hD9 := hD.sub (ws' := []) [] (by decide) rfl
    exact vx_ret (kq_iret (v := 1) hx hb hr hlocks hS rfl (Or.inr (⟨c_2, rfl, rfl⟩)) hP9 hD9 (Nat.le_of_ble_eq_true rfl) (Nat.le_of_ble_eq_true rfl) dL_difference_16)
set_option maxHeartbeats 4000000 in
set_option maxRecDepth 100000 in
theorem c_X18_difference (l : Launch) (hfl : l.stackTraces = false) (D : va_G) (dA : Nat → ClassId) (tE tC : Nat) (h0 : Nat) (p0 : Int32) (p1 : Int32) (h1 : Nat) (h2 : Nat) (h3 : Nat) (h4 : Nat) (h5 : Nat) (h6 : Nat) (h7 : Nat) (h8 : Nat) (h9 : Nat) (h10 : Nat) (h11 : Nat) (h12 : Nat) (h13 : Nat) (h14 : Nat) (h15 : Nat) (h16 : Nat) (h17 : Nat) (h18 : Nat) : Ct l D dA tE tC yX18_difference (Cond.code yX18_difference cX18_difference 4 (some .int) :: gW) ({ frames := 3, cells := 0, slots := 0, locals := 64 } : Room) [.ref h0, .int p0, .int p1] [(h0, .inr (22, [.int 0, .ref h1, .int 0, .ref h2, .ref h3, .ref h4, .int 0, .int 0, .int 0, .ref h5, .int 0, .ref h6, .int 0, .int 0, .ref h7, .ref h8, .ref h9, .ref h10, .ref h11, .ref h12, .int 0, .ref h13, .int 0, .ref h14, .ref h15, .ref h16, .ref h17, .ref h18])), (h2, .inr (3, [.int 0, .ref tE, .int 0]))] (fun v w1 => (p0.toInt < 0 ∧ v = some (.int 0) ∧ w1 = [(h0, .inr (22, [.int 1, .ref h1, .int 0, .ref h2, .ref h3, .ref h4, .int 0, .int 0, .int 0, .ref h5, .int 0, .ref h6, .int 0, .int 0, .ref h7, .ref h8, .ref h9, .ref h10, .ref h11, .ref h12, .int 0, .ref h13, .int 0, .ref h14, .ref h15, .ref h16, .ref h17, .ref h18]))]) ∨ (¬ p0.toInt < 0 ∧ v = some (.int 0) ∧ w1 = [(h0, .inr (22, [.int 1, .ref h1, .int 0, .ref h2, .ref h3, .ref h4, .int 0, .int 0, .int 0, .ref h5, .int 0, .ref h6, .int 0, .int 0, .ref h7, .ref h8, .ref h9, .ref h10, .ref h11, .ref h12, .int 0, .ref h13, .int 0, .ref h14, .ref h15, .ref h16, .ref h17, .ref h18]))])) 0 0 := by
  refine Ct_of (by decide) (Nat.le_of_ble_eq_true rfl) ?_
  intro p e s m below meth c hx hb hr hml hown hnm hlocks hgw hK A hG hA hP hD ls hl
  have hl : lv_has ls 4 [(0, .ref h0), (1, .int p0), (2, .int p1)] := hl
  have hS : va_S A s.heap s.heap [] := va_S.rf
  refine lv_aload_n hx hb dX18_difference_0 rfl (lv_at hl 0 rfl) ?_
  refine lv_iload_n hx hb dX18_difference_1 rfl (lv_at hl 1 rfl) ?_
  refine kq_V (q0 := 0) (As := [.int p0]) (rest := []) (wr := []) hx hb hml hown hgw hK hG hA hP hD hS (c_X18_failsPerson l hfl D dA tE tC h0 p0 h1 h2 h3 h4 h5 h6 h7 h8 h9 h10 h11 h12 h13 h14 h15 h16 h17 h18) m_12_6 m_12_8 m_s_84 m_1_15 m_12_9 hd_X18_failsPerson rfl rfl ⟨(Nat.le_of_ble_eq_true rfl), (Nat.le_of_ble_eq_true rfl)⟩ [0, 1] [] rfl rfl rfl rfl (by decide) rfl rfl rfl hl.1 rfl (Nat.le_of_ble_eq_true rfl) dX18_difference_2 ⟨(Nat.le_of_ble_eq_true rfl), (Nat.le_of_ble_eq_true rfl)⟩ (fun v w1 H locs hQ hP hD hS => ?_)
  rcases hQ with ⟨c_1, rfl, rfl⟩ | ⟨c_2, rfl, rfl⟩
  · skip
    refine W.eq (g2 := F0 m 5 ls [.int 1]) rfl ?_
    have hP : va_P D vwCl [(h2, .inr (3, [.int 0, .ref tE, .int 0])), (h0, .inr (22, [.int 1, .ref h1, .int 0, .ref h2, .ref h3, .ref h4, .int 0, .int 0, .int 0, .ref h5, .int 0, .ref h6, .int 0, .int 0, .ref h7, .ref h8, .ref h9, .ref h10, .ref h11, .ref h12, .int 0, .ref h13, .int 0, .ref h14, .ref h15, .ref h16, .ref h17, .ref h18]))] H := hP
    have hD : va_D A [(h2, .inr (3, [.int 0, .ref tE, .int 0])), (h0, .inr (22, [.int 1, .ref h1, .int 0, .ref h2, .ref h3, .ref h4, .int 0, .int 0, .int 0, .ref h5, .int 0, .ref h6, .int 0, .int 0, .ref h7, .ref h8, .ref h9, .ref h10, .ref h11, .ref h12, .int 0, .ref h13, .int 0, .ref h14, .ref h15, .ref h16, .ref h17, .ref h18]))] := hD
    refine lv_if_eq (tgt := 10) hx hb dX18_difference_5 (by decide) (fun h => absurd h (by decide +kernel)) (fun _ => ?_)
    refine lv_iconst (v := 0) hx hb dX18_difference_8 (by decide) ?_
    have hP9 := hP.sub (ws' := [(h0, .inr (22, [.int 1, .ref h1, .int 0, .ref h2, .ref h3, .ref h4, .int 0, .int 0, .int 0, .ref h5, .int 0, .ref h6, .int 0, .int 0, .ref h7, .ref h8, .ref h9, .ref h10, .ref h11, .ref h12, .int 0, .ref h13, .int 0, .ref h14, .ref h15, .ref h16, .ref h17, .ref h18]))]) [1] rfl
    have hD9 := hD.sub (ws' := [(h0, .inr (22, [.int 1, .ref h1, .int 0, .ref h2, .ref h3, .ref h4, .int 0, .int 0, .int 0, .ref h5, .int 0, .ref h6, .int 0, .int 0, .ref h7, .ref h8, .ref h9, .ref h10, .ref h11, .ref h12, .int 0, .ref h13, .int 0, .ref h14, .ref h15, .ref h16, .ref h17, .ref h18]))]) [1] (by decide) rfl
    exact (kq_iret (v := 0) hx hb hr hlocks hS rfl (Or.inl ⟨c_1, rfl, rfl⟩) hP9 hD9 (Nat.le_of_ble_eq_true rfl) (Nat.le_of_ble_eq_true rfl) dX18_difference_9)
  · skip
    refine W.eq (g2 := F0 m 5 ls [.int 1]) rfl ?_
    have hP : va_P D vwCl [(h2, .inr (3, [.int 0, .ref tE, .int 0])), (h0, .inr (22, [.int 1, .ref h1, .int 0, .ref h2, .ref h3, .ref h4, .int 0, .int 0, .int 0, .ref h5, .int 0, .ref h6, .int 0, .int 0, .ref h7, .ref h8, .ref h9, .ref h10, .ref h11, .ref h12, .int 0, .ref h13, .int 0, .ref h14, .ref h15, .ref h16, .ref h17, .ref h18]))] H := hP
    have hD : va_D A [(h2, .inr (3, [.int 0, .ref tE, .int 0])), (h0, .inr (22, [.int 1, .ref h1, .int 0, .ref h2, .ref h3, .ref h4, .int 0, .int 0, .int 0, .ref h5, .int 0, .ref h6, .int 0, .int 0, .ref h7, .ref h8, .ref h9, .ref h10, .ref h11, .ref h12, .int 0, .ref h13, .int 0, .ref h14, .ref h15, .ref h16, .ref h17, .ref h18]))] := hD
    refine lv_if_eq (tgt := 10) hx hb dX18_difference_5 (by decide) (fun h => absurd h (by decide +kernel)) (fun _ => ?_)
    refine lv_iconst (v := 0) hx hb dX18_difference_8 (by decide) ?_
    have hP9 := hP.sub (ws' := [(h0, .inr (22, [.int 1, .ref h1, .int 0, .ref h2, .ref h3, .ref h4, .int 0, .int 0, .int 0, .ref h5, .int 0, .ref h6, .int 0, .int 0, .ref h7, .ref h8, .ref h9, .ref h10, .ref h11, .ref h12, .int 0, .ref h13, .int 0, .ref h14, .ref h15, .ref h16, .ref h17, .ref h18]))]) [1] rfl
    have hD9 := hD.sub (ws' := [(h0, .inr (22, [.int 1, .ref h1, .int 0, .ref h2, .ref h3, .ref h4, .int 0, .int 0, .int 0, .ref h5, .int 0, .ref h6, .int 0, .int 0, .ref h7, .ref h8, .ref h9, .ref h10, .ref h11, .ref h12, .int 0, .ref h13, .int 0, .ref h14, .ref h15, .ref h16, .ref h17, .ref h18]))]) [1] (by decide) rfl
    exact (kq_iret (v := 0) hx hb hr hlocks hS rfl (Or.inr (⟨c_2, rfl, rfl⟩)) hP9 hD9 (Nat.le_of_ble_eq_true rfl) (Nat.le_of_ble_eq_true rfl) dX18_difference_9)
set_option maxHeartbeats 4000000 in
set_option maxRecDepth 100000 in
theorem c_X11_isInAbeyance (l : Launch) (hfl : l.stackTraces = false) (D : va_G) (dA : Nat → ClassId) (tE tC : Nat) (h0 : Nat) (p0 : Int32) (h1 : Nat) (h2 : Nat) (h3 : Nat) (h4 : Nat) (h5 : Nat) (h6 : Nat) (h7 : Nat) (h8 : Nat) (h9 : Nat) (h10 : Nat) (h11 : Nat) (h12 : Nat) (h13 : Nat) (h14 : Nat) (h15 : Nat) (h16 : Nat) (h17 : Nat) (h18 : Nat) (h19 : Nat) (h20 : Nat) (h21 : Nat) : Cx l D dA tE tC yX11_isInAbeyance (Cond.code yX11_isInAbeyance cX11_isInAbeyance 2 (some .boolean) :: gW) ({ frames := 7, cells := 1, slots := 6, locals := 103 } : Room) [.ref h0, .int p0] [(h0, .inr (15, [.ref h1, .ref h2, .ref h3, .ref h4, .ref h5, .ref h6, .ref h7, .ref h8, .ref h9, .ref h10, .ref h11, .int 0, .int 0, .int 0])), (h7, .inr (13, [.ref h1, .ref h12, .ref h13, .ref h14, .ref h15, .ref h16, .ref h17, .ref h18, .ref h19, .ref h20, .ref h21, .int 0]))] (fun v w1 => False) (fun E => (p0.toInt < 0 ∧ E = "java/lang/IndexOutOfBoundsException") ∨ (¬ p0.toInt < 0 ∧ E = "java/lang/IndexOutOfBoundsException")) 1 6 := by
  refine Cx_of (by decide) (Nat.le_of_ble_eq_true rfl) ?_
  intro p e s m below meth c hx hb hr hml hown hnm hlocks hgw hK A hG hA hP hD ls hl hxt
  have hl : lv_has ls 2 [(0, .ref h0), (1, .int p0)] := hl
  have hS : va_S A s.heap s.heap [] := va_S.rf
  refine lv_aload_n hx hb dX11_isInAbeyance_0 rfl (lv_at hl 0 rfl) ?_
  refine lv_iload_n hx hb dX11_isInAbeyance_1 rfl (lv_at hl 1 rfl) ?_
  refine kx_V (q0 := 0) (As := [.int p0]) (rest := []) (wr := []) hx hb hml hown hgw hK hG hA hP hD hS (c_X11_needArms l hfl D dA tE tC h0 p0 h1 h2 h3 h4 h5 h6 h7 h8 h9 h10 h11 h12 h13 h14 h15 h16 h17 h18 h19 h20 h21) m_7_136 m_7_138 m_s_49 m_1_1 m_7_139 hd_X11_needArms rfl rfl ⟨(Nat.le_of_ble_eq_true rfl), (Nat.le_of_ble_eq_true rfl)⟩ [0, 1] [] rfl rfl rfl rfl (by decide) rfl rfl rfl hl.1 rfl (Nat.le_of_ble_eq_true rfl) dX11_isInAbeyance_2 ⟨(Nat.le_of_ble_eq_true rfl), (Nat.le_of_ble_eq_true rfl)⟩ (fun v w1 H locs hQ hP hD hS => hQ.elim) (fun E ce q9 H locs hX hP hD hS hce hcv hcl => ?_)
  rcases hX with ⟨c_1, rfl⟩ | ⟨c_2, rfl⟩
  · skip
    exact kx_out hxt hlocks hS hce hcv hcl (Or.inl ⟨c_1, rfl⟩) (Nat.le_of_ble_eq_true rfl) (Nat.le_of_ble_eq_true rfl)
  · skip
    exact kx_out hxt hlocks hS hce hcv hcl (Or.inr (⟨c_2, rfl⟩)) (Nat.le_of_ble_eq_true rfl) (Nat.le_of_ble_eq_true rfl)
set_option maxHeartbeats 4000000 in
set_option maxRecDepth 100000 in
theorem c_L_isInAbeyance (l : Launch) (hfl : l.stackTraces = false) (D : va_G) (dA : Nat → ClassId) (tE tC : Nat) (h0 : Nat) (p0 : Int32) (h1 : Nat) (h2 : Nat) (h3 : Nat) (h4 : Nat) (h5 : Nat) (h6 : Nat) (h7 : Nat) (h8 : Nat) (h9 : Nat) (h10 : Nat) (h11 : Nat) (h12 : Nat) (h13 : Nat) (h14 : Nat) (h15 : Nat) (h16 : Nat) (h17 : Nat) (h18 : Nat) (h19 : Nat) (h20 : Nat) (h21 : Nat) (h22 : Nat) : Cx l D dA tE tC yL_isInAbeyance (Cond.codeWith yL_isInAbeyance cL_isInAbeyance 4 (some .int) [(0, 16, 19, 21)] :: gW) ({ frames := 8, cells := 1, slots := 6, locals := 124 } : Room) [.ref h0, .int p0, .ref h1] [(h0, .inr (15, [.ref h2, .ref h3, .ref h4, .ref h5, .ref h6, .ref h7, .ref h8, .ref h9, .ref h10, .ref h11, .ref h12, .int 0, .int 0, .int 0])), (h8, .inr (13, [.ref h2, .ref h13, .ref h14, .ref h15, .ref h16, .ref h17, .ref h18, .ref h19, .ref h20, .ref h21, .ref h22, .int 0]))] (fun v w1 => (p0.toInt < 0 ∧ v = some (.int 1) ∧ w1 = []) ∨ (¬ p0.toInt < 0 ∧ v = some (.int 1) ∧ w1 = [])) (fun E => False) 1 6 := by
  refine Ch_of (by decide) (Nat.le_of_ble_eq_true rfl) ?_
  intro p e s m below meth c hx hb hr hml hown hnm hlocks hgw hK A hG hA hP hD ls hl hxt
  have hl : lv_has ls 4 [(0, .ref h0), (1, .int p0), (2, .ref h1)] := hl
  have hS : va_S A s.heap s.heap [] := va_S.rf
  refine lv_aload_n hx hb dL_isInAbeyance_0 rfl (lv_at hl 2 rfl) ?_
  refine lv_iconst (v := 0) hx hb dL_isInAbeyance_1 (by decide) ?_
  refine lv_aload_n hx hb dL_isInAbeyance_2 rfl (lv_at hl 0 rfl) ?_
  refine lv_iload_n hx hb dL_isInAbeyance_3 rfl (lv_at hl 1 rfl) ?_
  refine kx_V (q0 := 0) (As := [.int p0]) (rest := [.int 0, .ref h1]) (wr := []) hx hb hml hown hgw hK hG hA hP hD hS (c_X11_isInAbeyance l hfl D dA tE tC h0 p0 h2 h3 h4 h5 h6 h7 h8 h9 h10 h11 h12 h13 h14 h15 h16 h17 h18 h19 h20 h21 h22) m_7_194 m_7_195 m_7_196 m_1_1 m_7_197 hd_X11_isInAbeyance rfl rfl ⟨(Nat.le_of_ble_eq_true rfl), (Nat.le_of_ble_eq_true rfl)⟩ [0, 1] [] rfl rfl rfl rfl (by decide) rfl rfl rfl hl.1 rfl (Nat.le_of_ble_eq_true rfl) dL_isInAbeyance_4 ⟨(Nat.le_of_ble_eq_true rfl), (Nat.le_of_ble_eq_true rfl)⟩ (fun v w1 H locs hQ hP hD hS => hQ.elim) (fun E ce q9 H locs hX hP hD hS hce hcv hcl => ?_)
  rcases hX with ⟨c_1, rfl⟩ | ⟨c_2, rfl⟩
  · skip
    refine vx_catch (name := "java/lang/IndexOutOfBoundsException") hown (tableOf []) { startPc := 0, endPc := 16, handlerPc := 19, catchType := 21 } (tableOf []) hxt kx_p0 rfl (by decide) (hgw _ m_5_117) (va_Nw.use rfl (hG.2.2.2.1 ("java/lang/IndexOutOfBoundsException", "java/lang/IndexOutOfBoundsException") n_c3)) hce hcv hcl ?_
    refine W.eq (g2 := F0 m 19 ls [.ref q9]) rfl ?_
    refine lv_astore_n (lv' := [(3, .ref q9), (0, .ref h0), (1, .int p0), (2, .ref h1)]) hx hb dL_isInAbeyance_19 rfl hl (by decide) rfl (fun ls hl => ?_)
    refine lv_iconst (v := 1) hx hb dL_isInAbeyance_20 (by decide) ?_
    have hP9 := hP.sub (ws' := []) [] rfl
    have hD9 := hD.sub (ws' := []) [] (by decide) rfl
    exact vx_ret (kq_iret (v := 1) hx hb hr hlocks hS rfl (Or.inl ⟨c_1, rfl, rfl⟩) hP9 hD9 (Nat.le_of_ble_eq_true rfl) (Nat.le_of_ble_eq_true rfl) dL_isInAbeyance_21)
  · skip
    refine vx_catch (name := "java/lang/IndexOutOfBoundsException") hown (tableOf []) { startPc := 0, endPc := 16, handlerPc := 19, catchType := 21 } (tableOf []) hxt kx_p0 rfl (by decide) (hgw _ m_5_117) (va_Nw.use rfl (hG.2.2.2.1 ("java/lang/IndexOutOfBoundsException", "java/lang/IndexOutOfBoundsException") n_c3)) hce hcv hcl ?_
    refine W.eq (g2 := F0 m 19 ls [.ref q9]) rfl ?_
    refine lv_astore_n (lv' := [(3, .ref q9), (0, .ref h0), (1, .int p0), (2, .ref h1)]) hx hb dL_isInAbeyance_19 rfl hl (by decide) rfl (fun ls hl => ?_)
    refine lv_iconst (v := 1) hx hb dL_isInAbeyance_20 (by decide) ?_
    have hP9 := hP.sub (ws' := []) [] rfl
    have hD9 := hD.sub (ws' := []) [] (by decide) rfl
    exact vx_ret (kq_iret (v := 1) hx hb hr hlocks hS rfl (Or.inr (⟨c_2, rfl, rfl⟩)) hP9 hD9 (Nat.le_of_ble_eq_true rfl) (Nat.le_of_ble_eq_true rfl) dL_isInAbeyance_21)
set_option maxHeartbeats 4000000 in
set_option maxRecDepth 100000 in
theorem c_X18_isInAbeyance (l : Launch) (hfl : l.stackTraces = false) (D : va_G) (dA : Nat → ClassId) (tE tC : Nat) (h0 : Nat) (p0 : Int32) (h1 : Nat) (h2 : Nat) (h3 : Nat) (h4 : Nat) (h5 : Nat) (h6 : Nat) (h7 : Nat) (h8 : Nat) (h9 : Nat) (h10 : Nat) (h11 : Nat) (h12 : Nat) (h13 : Nat) (h14 : Nat) (h15 : Nat) (h16 : Nat) (h17 : Nat) (h18 : Nat) : Ct l D dA tE tC yX18_isInAbeyance (Cond.code yX18_isInAbeyance cX18_isInAbeyance 2 (some .boolean) :: gW) ({ frames := 3, cells := 0, slots := 0, locals := 64 } : Room) [.ref h0, .int p0] [(h0, .inr (22, [.int 0, .ref h1, .int 0, .ref h2, .ref h3, .ref h4, .int 0, .int 0, .int 0, .ref h5, .int 0, .ref h6, .int 0, .int 0, .ref h7, .ref h8, .ref h9, .ref h10, .ref h11, .ref h12, .int 0, .ref h13, .int 0, .ref h14, .ref h15, .ref h16, .ref h17, .ref h18])), (h3, .inr (3, [.int 0, .ref tE, .int 0]))] (fun v w1 => (p0.toInt < 0 ∧ v = some (.int 0) ∧ w1 = [(h0, .inr (22, [.int 1, .ref h1, .int 0, .ref h2, .ref h3, .ref h4, .int 0, .int 0, .int 0, .ref h5, .int 0, .ref h6, .int 0, .int 0, .ref h7, .ref h8, .ref h9, .ref h10, .ref h11, .ref h12, .int 0, .ref h13, .int 0, .ref h14, .ref h15, .ref h16, .ref h17, .ref h18]))]) ∨ (¬ p0.toInt < 0 ∧ v = some (.int 0) ∧ w1 = [(h0, .inr (22, [.int 1, .ref h1, .int 0, .ref h2, .ref h3, .ref h4, .int 0, .int 0, .int 0, .ref h5, .int 0, .ref h6, .int 0, .int 0, .ref h7, .ref h8, .ref h9, .ref h10, .ref h11, .ref h12, .int 0, .ref h13, .int 0, .ref h14, .ref h15, .ref h16, .ref h17, .ref h18]))])) 0 0 := by
  refine Ct_of (by decide) (Nat.le_of_ble_eq_true rfl) ?_
  intro p e s m below meth c hx hb hr hml hown hnm hlocks hgw hK A hG hA hP hD ls hl
  have hl : lv_has ls 2 [(0, .ref h0), (1, .int p0)] := hl
  have hS : va_S A s.heap s.heap [] := va_S.rf
  refine lv_aload_n hx hb dX18_isInAbeyance_0 rfl (lv_at hl 0 rfl) ?_
  refine lv_iload_n hx hb dX18_isInAbeyance_1 rfl (lv_at hl 1 rfl) ?_
  refine kq_V (q0 := 0) (As := [.int p0]) (rest := []) (wr := []) hx hb hml hown hgw hK hG hA hP hD hS (c_X18_failsArms l hfl D dA tE tC h0 p0 h1 h2 h3 h4 h5 h6 h7 h8 h9 h10 h11 h12 h13 h14 h15 h16 h17 h18) m_13_1 m_13_3 m_s_102 m_1_15 m_13_4 hd_X18_failsArms rfl rfl ⟨(Nat.le_of_ble_eq_true rfl), (Nat.le_of_ble_eq_true rfl)⟩ [0, 1] [] rfl rfl rfl rfl (by decide) rfl rfl rfl hl.1 rfl (Nat.le_of_ble_eq_true rfl) dX18_isInAbeyance_2 ⟨(Nat.le_of_ble_eq_true rfl), (Nat.le_of_ble_eq_true rfl)⟩ (fun v w1 H locs hQ hP hD hS => ?_)
  rcases hQ with ⟨c_1, rfl, rfl⟩ | ⟨c_2, rfl, rfl⟩
  · skip
    refine W.eq (g2 := F0 m 5 ls [.int 1]) rfl ?_
    have hP : va_P D vwCl [(h3, .inr (3, [.int 0, .ref tE, .int 0])), (h0, .inr (22, [.int 1, .ref h1, .int 0, .ref h2, .ref h3, .ref h4, .int 0, .int 0, .int 0, .ref h5, .int 0, .ref h6, .int 0, .int 0, .ref h7, .ref h8, .ref h9, .ref h10, .ref h11, .ref h12, .int 0, .ref h13, .int 0, .ref h14, .ref h15, .ref h16, .ref h17, .ref h18]))] H := hP
    have hD : va_D A [(h3, .inr (3, [.int 0, .ref tE, .int 0])), (h0, .inr (22, [.int 1, .ref h1, .int 0, .ref h2, .ref h3, .ref h4, .int 0, .int 0, .int 0, .ref h5, .int 0, .ref h6, .int 0, .int 0, .ref h7, .ref h8, .ref h9, .ref h10, .ref h11, .ref h12, .int 0, .ref h13, .int 0, .ref h14, .ref h15, .ref h16, .ref h17, .ref h18]))] := hD
    refine lv_if_ne (tgt := 20) hx hb dX18_isInAbeyance_5 (by decide) (fun _ => ?_) (fun h => absurd h (by decide +kernel))
    refine lv_iconst (v := 0) hx hb dX18_isInAbeyance_20 (by decide) ?_
    have hP9 := hP.sub (ws' := [(h0, .inr (22, [.int 1, .ref h1, .int 0, .ref h2, .ref h3, .ref h4, .int 0, .int 0, .int 0, .ref h5, .int 0, .ref h6, .int 0, .int 0, .ref h7, .ref h8, .ref h9, .ref h10, .ref h11, .ref h12, .int 0, .ref h13, .int 0, .ref h14, .ref h15, .ref h16, .ref h17, .ref h18]))]) [1] rfl
    have hD9 := hD.sub (ws' := [(h0, .inr (22, [.int 1, .ref h1, .int 0, .ref h2, .ref h3, .ref h4, .int 0, .int 0, .int 0, .ref h5, .int 0, .ref h6, .int 0, .int 0, .ref h7, .ref h8, .ref h9, .ref h10, .ref h11, .ref h12, .int 0, .ref h13, .int 0, .ref h14, .ref h15, .ref h16, .ref h17, .ref h18]))]) [1] (by decide) rfl
    exact (kq_iret (v := 0) hx hb hr hlocks hS rfl (Or.inl ⟨c_1, rfl, rfl⟩) hP9 hD9 (Nat.le_of_ble_eq_true rfl) (Nat.le_of_ble_eq_true rfl) dX18_isInAbeyance_21)
  · skip
    refine W.eq (g2 := F0 m 5 ls [.int 1]) rfl ?_
    have hP : va_P D vwCl [(h3, .inr (3, [.int 0, .ref tE, .int 0])), (h0, .inr (22, [.int 1, .ref h1, .int 0, .ref h2, .ref h3, .ref h4, .int 0, .int 0, .int 0, .ref h5, .int 0, .ref h6, .int 0, .int 0, .ref h7, .ref h8, .ref h9, .ref h10, .ref h11, .ref h12, .int 0, .ref h13, .int 0, .ref h14, .ref h15, .ref h16, .ref h17, .ref h18]))] H := hP
    have hD : va_D A [(h3, .inr (3, [.int 0, .ref tE, .int 0])), (h0, .inr (22, [.int 1, .ref h1, .int 0, .ref h2, .ref h3, .ref h4, .int 0, .int 0, .int 0, .ref h5, .int 0, .ref h6, .int 0, .int 0, .ref h7, .ref h8, .ref h9, .ref h10, .ref h11, .ref h12, .int 0, .ref h13, .int 0, .ref h14, .ref h15, .ref h16, .ref h17, .ref h18]))] := hD
    refine lv_if_ne (tgt := 20) hx hb dX18_isInAbeyance_5 (by decide) (fun _ => ?_) (fun h => absurd h (by decide +kernel))
    refine lv_iconst (v := 0) hx hb dX18_isInAbeyance_20 (by decide) ?_
    have hP9 := hP.sub (ws' := [(h0, .inr (22, [.int 1, .ref h1, .int 0, .ref h2, .ref h3, .ref h4, .int 0, .int 0, .int 0, .ref h5, .int 0, .ref h6, .int 0, .int 0, .ref h7, .ref h8, .ref h9, .ref h10, .ref h11, .ref h12, .int 0, .ref h13, .int 0, .ref h14, .ref h15, .ref h16, .ref h17, .ref h18]))]) [1] rfl
    have hD9 := hD.sub (ws' := [(h0, .inr (22, [.int 1, .ref h1, .int 0, .ref h2, .ref h3, .ref h4, .int 0, .int 0, .int 0, .ref h5, .int 0, .ref h6, .int 0, .int 0, .ref h7, .ref h8, .ref h9, .ref h10, .ref h11, .ref h12, .int 0, .ref h13, .int 0, .ref h14, .ref h15, .ref h16, .ref h17, .ref h18]))]) [1] (by decide) rfl
    exact (kq_iret (v := 0) hx hb hr hlocks hS rfl (Or.inr (⟨c_2, rfl, rfl⟩)) hP9 hD9 (Nat.le_of_ble_eq_true rfl) (Nat.le_of_ble_eq_true rfl) dX18_isInAbeyance_21)
set_option maxHeartbeats 4000000 in
set_option maxRecDepth 100000 in
theorem c_X11_call (l : Launch) (hfl : l.stackTraces = false) (D : va_G) (dA : Nat → ClassId) (tE tC : Nat) (h0 : Nat) (p0 : Int32) (p1 : Int32) (h1 : Nat) (h2 : Nat) (h3 : Nat) (h4 : Nat) (h5 : Nat) (h6 : Nat) (h7 : Nat) (h8 : Nat) (h9 : Nat) (h10 : Nat) (h11 : Nat) (h12 : Nat) (h13 : Nat) (h14 : Nat) (h15 : Nat) (h16 : Nat) (h17 : Nat) (h18 : Nat) (h19 : Nat) (h20 : Nat) (h21 : Nat) : Cx l D dA tE tC yX11_call (Cond.code yX11_call cX11_call 3 (some .int) :: gW) ({ frames := 7, cells := 1, slots := 6, locals := 103 } : Room) [.ref h0, .int p0, .int p1] [(h0, .inr (15, [.ref h1, .ref h2, .ref h3, .ref h4, .ref h5, .ref h6, .ref h7, .ref h8, .ref h9, .ref h10, .ref h11, .int 0, .int 0, .int 0])), (h7, .inr (13, [.ref h1, .ref h12, .ref h13, .ref h14, .ref h15, .ref h16, .ref h17, .ref h18, .ref h19, .ref h20, .ref h21, .int 0]))] (fun v w1 => False) (fun E => (p0.toInt < 0 ∧ E = "java/lang/IndexOutOfBoundsException") ∨ (¬ p0.toInt < 0 ∧ E = "java/lang/IndexOutOfBoundsException")) 1 6 := by
  refine Cx_of (by decide) (Nat.le_of_ble_eq_true rfl) ?_
  intro p e s m below meth c hx hb hr hml hown hnm hlocks hgw hK A hG hA hP hD ls hl hxt
  have hl : lv_has ls 3 [(0, .ref h0), (1, .int p0), (2, .int p1)] := hl
  have hS : va_S A s.heap s.heap [] := va_S.rf
  refine lv_aload_n hx hb dX11_call_0 rfl (lv_at hl 0 rfl) ?_
  refine lv_iload_n hx hb dX11_call_1 rfl (lv_at hl 1 rfl) ?_
  refine kx_V (q0 := 0) (As := [.int p0]) (rest := []) (wr := []) hx hb hml hown hgw hK hG hA hP hD hS (c_X11_needArms l hfl D dA tE tC h0 p0 h1 h2 h3 h4 h5 h6 h7 h8 h9 h10 h11 h12 h13 h14 h15 h16 h17 h18 h19 h20 h21) m_7_136 m_7_138 m_s_49 m_1_1 m_7_139 hd_X11_needArms rfl rfl ⟨(Nat.le_of_ble_eq_true rfl), (Nat.le_of_ble_eq_true rfl)⟩ [0, 1] [] rfl rfl rfl rfl (by decide) rfl rfl rfl hl.1 rfl (Nat.le_of_ble_eq_true rfl) dX11_call_2 ⟨(Nat.le_of_ble_eq_true rfl), (Nat.le_of_ble_eq_true rfl)⟩ (fun v w1 H locs hQ hP hD hS => hQ.elim) (fun E ce q9 H locs hX hP hD hS hce hcv hcl => ?_)
  rcases hX with ⟨c_1, rfl⟩ | ⟨c_2, rfl⟩
  · skip
    exact kx_out hxt hlocks hS hce hcv hcl (Or.inl ⟨c_1, rfl⟩) (Nat.le_of_ble_eq_true rfl) (Nat.le_of_ble_eq_true rfl)
  · skip
    exact kx_out hxt hlocks hS hce hcv hcl (Or.inr (⟨c_2, rfl⟩)) (Nat.le_of_ble_eq_true rfl) (Nat.le_of_ble_eq_true rfl)
set_option maxHeartbeats 4000000 in
set_option maxRecDepth 100000 in
theorem c_L_call (l : Launch) (hfl : l.stackTraces = false) (D : va_G) (dA : Nat → ClassId) (tE tC : Nat) (h0 : Nat) (p0 : Int32) (p1 : Int32) (h1 : Nat) (h2 : Nat) (h3 : Nat) (h4 : Nat) (h5 : Nat) (h6 : Nat) (h7 : Nat) (h8 : Nat) (h9 : Nat) (h10 : Nat) (h11 : Nat) (h12 : Nat) (h13 : Nat) (h14 : Nat) (h15 : Nat) (h16 : Nat) (h17 : Nat) (h18 : Nat) (h19 : Nat) (h20 : Nat) (h21 : Nat) (h22 : Nat) : Cx l D dA tE tC yL_call (Cond.codeWith yL_call cL_call 5 (some .int) [(0, 10, 13, 21), (0, 10, 17, 23)] :: gW) ({ frames := 8, cells := 1, slots := 6, locals := 125 } : Room) [.ref h0, .int p0, .int p1, .ref h1] [(h0, .inr (15, [.ref h2, .ref h3, .ref h4, .ref h5, .ref h6, .ref h7, .ref h8, .ref h9, .ref h10, .ref h11, .ref h12, .int 0, .int 0, .int 0])), (h8, .inr (13, [.ref h2, .ref h13, .ref h14, .ref h15, .ref h16, .ref h17, .ref h18, .ref h19, .ref h20, .ref h21, .ref h22, .int 0]))] (fun v w1 => (p0.toInt < 0 ∧ v = some (.int 1) ∧ w1 = []) ∨ (¬ p0.toInt < 0 ∧ v = some (.int 1) ∧ w1 = [])) (fun E => False) 1 6 := by
  refine Ch_of (by decide) (Nat.le_of_ble_eq_true rfl) ?_
  intro p e s m below meth c hx hb hr hml hown hnm hlocks hgw hK A hG hA hP hD ls hl hxt
  have hl : lv_has ls 5 [(0, .ref h0), (1, .int p0), (2, .int p1), (3, .ref h1)] := hl
  have hS : va_S A s.heap s.heap [] := va_S.rf
  refine lv_aload_n hx hb dL_call_0 rfl (lv_at hl 3 rfl) ?_
  refine lv_iconst (v := 0) hx hb dL_call_1 (by decide) ?_
  refine lv_aload_n hx hb dL_call_2 rfl (lv_at hl 0 rfl) ?_
  refine lv_iload_n hx hb dL_call_3 rfl (lv_at hl 1 rfl) ?_
  refine lv_iload_n hx hb dL_call_4 rfl (lv_at hl 2 rfl) ?_
  refine kx_V (q0 := 0) (As := [.int p0, .int p1]) (rest := [.int 0, .ref h1]) (wr := []) hx hb hml hown hgw hK hG hA hP hD hS (c_X11_call l hfl D dA tE tC h0 p0 p1 h2 h3 h4 h5 h6 h7 h8 h9 h10 h11 h12 h13 h14 h15 h16 h17 h18 h19 h20 h21 h22) m_7_202 m_7_203 m_7_204 m_1_1 m_7_205 hd_X11_call rfl rfl ⟨(Nat.le_of_ble_eq_true rfl), (Nat.le_of_ble_eq_true rfl)⟩ [0, 1] [] rfl rfl rfl rfl (by decide) rfl rfl rfl hl.1 rfl (Nat.le_of_ble_eq_true rfl) dL_call_5 ⟨(Nat.le_of_ble_eq_true rfl), (Nat.le_of_ble_eq_true rfl)⟩ (fun v w1 H locs hQ hP hD hS => hQ.elim) (fun E ce q9 H locs hX hP hD hS hce hcv hcl => ?_)
  rcases hX with ⟨c_1, rfl⟩ | ⟨c_2, rfl⟩
  · skip
    refine vx_catch (name := "java/lang/IndexOutOfBoundsException") hown (tableOf []) { startPc := 0, endPc := 10, handlerPc := 13, catchType := 21 } (tableOf [(0, 10, 17, 23)]) hxt kx_p0 rfl (by decide) (hgw _ m_5_117) (va_Nw.use rfl (hG.2.2.2.1 ("java/lang/IndexOutOfBoundsException", "java/lang/IndexOutOfBoundsException") n_c3)) hce hcv hcl ?_
    refine W.eq (g2 := F0 m 13 ls [.ref q9]) rfl ?_
    refine lv_astore (lv' := [(4, .ref q9), (0, .ref h0), (1, .int p0), (2, .int p1), (3, .ref h1)]) hx hb dL_call_13 hl (by decide) rfl (fun ls hl => ?_)
    refine lv_iconst (v := 1) hx hb dL_call_15 (by decide) ?_
    have hP9 := hP.sub (ws' := []) [] rfl
    have hD9 := hD.sub (ws' := []) [] (by decide) rfl
    exact vx_ret (kq_iret (v := 1) hx hb hr hlocks hS rfl (Or.inl ⟨c_1, rfl, rfl⟩) hP9 hD9 (Nat.le_of_ble_eq_true rfl) (Nat.le_of_ble_eq_true rfl) dL_call_16)
  · skip
    refine vx_catch (name := "java/lang/IndexOutOfBoundsException") hown (tableOf []) { startPc := 0, endPc := 10, handlerPc := 13, catchType := 21 } (tableOf [(0, 10, 17, 23)]) hxt kx_p0 rfl (by decide) (hgw _ m_5_117) (va_Nw.use rfl (hG.2.2.2.1 ("java/lang/IndexOutOfBoundsException", "java/lang/IndexOutOfBoundsException") n_c3)) hce hcv hcl ?_
    refine W.eq (g2 := F0 m 13 ls [.ref q9]) rfl ?_
    refine lv_astore (lv' := [(4, .ref q9), (0, .ref h0), (1, .int p0), (2, .int p1), (3, .ref h1)]) hx hb dL_call_13 hl (by decide) rfl (fun ls hl => ?_)
    refine lv_iconst (v := 1) hx hb dL_call_15 (by decide) ?_
    have hP9 := hP.sub (ws' := []) [] rfl
    have hD9 := hD.sub (ws' := []) [] (by decide) rfl
    exact vx_ret (kq_iret (v := 1) hx hb hr hlocks hS rfl (Or.inr (⟨c_2, rfl, rfl⟩)) hP9 hD9 (Nat.le_of_ble_eq_true rfl) (Nat.le_of_ble_eq_true rfl) dL_call_16)
set_option maxHeartbeats 4000000 in
set_option maxRecDepth 100000 in
theorem c_X18_call (l : Launch) (hfl : l.stackTraces = false) (D : va_G) (dA : Nat → ClassId) (tE tC : Nat) (h0 : Nat) (p0 : Int32) (p1 : Int32) (h1 : Nat) (h2 : Nat) (h3 : Nat) (h4 : Nat) (h5 : Nat) (h6 : Nat) (h7 : Nat) (h8 : Nat) (h9 : Nat) (h10 : Nat) (h11 : Nat) (h12 : Nat) (h13 : Nat) (h14 : Nat) (h15 : Nat) (h16 : Nat) (h17 : Nat) (h18 : Nat) : Ct l D dA tE tC yX18_call (Cond.code yX18_call cX18_call 4 (some .int) :: gW) ({ frames := 2, cells := 0, slots := 0, locals := 43 } : Room) [.ref h0, .int p0, .int p1] [(h0, .inr (22, [.int 0, .ref h1, .int 0, .ref h2, .ref h3, .ref h4, .int 0, .int 0, .int 0, .ref h5, .int 0, .ref h6, .int 0, .int 0, .ref h7, .ref h8, .ref h9, .ref h10, .ref h11, .ref h12, .int 0, .ref h13, .int 0, .ref h14, .ref h15, .ref h16, .ref h17, .ref h18])), (h3, .inr (3, [.int 0, .ref tE, .int 0]))] (fun v w1 => (p0.toInt < 0 ∧ v = some (.int 0) ∧ w1 = [(h0, .inr (22, [.int 1, .ref h1, .int 0, .ref h2, .ref h3, .ref h4, .int 0, .int 0, .int 0, .ref h5, .int 0, .ref h6, .int 0, .int 0, .ref h7, .ref h8, .ref h9, .ref h10, .ref h11, .ref h12, .int 0, .ref h13, .int 0, .ref h14, .ref h15, .ref h16, .ref h17, .ref h18]))]) ∨ (¬ p0.toInt < 0 ∧ v = some (.int 0) ∧ w1 = [(h0, .inr (22, [.int 1, .ref h1, .int 0, .ref h2, .ref h3, .ref h4, .int 0, .int 0, .int 0, .ref h5, .int 0, .ref h6, .int 0, .int 0, .ref h7, .ref h8, .ref h9, .ref h10, .ref h11, .ref h12, .int 0, .ref h13, .int 0, .ref h14, .ref h15, .ref h16, .ref h17, .ref h18]))])) 0 0 := by
  refine Ct_of (by decide) (Nat.le_of_ble_eq_true rfl) ?_
  intro p e s m below meth c hx hb hr hml hown hnm hlocks hgw hK A hG hA hP hD ls hl
  have hl : lv_has ls 4 [(0, .ref h0), (1, .int p0), (2, .int p1)] := hl
  have hS : va_S A s.heap s.heap [] := va_S.rf
  refine lv_aload_n hx hb dX18_call_0 rfl (lv_at hl 0 rfl) ?_
  refine lv_aload_n hx hb dX18_call_1 rfl (lv_at hl 0 rfl) ?_
  refine lv_iload_n hx hb dX18_call_2 rfl (lv_at hl 1 rfl) ?_
  refine kq_V (q0 := 0) (As := [.int p0]) (rest := [.ref h0]) (wr := []) hx hb hml hown hgw hK hG hA hP hD hS (c_X18_isArms l hfl D dA tE tC h0 p0 h1 h2 h3 h4 h5 h6 h7 h8 h9 h10 h11 h12 h13 h14 h15 h16 h17 h18) m_13_5 m_13_7 m_s_103 m_1_15 m_13_8 hd_X18_isArms rfl rfl ⟨(Nat.le_of_ble_eq_true rfl), (Nat.le_of_ble_eq_true rfl)⟩ [0, 1] [] rfl rfl rfl rfl (by decide) rfl rfl rfl hl.1 rfl (Nat.le_of_ble_eq_true rfl) dX18_call_3 ⟨(Nat.le_of_ble_eq_true rfl), (Nat.le_of_ble_eq_true rfl)⟩ (fun v w1 H locs hQ hP hD hS => ?_)
  rcases hQ with ⟨c_1, rfl, rfl⟩ | ⟨c_2, rfl, rfl⟩
  · skip
    refine W.eq (g2 := F0 m 6 ls [.int 0, .ref h0]) rfl ?_
    have hP : va_P D vwCl [(h0, .inr (22, [.int 0, .ref h1, .int 0, .ref h2, .ref h3, .ref h4, .int 0, .int 0, .int 0, .ref h5, .int 0, .ref h6, .int 0, .int 0, .ref h7, .ref h8, .ref h9, .ref h10, .ref h11, .ref h12, .int 0, .ref h13, .int 0, .ref h14, .ref h15, .ref h16, .ref h17, .ref h18])), (h3, .inr (3, [.int 0, .ref tE, .int 0]))] H := hP
    have hD : va_D A [(h0, .inr (22, [.int 0, .ref h1, .int 0, .ref h2, .ref h3, .ref h4, .int 0, .int 0, .int 0, .ref h5, .int 0, .ref h6, .int 0, .int 0, .ref h7, .ref h8, .ref h9, .ref h10, .ref h11, .ref h12, .int 0, .ref h13, .int 0, .ref h14, .ref h15, .ref h16, .ref h17, .ref h18])), (h3, .inr (3, [.int 0, .ref tE, .int 0]))] := hD
    refine lv_if_eq (tgt := 21) hx hb dX18_call_6 (by decide) (fun _ => ?_) (fun h => absurd (by decide +kernel) h)
    refine lv_iconst (v := 1) hx hb dX18_call_21 (by decide) ?_
    refine kq_V (q0 := 0) (As := [.int 1]) (rest := []) (wr := [(h3, .inr (3, [.int 0, .ref tE, .int 0]))]) hx hb hml hown hgw hK hG hA hP hD hS (c_X18_fails l hfl D dA tE tC h0 h1 h2 h3 h4 h5 h6 h7 h8 h9 h10 h11 h12 h13 h14 h15 h16 h17 h18) m_10_93 m_10_95 m_s_61 m_1_15 m_10_96 hd_X18_fails rfl rfl ⟨(Nat.le_of_ble_eq_true rfl), (Nat.le_of_ble_eq_true rfl)⟩ [0] [1] rfl rfl rfl rfl (by decide) rfl rfl rfl hl.1 rfl (Nat.le_of_ble_eq_true rfl) dX18_call_22 ⟨(Nat.le_of_ble_eq_true rfl), (Nat.le_of_ble_eq_true rfl)⟩ (fun v w1 H locs hQ hP hD hS => ?_)
    obtain ⟨rfl, rfl⟩ := hQ
    refine W.eq (g2 := F0 m 25 ls [.int 1]) rfl ?_
    have hP : va_P D vwCl [(h3, .inr (3, [.int 0, .ref tE, .int 0])), (h0, .inr (22, [.int 1, .ref h1, .int 0, .ref h2, .ref h3, .ref h4, .int 0, .int 0, .int 0, .ref h5, .int 0, .ref h6, .int 0, .int 0, .ref h7, .ref h8, .ref h9, .ref h10, .ref h11, .ref h12, .int 0, .ref h13, .int 0, .ref h14, .ref h15, .ref h16, .ref h17, .ref h18]))] H := hP
    have hD : va_D A [(h3, .inr (3, [.int 0, .ref tE, .int 0])), (h0, .inr (22, [.int 1, .ref h1, .int 0, .ref h2, .ref h3, .ref h4, .int 0, .int 0, .int 0, .ref h5, .int 0, .ref h6, .int 0, .int 0, .ref h7, .ref h8, .ref h9, .ref h10, .ref h11, .ref h12, .int 0, .ref h13, .int 0, .ref h14, .ref h15, .ref h16, .ref h17, .ref h18]))] := hD
    refine lv_if_eq (tgt := 30) hx hb dX18_call_25 (by decide) (fun h => absurd h (by decide +kernel)) (fun _ => ?_)
    refine lv_iconst (v := 0) hx hb dX18_call_28 (by decide) ?_
    have hP9 := hP.sub (ws' := [(h0, .inr (22, [.int 1, .ref h1, .int 0, .ref h2, .ref h3, .ref h4, .int 0, .int 0, .int 0, .ref h5, .int 0, .ref h6, .int 0, .int 0, .ref h7, .ref h8, .ref h9, .ref h10, .ref h11, .ref h12, .int 0, .ref h13, .int 0, .ref h14, .ref h15, .ref h16, .ref h17, .ref h18]))]) [1] rfl
    have hD9 := hD.sub (ws' := [(h0, .inr (22, [.int 1, .ref h1, .int 0, .ref h2, .ref h3, .ref h4, .int 0, .int 0, .int 0, .ref h5, .int 0, .ref h6, .int 0, .int 0, .ref h7, .ref h8, .ref h9, .ref h10, .ref h11, .ref h12, .int 0, .ref h13, .int 0, .ref h14, .ref h15, .ref h16, .ref h17, .ref h18]))]) [1] (by decide) rfl
    exact (kq_iret (v := 0) hx hb hr hlocks hS rfl (Or.inl ⟨c_1, rfl, rfl⟩) hP9 hD9 (Nat.le_of_ble_eq_true rfl) (Nat.le_of_ble_eq_true rfl) dX18_call_29)
  · skip
    refine W.eq (g2 := F0 m 6 ls [.int 0, .ref h0]) rfl ?_
    have hP : va_P D vwCl [(h0, .inr (22, [.int 0, .ref h1, .int 0, .ref h2, .ref h3, .ref h4, .int 0, .int 0, .int 0, .ref h5, .int 0, .ref h6, .int 0, .int 0, .ref h7, .ref h8, .ref h9, .ref h10, .ref h11, .ref h12, .int 0, .ref h13, .int 0, .ref h14, .ref h15, .ref h16, .ref h17, .ref h18])), (h3, .inr (3, [.int 0, .ref tE, .int 0]))] H := hP
    have hD : va_D A [(h0, .inr (22, [.int 0, .ref h1, .int 0, .ref h2, .ref h3, .ref h4, .int 0, .int 0, .int 0, .ref h5, .int 0, .ref h6, .int 0, .int 0, .ref h7, .ref h8, .ref h9, .ref h10, .ref h11, .ref h12, .int 0, .ref h13, .int 0, .ref h14, .ref h15, .ref h16, .ref h17, .ref h18])), (h3, .inr (3, [.int 0, .ref tE, .int 0]))] := hD
    refine lv_if_eq (tgt := 21) hx hb dX18_call_6 (by decide) (fun _ => ?_) (fun h => absurd (by decide +kernel) h)
    refine lv_iconst (v := 1) hx hb dX18_call_21 (by decide) ?_
    refine kq_V (q0 := 0) (As := [.int 1]) (rest := []) (wr := [(h3, .inr (3, [.int 0, .ref tE, .int 0]))]) hx hb hml hown hgw hK hG hA hP hD hS (c_X18_fails l hfl D dA tE tC h0 h1 h2 h3 h4 h5 h6 h7 h8 h9 h10 h11 h12 h13 h14 h15 h16 h17 h18) m_10_93 m_10_95 m_s_61 m_1_15 m_10_96 hd_X18_fails rfl rfl ⟨(Nat.le_of_ble_eq_true rfl), (Nat.le_of_ble_eq_true rfl)⟩ [0] [1] rfl rfl rfl rfl (by decide) rfl rfl rfl hl.1 rfl (Nat.le_of_ble_eq_true rfl) dX18_call_22 ⟨(Nat.le_of_ble_eq_true rfl), (Nat.le_of_ble_eq_true rfl)⟩ (fun v w1 H locs hQ hP hD hS => ?_)
    obtain ⟨rfl, rfl⟩ := hQ
    refine W.eq (g2 := F0 m 25 ls [.int 1]) rfl ?_
    have hP : va_P D vwCl [(h3, .inr (3, [.int 0, .ref tE, .int 0])), (h0, .inr (22, [.int 1, .ref h1, .int 0, .ref h2, .ref h3, .ref h4, .int 0, .int 0, .int 0, .ref h5, .int 0, .ref h6, .int 0, .int 0, .ref h7, .ref h8, .ref h9, .ref h10, .ref h11, .ref h12, .int 0, .ref h13, .int 0, .ref h14, .ref h15, .ref h16, .ref h17, .ref h18]))] H := hP
    have hD : va_D A [(h3, .inr (3, [.int 0, .ref tE, .int 0])), (h0, .inr (22, [.int 1, .ref h1, .int 0, .ref h2, .ref h3, .ref h4, .int 0, .int 0, .int 0, .ref h5, .int 0, .ref h6, .int 0, .int 0, .ref h7, .ref h8, .ref h9, .ref h10, .ref h11, .ref h12, .int 0, .ref h13, .int 0, .ref h14, .ref h15, .ref h16, .ref h17, .ref h18]))] := hD
    refine lv_if_eq (tgt := 30) hx hb dX18_call_25 (by decide) (fun h => absurd h (by decide +kernel)) (fun _ => ?_)
    refine lv_iconst (v := 0) hx hb dX18_call_28 (by decide) ?_
    have hP9 := hP.sub (ws' := [(h0, .inr (22, [.int 1, .ref h1, .int 0, .ref h2, .ref h3, .ref h4, .int 0, .int 0, .int 0, .ref h5, .int 0, .ref h6, .int 0, .int 0, .ref h7, .ref h8, .ref h9, .ref h10, .ref h11, .ref h12, .int 0, .ref h13, .int 0, .ref h14, .ref h15, .ref h16, .ref h17, .ref h18]))]) [1] rfl
    have hD9 := hD.sub (ws' := [(h0, .inr (22, [.int 1, .ref h1, .int 0, .ref h2, .ref h3, .ref h4, .int 0, .int 0, .int 0, .ref h5, .int 0, .ref h6, .int 0, .int 0, .ref h7, .ref h8, .ref h9, .ref h10, .ref h11, .ref h12, .int 0, .ref h13, .int 0, .ref h14, .ref h15, .ref h16, .ref h17, .ref h18]))]) [1] (by decide) rfl
    exact (kq_iret (v := 0) hx hb hr hlocks hS rfl (Or.inr (⟨c_2, rfl, rfl⟩)) hP9 hD9 (Nat.le_of_ble_eq_true rfl) (Nat.le_of_ble_eq_true rfl) dX18_call_29)
set_option maxHeartbeats 4000000 in
set_option maxRecDepth 100000 in
theorem c_X11_isExtinct (l : Launch) (hfl : l.stackTraces = false) (D : va_G) (dA : Nat → ClassId) (tE tC : Nat) (h0 : Nat) (p0 : Int32) (h1 : Nat) (h2 : Nat) (h3 : Nat) (h4 : Nat) (h5 : Nat) (h6 : Nat) (h7 : Nat) (h8 : Nat) (h9 : Nat) (h10 : Nat) (h11 : Nat) (h12 : Nat) (h13 : Nat) (h14 : Nat) (h15 : Nat) (h16 : Nat) (h17 : Nat) (h18 : Nat) (h19 : Nat) (h20 : Nat) (h21 : Nat) : Cx l D dA tE tC yX11_isExtinct (Cond.code yX11_isExtinct cX11_isExtinct 2 (some .boolean) :: gW) ({ frames := 7, cells := 1, slots := 6, locals := 103 } : Room) [.ref h0, .int p0] [(h0, .inr (15, [.ref h1, .ref h2, .ref h3, .ref h4, .ref h5, .ref h6, .ref h7, .ref h8, .ref h9, .ref h10, .ref h11, .int 0, .int 0, .int 0])), (h7, .inr (13, [.ref h1, .ref h12, .ref h13, .ref h14, .ref h15, .ref h16, .ref h17, .ref h18, .ref h19, .ref h20, .ref h21, .int 0]))] (fun v w1 => False) (fun E => (p0.toInt < 0 ∧ E = "java/lang/IndexOutOfBoundsException") ∨ (¬ p0.toInt < 0 ∧ E = "java/lang/IndexOutOfBoundsException")) 1 6 := by
  refine Cx_of (by decide) (Nat.le_of_ble_eq_true rfl) ?_
  intro p e s m below meth c hx hb hr hml hown hnm hlocks hgw hK A hG hA hP hD ls hl hxt
  have hl : lv_has ls 2 [(0, .ref h0), (1, .int p0)] := hl
  have hS : va_S A s.heap s.heap [] := va_S.rf
  refine lv_aload_n hx hb dX11_isExtinct_0 rfl (lv_at hl 0 rfl) ?_
  refine lv_iload_n hx hb dX11_isExtinct_1 rfl (lv_at hl 1 rfl) ?_
  refine kx_V (q0 := 0) (As := [.int p0]) (rest := []) (wr := []) hx hb hml hown hgw hK hG hA hP hD hS (c_X11_needArms l hfl D dA tE tC h0 p0 h1 h2 h3 h4 h5 h6 h7 h8 h9 h10 h11 h12 h13 h14 h15 h16 h17 h18 h19 h20 h21) m_7_136 m_7_138 m_s_49 m_1_1 m_7_139 hd_X11_needArms rfl rfl ⟨(Nat.le_of_ble_eq_true rfl), (Nat.le_of_ble_eq_true rfl)⟩ [0, 1] [] rfl rfl rfl rfl (by decide) rfl rfl rfl hl.1 rfl (Nat.le_of_ble_eq_true rfl) dX11_isExtinct_2 ⟨(Nat.le_of_ble_eq_true rfl), (Nat.le_of_ble_eq_true rfl)⟩ (fun v w1 H locs hQ hP hD hS => hQ.elim) (fun E ce q9 H locs hX hP hD hS hce hcv hcl => ?_)
  rcases hX with ⟨c_1, rfl⟩ | ⟨c_2, rfl⟩
  · skip
    exact kx_out hxt hlocks hS hce hcv hcl (Or.inl ⟨c_1, rfl⟩) (Nat.le_of_ble_eq_true rfl) (Nat.le_of_ble_eq_true rfl)
  · skip
    exact kx_out hxt hlocks hS hce hcv hcl (Or.inr (⟨c_2, rfl⟩)) (Nat.le_of_ble_eq_true rfl) (Nat.le_of_ble_eq_true rfl)
set_option maxHeartbeats 4000000 in
set_option maxRecDepth 100000 in
theorem c_L_isExtinct (l : Launch) (hfl : l.stackTraces = false) (D : va_G) (dA : Nat → ClassId) (tE tC : Nat) (h0 : Nat) (p0 : Int32) (h1 : Nat) (h2 : Nat) (h3 : Nat) (h4 : Nat) (h5 : Nat) (h6 : Nat) (h7 : Nat) (h8 : Nat) (h9 : Nat) (h10 : Nat) (h11 : Nat) (h12 : Nat) (h13 : Nat) (h14 : Nat) (h15 : Nat) (h16 : Nat) (h17 : Nat) (h18 : Nat) (h19 : Nat) (h20 : Nat) (h21 : Nat) (h22 : Nat) : Cx l D dA tE tC yL_isExtinct (Cond.codeWith yL_isExtinct cL_isExtinct 4 (some .int) [(0, 16, 19, 21)] :: gW) ({ frames := 8, cells := 1, slots := 6, locals := 124 } : Room) [.ref h0, .int p0, .ref h1] [(h0, .inr (15, [.ref h2, .ref h3, .ref h4, .ref h5, .ref h6, .ref h7, .ref h8, .ref h9, .ref h10, .ref h11, .ref h12, .int 0, .int 0, .int 0])), (h8, .inr (13, [.ref h2, .ref h13, .ref h14, .ref h15, .ref h16, .ref h17, .ref h18, .ref h19, .ref h20, .ref h21, .ref h22, .int 0]))] (fun v w1 => (p0.toInt < 0 ∧ v = some (.int 1) ∧ w1 = []) ∨ (¬ p0.toInt < 0 ∧ v = some (.int 1) ∧ w1 = [])) (fun E => False) 1 6 := by
  refine Ch_of (by decide) (Nat.le_of_ble_eq_true rfl) ?_
  intro p e s m below meth c hx hb hr hml hown hnm hlocks hgw hK A hG hA hP hD ls hl hxt
  have hl : lv_has ls 4 [(0, .ref h0), (1, .int p0), (2, .ref h1)] := hl
  have hS : va_S A s.heap s.heap [] := va_S.rf
  refine lv_aload_n hx hb dL_isExtinct_0 rfl (lv_at hl 2 rfl) ?_
  refine lv_iconst (v := 0) hx hb dL_isExtinct_1 (by decide) ?_
  refine lv_aload_n hx hb dL_isExtinct_2 rfl (lv_at hl 0 rfl) ?_
  refine lv_iload_n hx hb dL_isExtinct_3 rfl (lv_at hl 1 rfl) ?_
  refine kx_V (q0 := 0) (As := [.int p0]) (rest := [.int 0, .ref h1]) (wr := []) hx hb hml hown hgw hK hG hA hP hD hS (c_X11_isExtinct l hfl D dA tE tC h0 p0 h2 h3 h4 h5 h6 h7 h8 h9 h10 h11 h12 h13 h14 h15 h16 h17 h18 h19 h20 h21 h22) m_7_222 m_7_223 m_7_224 m_1_1 m_7_225 hd_X11_isExtinct rfl rfl ⟨(Nat.le_of_ble_eq_true rfl), (Nat.le_of_ble_eq_true rfl)⟩ [0, 1] [] rfl rfl rfl rfl (by decide) rfl rfl rfl hl.1 rfl (Nat.le_of_ble_eq_true rfl) dL_isExtinct_4 ⟨(Nat.le_of_ble_eq_true rfl), (Nat.le_of_ble_eq_true rfl)⟩ (fun v w1 H locs hQ hP hD hS => hQ.elim) (fun E ce q9 H locs hX hP hD hS hce hcv hcl => ?_)
  rcases hX with ⟨c_1, rfl⟩ | ⟨c_2, rfl⟩
  · skip
    refine vx_catch (name := "java/lang/IndexOutOfBoundsException") hown (tableOf []) { startPc := 0, endPc := 16, handlerPc := 19, catchType := 21 } (tableOf []) hxt kx_p0 rfl (by decide) (hgw _ m_5_117) (va_Nw.use rfl (hG.2.2.2.1 ("java/lang/IndexOutOfBoundsException", "java/lang/IndexOutOfBoundsException") n_c3)) hce hcv hcl ?_
    refine W.eq (g2 := F0 m 19 ls [.ref q9]) rfl ?_
    refine lv_astore_n (lv' := [(3, .ref q9), (0, .ref h0), (1, .int p0), (2, .ref h1)]) hx hb dL_isExtinct_19 rfl hl (by decide) rfl (fun ls hl => ?_)
    refine lv_iconst (v := 1) hx hb dL_isExtinct_20 (by decide) ?_
    have hP9 := hP.sub (ws' := []) [] rfl
    have hD9 := hD.sub (ws' := []) [] (by decide) rfl
    exact vx_ret (kq_iret (v := 1) hx hb hr hlocks hS rfl (Or.inl ⟨c_1, rfl, rfl⟩) hP9 hD9 (Nat.le_of_ble_eq_true rfl) (Nat.le_of_ble_eq_true rfl) dL_isExtinct_21)
  · skip
    refine vx_catch (name := "java/lang/IndexOutOfBoundsException") hown (tableOf []) { startPc := 0, endPc := 16, handlerPc := 19, catchType := 21 } (tableOf []) hxt kx_p0 rfl (by decide) (hgw _ m_5_117) (va_Nw.use rfl (hG.2.2.2.1 ("java/lang/IndexOutOfBoundsException", "java/lang/IndexOutOfBoundsException") n_c3)) hce hcv hcl ?_
    refine W.eq (g2 := F0 m 19 ls [.ref q9]) rfl ?_
    refine lv_astore_n (lv' := [(3, .ref q9), (0, .ref h0), (1, .int p0), (2, .ref h1)]) hx hb dL_isExtinct_19 rfl hl (by decide) rfl (fun ls hl => ?_)
    refine lv_iconst (v := 1) hx hb dL_isExtinct_20 (by decide) ?_
    have hP9 := hP.sub (ws' := []) [] rfl
    have hD9 := hD.sub (ws' := []) [] (by decide) rfl
    exact vx_ret (kq_iret (v := 1) hx hb hr hlocks hS rfl (Or.inr (⟨c_2, rfl, rfl⟩)) hP9 hD9 (Nat.le_of_ble_eq_true rfl) (Nat.le_of_ble_eq_true rfl) dL_isExtinct_21)
set_option maxHeartbeats 4000000 in
set_option maxRecDepth 100000 in
theorem c_X18_isExtinct (l : Launch) (hfl : l.stackTraces = false) (D : va_G) (dA : Nat → ClassId) (tE tC : Nat) (h0 : Nat) (p0 : Int32) (h1 : Nat) (h2 : Nat) (h3 : Nat) (h4 : Nat) (h5 : Nat) (h6 : Nat) (h7 : Nat) (h8 : Nat) (h9 : Nat) (h10 : Nat) (h11 : Nat) (h12 : Nat) (h13 : Nat) (h14 : Nat) (h15 : Nat) (h16 : Nat) (h17 : Nat) (h18 : Nat) : Ct l D dA tE tC yX18_isExtinct (Cond.code yX18_isExtinct cX18_isExtinct 2 (some .boolean) :: gW) ({ frames := 3, cells := 0, slots := 0, locals := 64 } : Room) [.ref h0, .int p0] [(h0, .inr (22, [.int 0, .ref h1, .int 0, .ref h2, .ref h3, .ref h4, .int 0, .int 0, .int 0, .ref h5, .int 0, .ref h6, .int 0, .int 0, .ref h7, .ref h8, .ref h9, .ref h10, .ref h11, .ref h12, .int 0, .ref h13, .int 0, .ref h14, .ref h15, .ref h16, .ref h17, .ref h18])), (h3, .inr (3, [.int 0, .ref tE, .int 0]))] (fun v w1 => (p0.toInt < 0 ∧ v = some (.int 0) ∧ w1 = [(h0, .inr (22, [.int 1, .ref h1, .int 0, .ref h2, .ref h3, .ref h4, .int 0, .int 0, .int 0, .ref h5, .int 0, .ref h6, .int 0, .int 0, .ref h7, .ref h8, .ref h9, .ref h10, .ref h11, .ref h12, .int 0, .ref h13, .int 0, .ref h14, .ref h15, .ref h16, .ref h17, .ref h18]))]) ∨ (¬ p0.toInt < 0 ∧ v = some (.int 0) ∧ w1 = [(h0, .inr (22, [.int 1, .ref h1, .int 0, .ref h2, .ref h3, .ref h4, .int 0, .int 0, .int 0, .ref h5, .int 0, .ref h6, .int 0, .int 0, .ref h7, .ref h8, .ref h9, .ref h10, .ref h11, .ref h12, .int 0, .ref h13, .int 0, .ref h14, .ref h15, .ref h16, .ref h17, .ref h18]))])) 0 0 := by
  refine Ct_of (by decide) (Nat.le_of_ble_eq_true rfl) ?_
  intro p e s m below meth c hx hb hr hml hown hnm hlocks hgw hK A hG hA hP hD ls hl
  have hl : lv_has ls 2 [(0, .ref h0), (1, .int p0)] := hl
  have hS : va_S A s.heap s.heap [] := va_S.rf
  refine lv_aload_n hx hb dX18_isExtinct_0 rfl (lv_at hl 0 rfl) ?_
  refine lv_iload_n hx hb dX18_isExtinct_1 rfl (lv_at hl 1 rfl) ?_
  refine kq_V (q0 := 0) (As := [.int p0]) (rest := []) (wr := []) hx hb hml hown hgw hK hG hA hP hD hS (c_X18_failsArms l hfl D dA tE tC h0 p0 h1 h2 h3 h4 h5 h6 h7 h8 h9 h10 h11 h12 h13 h14 h15 h16 h17 h18) m_13_1 m_13_3 m_s_102 m_1_15 m_13_4 hd_X18_failsArms rfl rfl ⟨(Nat.le_of_ble_eq_true rfl), (Nat.le_of_ble_eq_true rfl)⟩ [0, 1] [] rfl rfl rfl rfl (by decide) rfl rfl rfl hl.1 rfl (Nat.le_of_ble_eq_true rfl) dX18_isExtinct_2 ⟨(Nat.le_of_ble_eq_true rfl), (Nat.le_of_ble_eq_true rfl)⟩ (fun v w1 H locs hQ hP hD hS => ?_)
  rcases hQ with ⟨c_1, rfl, rfl⟩ | ⟨c_2, rfl, rfl⟩
  · skip
    refine W.eq (g2 := F0 m 5 ls [.int 1]) rfl ?_
    have hP : va_P D vwCl [(h3, .inr (3, [.int 0, .ref tE, .int 0])), (h0, .inr (22, [.int 1, .ref h1, .int 0, .ref h2, .ref h3, .ref h4, .int 0, .int 0, .int 0, .ref h5, .int 0, .ref h6, .int 0, .int 0, .ref h7, .ref h8, .ref h9, .ref h10, .ref h11, .ref h12, .int 0, .ref h13, .int 0, .ref h14, .ref h15, .ref h16, .ref h17, .ref h18]))] H := hP
    have hD : va_D A [(h3, .inr (3, [.int 0, .ref tE, .int 0])), (h0, .inr (22, [.int 1, .ref h1, .int 0, .ref h2, .ref h3, .ref h4, .int 0, .int 0, .int 0, .ref h5, .int 0, .ref h6, .int 0, .int 0, .ref h7, .ref h8, .ref h9, .ref h10, .ref h11, .ref h12, .int 0, .ref h13, .int 0, .ref h14, .ref h15, .ref h16, .ref h17, .ref h18]))] := hD
    refine lv_if_ne (tgt := 28) hx hb dX18_isExtinct_5 (by decide) (fun _ => ?_) (fun h => absurd h (by decide +kernel))
    refine lv_iconst (v := 0) hx hb dX18_isExtinct_28 (by decide) ?_
    have hP9 := hP.sub (ws' := [(h0, .inr (22, [.int 1, .ref h1, .int 0, .ref h2, .ref h3, .ref h4, .int 0, .int 0, .int 0, .ref h5, .int 0, .ref h6, .int 0, .int 0, .ref h7, .ref h8, .ref h9, .ref h10, .ref h11, .ref h12, .int 0, .ref h13, .int 0, .ref h14, .ref h15, .ref h16, .ref h17, .ref h18]))]) [1] rfl
    have hD9 := hD.sub (ws' := [(h0, .inr (22, [.int 1, .ref h1, .int 0, .ref h2, .ref h3, .ref h4, .int 0, .int 0, .int 0, .ref h5, .int 0, .ref h6, .int 0, .int 0, .ref h7, .ref h8, .ref h9, .ref h10, .ref h11, .ref h12, .int 0, .ref h13, .int 0, .ref h14, .ref h15, .ref h16, .ref h17, .ref h18]))]) [1] (by decide) rfl
    exact (kq_iret (v := 0) hx hb hr hlocks hS rfl (Or.inl ⟨c_1, rfl, rfl⟩) hP9 hD9 (Nat.le_of_ble_eq_true rfl) (Nat.le_of_ble_eq_true rfl) dX18_isExtinct_29)
  · skip
    refine W.eq (g2 := F0 m 5 ls [.int 1]) rfl ?_
    have hP : va_P D vwCl [(h3, .inr (3, [.int 0, .ref tE, .int 0])), (h0, .inr (22, [.int 1, .ref h1, .int 0, .ref h2, .ref h3, .ref h4, .int 0, .int 0, .int 0, .ref h5, .int 0, .ref h6, .int 0, .int 0, .ref h7, .ref h8, .ref h9, .ref h10, .ref h11, .ref h12, .int 0, .ref h13, .int 0, .ref h14, .ref h15, .ref h16, .ref h17, .ref h18]))] H := hP
    have hD : va_D A [(h3, .inr (3, [.int 0, .ref tE, .int 0])), (h0, .inr (22, [.int 1, .ref h1, .int 0, .ref h2, .ref h3, .ref h4, .int 0, .int 0, .int 0, .ref h5, .int 0, .ref h6, .int 0, .int 0, .ref h7, .ref h8, .ref h9, .ref h10, .ref h11, .ref h12, .int 0, .ref h13, .int 0, .ref h14, .ref h15, .ref h16, .ref h17, .ref h18]))] := hD
    refine lv_if_ne (tgt := 28) hx hb dX18_isExtinct_5 (by decide) (fun _ => ?_) (fun h => absurd h (by decide +kernel))
    refine lv_iconst (v := 0) hx hb dX18_isExtinct_28 (by decide) ?_
    have hP9 := hP.sub (ws' := [(h0, .inr (22, [.int 1, .ref h1, .int 0, .ref h2, .ref h3, .ref h4, .int 0, .int 0, .int 0, .ref h5, .int 0, .ref h6, .int 0, .int 0, .ref h7, .ref h8, .ref h9, .ref h10, .ref h11, .ref h12, .int 0, .ref h13, .int 0, .ref h14, .ref h15, .ref h16, .ref h17, .ref h18]))]) [1] rfl
    have hD9 := hD.sub (ws' := [(h0, .inr (22, [.int 1, .ref h1, .int 0, .ref h2, .ref h3, .ref h4, .int 0, .int 0, .int 0, .ref h5, .int 0, .ref h6, .int 0, .int 0, .ref h7, .ref h8, .ref h9, .ref h10, .ref h11, .ref h12, .int 0, .ref h13, .int 0, .ref h14, .ref h15, .ref h16, .ref h17, .ref h18]))]) [1] (by decide) rfl
    exact (kq_iret (v := 0) hx hb hr hlocks hS rfl (Or.inr (⟨c_2, rfl, rfl⟩)) hP9 hD9 (Nat.le_of_ble_eq_true rfl) (Nat.le_of_ble_eq_true rfl) dX18_isExtinct_29)
set_option maxHeartbeats 4000000 in
set_option maxRecDepth 100000 in
theorem c_X11_bearers (l : Launch) (hfl : l.stackTraces = false) (D : va_G) (dA : Nat → ClassId) (tE tC : Nat) (h0 : Nat) (p0 : Int32) (h1 : Nat) (h2 : Nat) (h3 : Nat) (h4 : Nat) (h5 : Nat) (h6 : Nat) (h7 : Nat) (h8 : Nat) (h9 : Nat) (h10 : Nat) (h11 : Nat) (h12 : Nat) (h13 : Nat) (h14 : Nat) (h15 : Nat) (h16 : Nat) (h17 : Nat) (h18 : Nat) (h19 : Nat) (h20 : Nat) (h21 : Nat) : Cx l D dA tE tC yX11_bearers (Cond.code yX11_bearers cX11_bearers 2 (some .int) :: gW) ({ frames := 7, cells := 1, slots := 6, locals := 103 } : Room) [.ref h0, .int p0] [(h0, .inr (15, [.ref h1, .ref h2, .ref h3, .ref h4, .ref h5, .ref h6, .ref h7, .ref h8, .ref h9, .ref h10, .ref h11, .int 0, .int 0, .int 0])), (h7, .inr (13, [.ref h1, .ref h12, .ref h13, .ref h14, .ref h15, .ref h16, .ref h17, .ref h18, .ref h19, .ref h20, .ref h21, .int 0]))] (fun v w1 => False) (fun E => (p0.toInt < 0 ∧ E = "java/lang/IndexOutOfBoundsException") ∨ (¬ p0.toInt < 0 ∧ E = "java/lang/IndexOutOfBoundsException")) 1 6 := by
  refine Cx_of (by decide) (Nat.le_of_ble_eq_true rfl) ?_
  intro p e s m below meth c hx hb hr hml hown hnm hlocks hgw hK A hG hA hP hD ls hl hxt
  have hl : lv_has ls 2 [(0, .ref h0), (1, .int p0)] := hl
  have hS : va_S A s.heap s.heap [] := va_S.rf
  refine lv_aload_n hx hb dX11_bearers_0 rfl (lv_at hl 0 rfl) ?_
  refine lv_iload_n hx hb dX11_bearers_1 rfl (lv_at hl 1 rfl) ?_
  refine kx_V (q0 := 0) (As := [.int p0]) (rest := []) (wr := []) hx hb hml hown hgw hK hG hA hP hD hS (c_X11_needArms l hfl D dA tE tC h0 p0 h1 h2 h3 h4 h5 h6 h7 h8 h9 h10 h11 h12 h13 h14 h15 h16 h17 h18 h19 h20 h21) m_7_136 m_7_138 m_s_49 m_1_1 m_7_139 hd_X11_needArms rfl rfl ⟨(Nat.le_of_ble_eq_true rfl), (Nat.le_of_ble_eq_true rfl)⟩ [0, 1] [] rfl rfl rfl rfl (by decide) rfl rfl rfl hl.1 rfl (Nat.le_of_ble_eq_true rfl) dX11_bearers_2 ⟨(Nat.le_of_ble_eq_true rfl), (Nat.le_of_ble_eq_true rfl)⟩ (fun v w1 H locs hQ hP hD hS => hQ.elim) (fun E ce q9 H locs hX hP hD hS hce hcv hcl => ?_)
  rcases hX with ⟨c_1, rfl⟩ | ⟨c_2, rfl⟩
  · skip
    exact kx_out hxt hlocks hS hce hcv hcl (Or.inl ⟨c_1, rfl⟩) (Nat.le_of_ble_eq_true rfl) (Nat.le_of_ble_eq_true rfl)
  · skip
    exact kx_out hxt hlocks hS hce hcv hcl (Or.inr (⟨c_2, rfl⟩)) (Nat.le_of_ble_eq_true rfl) (Nat.le_of_ble_eq_true rfl)
set_option maxHeartbeats 4000000 in
set_option maxRecDepth 100000 in
theorem c_L_bearers (l : Launch) (hfl : l.stackTraces = false) (D : va_G) (dA : Nat → ClassId) (tE tC : Nat) (h0 : Nat) (p0 : Int32) (h1 : Nat) (h2 : Nat) (h3 : Nat) (h4 : Nat) (h5 : Nat) (h6 : Nat) (h7 : Nat) (h8 : Nat) (h9 : Nat) (h10 : Nat) (h11 : Nat) (h12 : Nat) (h13 : Nat) (h14 : Nat) (h15 : Nat) (h16 : Nat) (h17 : Nat) (h18 : Nat) (h19 : Nat) (h20 : Nat) (h21 : Nat) (h22 : Nat) : Cx l D dA tE tC yL_bearers (Cond.codeWith yL_bearers cL_bearers 4 (some .int) [(0, 9, 12, 21)] :: gW) ({ frames := 8, cells := 1, slots := 6, locals := 124 } : Room) [.ref h0, .int p0, .ref h1] [(h0, .inr (15, [.ref h2, .ref h3, .ref h4, .ref h5, .ref h6, .ref h7, .ref h8, .ref h9, .ref h10, .ref h11, .ref h12, .int 0, .int 0, .int 0])), (h8, .inr (13, [.ref h2, .ref h13, .ref h14, .ref h15, .ref h16, .ref h17, .ref h18, .ref h19, .ref h20, .ref h21, .ref h22, .int 0]))] (fun v w1 => (p0.toInt < 0 ∧ v = some (.int 1) ∧ w1 = []) ∨ (¬ p0.toInt < 0 ∧ v = some (.int 1) ∧ w1 = [])) (fun E => False) 1 6 := by
  refine Ch_of (by decide) (Nat.le_of_ble_eq_true rfl) ?_
  intro p e s m below meth c hx hb hr hml hown hnm hlocks hgw hK A hG hA hP hD ls hl hxt
  have hl : lv_has ls 4 [(0, .ref h0), (1, .int p0), (2, .ref h1)] := hl
  have hS : va_S A s.heap s.heap [] := va_S.rf
  refine lv_aload_n hx hb dL_bearers_0 rfl (lv_at hl 2 rfl) ?_
  refine lv_iconst (v := 0) hx hb dL_bearers_1 (by decide) ?_
  refine lv_aload_n hx hb dL_bearers_2 rfl (lv_at hl 0 rfl) ?_
  refine lv_iload_n hx hb dL_bearers_3 rfl (lv_at hl 1 rfl) ?_
  refine kx_V (q0 := 0) (As := [.int p0]) (rest := [.int 0, .ref h1]) (wr := []) hx hb hml hown hgw hK hG hA hP hD hS (c_X11_bearers l hfl D dA tE tC h0 p0 h2 h3 h4 h5 h6 h7 h8 h9 h10 h11 h12 h13 h14 h15 h16 h17 h18 h19 h20 h21 h22) m_7_233 m_7_234 m_7_235 m_1_1 m_7_236 hd_X11_bearers rfl rfl ⟨(Nat.le_of_ble_eq_true rfl), (Nat.le_of_ble_eq_true rfl)⟩ [0, 1] [] rfl rfl rfl rfl (by decide) rfl rfl rfl hl.1 rfl (Nat.le_of_ble_eq_true rfl) dL_bearers_4 ⟨(Nat.le_of_ble_eq_true rfl), (Nat.le_of_ble_eq_true rfl)⟩ (fun v w1 H locs hQ hP hD hS => hQ.elim) (fun E ce q9 H locs hX hP hD hS hce hcv hcl => ?_)
  rcases hX with ⟨c_1, rfl⟩ | ⟨c_2, rfl⟩
  · skip
    refine vx_catch (name := "java/lang/IndexOutOfBoundsException") hown (tableOf []) { startPc := 0, endPc := 9, handlerPc := 12, catchType := 21 } (tableOf []) hxt kx_p0 rfl (by decide) (hgw _ m_5_117) (va_Nw.use rfl (hG.2.2.2.1 ("java/lang/IndexOutOfBoundsException", "java/lang/IndexOutOfBoundsException") n_c3)) hce hcv hcl ?_
    refine W.eq (g2 := F0 m 12 ls [.ref q9]) rfl ?_
    refine lv_astore_n (lv' := [(3, .ref q9), (0, .ref h0), (1, .int p0), (2, .ref h1)]) hx hb dL_bearers_12 rfl hl (by decide) rfl (fun ls hl => ?_)
    refine lv_iconst (v := 1) hx hb dL_bearers_13 (by decide) ?_
    have hP9 := hP.sub (ws' := []) [] rfl
    have hD9 := hD.sub (ws' := []) [] (by decide) rfl
    exact vx_ret (kq_iret (v := 1) hx hb hr hlocks hS rfl (Or.inl ⟨c_1, rfl, rfl⟩) hP9 hD9 (Nat.le_of_ble_eq_true rfl) (Nat.le_of_ble_eq_true rfl) dL_bearers_14)
  · skip
    refine vx_catch (name := "java/lang/IndexOutOfBoundsException") hown (tableOf []) { startPc := 0, endPc := 9, handlerPc := 12, catchType := 21 } (tableOf []) hxt kx_p0 rfl (by decide) (hgw _ m_5_117) (va_Nw.use rfl (hG.2.2.2.1 ("java/lang/IndexOutOfBoundsException", "java/lang/IndexOutOfBoundsException") n_c3)) hce hcv hcl ?_
    refine W.eq (g2 := F0 m 12 ls [.ref q9]) rfl ?_
    refine lv_astore_n (lv' := [(3, .ref q9), (0, .ref h0), (1, .int p0), (2, .ref h1)]) hx hb dL_bearers_12 rfl hl (by decide) rfl (fun ls hl => ?_)
    refine lv_iconst (v := 1) hx hb dL_bearers_13 (by decide) ?_
    have hP9 := hP.sub (ws' := []) [] rfl
    have hD9 := hD.sub (ws' := []) [] (by decide) rfl
    exact vx_ret (kq_iret (v := 1) hx hb hr hlocks hS rfl (Or.inr (⟨c_2, rfl, rfl⟩)) hP9 hD9 (Nat.le_of_ble_eq_true rfl) (Nat.le_of_ble_eq_true rfl) dL_bearers_14)
set_option maxHeartbeats 4000000 in
set_option maxRecDepth 100000 in
theorem c_X18_bearers (l : Launch) (hfl : l.stackTraces = false) (D : va_G) (dA : Nat → ClassId) (tE tC : Nat) (h0 : Nat) (p0 : Int32) (h1 : Nat) (h2 : Nat) (h3 : Nat) (h4 : Nat) (h5 : Nat) (h6 : Nat) (h7 : Nat) (h8 : Nat) (h9 : Nat) (h10 : Nat) (h11 : Nat) (h12 : Nat) (h13 : Nat) (h14 : Nat) (h15 : Nat) (h16 : Nat) (h17 : Nat) (h18 : Nat) : Ct l D dA tE tC yX18_bearers (Cond.code yX18_bearers cX18_bearers 2 (some .int) :: gW) ({ frames := 3, cells := 0, slots := 0, locals := 64 } : Room) [.ref h0, .int p0] [(h0, .inr (22, [.int 0, .ref h1, .int 0, .ref h2, .ref h3, .ref h4, .int 0, .int 0, .int 0, .ref h5, .int 0, .ref h6, .int 0, .int 0, .ref h7, .ref h8, .ref h9, .ref h10, .ref h11, .ref h12, .int 0, .ref h13, .int 0, .ref h14, .ref h15, .ref h16, .ref h17, .ref h18])), (h3, .inr (3, [.int 0, .ref tE, .int 0]))] (fun v w1 => (p0.toInt < 0 ∧ v = some (.int 0) ∧ w1 = [(h0, .inr (22, [.int 1, .ref h1, .int 0, .ref h2, .ref h3, .ref h4, .int 0, .int 0, .int 0, .ref h5, .int 0, .ref h6, .int 0, .int 0, .ref h7, .ref h8, .ref h9, .ref h10, .ref h11, .ref h12, .int 0, .ref h13, .int 0, .ref h14, .ref h15, .ref h16, .ref h17, .ref h18]))]) ∨ (¬ p0.toInt < 0 ∧ v = some (.int 0) ∧ w1 = [(h0, .inr (22, [.int 1, .ref h1, .int 0, .ref h2, .ref h3, .ref h4, .int 0, .int 0, .int 0, .ref h5, .int 0, .ref h6, .int 0, .int 0, .ref h7, .ref h8, .ref h9, .ref h10, .ref h11, .ref h12, .int 0, .ref h13, .int 0, .ref h14, .ref h15, .ref h16, .ref h17, .ref h18]))])) 0 0 := by
  refine Ct_of (by decide) (Nat.le_of_ble_eq_true rfl) ?_
  intro p e s m below meth c hx hb hr hml hown hnm hlocks hgw hK A hG hA hP hD ls hl
  have hl : lv_has ls 2 [(0, .ref h0), (1, .int p0)] := hl
  have hS : va_S A s.heap s.heap [] := va_S.rf
  refine lv_aload_n hx hb dX18_bearers_0 rfl (lv_at hl 0 rfl) ?_
  refine lv_iload_n hx hb dX18_bearers_1 rfl (lv_at hl 1 rfl) ?_
  refine kq_V (q0 := 0) (As := [.int p0]) (rest := []) (wr := []) hx hb hml hown hgw hK hG hA hP hD hS (c_X18_failsArms l hfl D dA tE tC h0 p0 h1 h2 h3 h4 h5 h6 h7 h8 h9 h10 h11 h12 h13 h14 h15 h16 h17 h18) m_13_1 m_13_3 m_s_102 m_1_15 m_13_4 hd_X18_failsArms rfl rfl ⟨(Nat.le_of_ble_eq_true rfl), (Nat.le_of_ble_eq_true rfl)⟩ [0, 1] [] rfl rfl rfl rfl (by decide) rfl rfl rfl hl.1 rfl (Nat.le_of_ble_eq_true rfl) dX18_bearers_2 ⟨(Nat.le_of_ble_eq_true rfl), (Nat.le_of_ble_eq_true rfl)⟩ (fun v w1 H locs hQ hP hD hS => ?_)
  rcases hQ with ⟨c_1, rfl, rfl⟩ | ⟨c_2, rfl, rfl⟩
  · skip
    refine W.eq (g2 := F0 m 5 ls [.int 1]) rfl ?_
    have hP : va_P D vwCl [(h3, .inr (3, [.int 0, .ref tE, .int 0])), (h0, .inr (22, [.int 1, .ref h1, .int 0, .ref h2, .ref h3, .ref h4, .int 0, .int 0, .int 0, .ref h5, .int 0, .ref h6, .int 0, .int 0, .ref h7, .ref h8, .ref h9, .ref h10, .ref h11, .ref h12, .int 0, .ref h13, .int 0, .ref h14, .ref h15, .ref h16, .ref h17, .ref h18]))] H := hP
    have hD : va_D A [(h3, .inr (3, [.int 0, .ref tE, .int 0])), (h0, .inr (22, [.int 1, .ref h1, .int 0, .ref h2, .ref h3, .ref h4, .int 0, .int 0, .int 0, .ref h5, .int 0, .ref h6, .int 0, .int 0, .ref h7, .ref h8, .ref h9, .ref h10, .ref h11, .ref h12, .int 0, .ref h13, .int 0, .ref h14, .ref h15, .ref h16, .ref h17, .ref h18]))] := hD
    refine lv_if_eq (tgt := 12) hx hb dX18_bearers_5 (by decide) (fun h => absurd h (by decide +kernel)) (fun _ => ?_)
    refine lv_iconst (v := 0) hx hb dX18_bearers_8 (by decide) ?_
    refine lv_goto (tgt := 17) hx hb dX18_bearers_9 (by decide) ?_
    have hP9 := hP.sub (ws' := [(h0, .inr (22, [.int 1, .ref h1, .int 0, .ref h2, .ref h3, .ref h4, .int 0, .int 0, .int 0, .ref h5, .int 0, .ref h6, .int 0, .int 0, .ref h7, .ref h8, .ref h9, .ref h10, .ref h11, .ref h12, .int 0, .ref h13, .int 0, .ref h14, .ref h15, .ref h16, .ref h17, .ref h18]))]) [1] rfl
    have hD9 := hD.sub (ws' := [(h0, .inr (22, [.int 1, .ref h1, .int 0, .ref h2, .ref h3, .ref h4, .int 0, .int 0, .int 0, .ref h5, .int 0, .ref h6, .int 0, .int 0, .ref h7, .ref h8, .ref h9, .ref h10, .ref h11, .ref h12, .int 0, .ref h13, .int 0, .ref h14, .ref h15, .ref h16, .ref h17, .ref h18]))]) [1] (by decide) rfl
    exact (kq_iret (v := 0) hx hb hr hlocks hS rfl (Or.inl ⟨c_1, rfl, rfl⟩) hP9 hD9 (Nat.le_of_ble_eq_true rfl) (Nat.le_of_ble_eq_true rfl) dX18_bearers_17)
  · skip
    refine W.eq (g2 := F0 m 5 ls [.int 1]) rfl ?_
    have hP : va_P D vwCl [(h3, .inr (3, [.int 0, .ref tE, .int 0])), (h0, .inr (22, [.int 1, .ref h1, .int 0, .ref h2, .ref h3, .ref h4, .int 0, .int 0, .int 0, .ref h5, .int 0, .ref h6, .int 0, .int 0, .ref h7, .ref h8, .ref h9, .ref h10, .ref h11, .ref h12, .int 0, .ref h13, .int 0, .ref h14, .ref h15, .ref h16, .ref h17, .ref h18]))] H := hP
    have hD : va_D A [(h3, .inr (3, [.int 0, .ref tE, .int 0])), (h0, .inr (22, [.int 1, .ref h1, .int 0, .ref h2, .ref h3, .ref h4, .int 0, .int 0, .int 0, .ref h5, .int 0, .ref h6, .int 0, .int 0, .ref h7, .ref h8, .ref h9, .ref h10, .ref h11, .ref h12, .int 0, .ref h13, .int 0, .ref h14, .ref h15, .ref h16, .ref h17, .ref h18]))] := hD
    refine lv_if_eq (tgt := 12) hx hb dX18_bearers_5 (by decide) (fun h => absurd h (by decide +kernel)) (fun _ => ?_)
    refine lv_iconst (v := 0) hx hb dX18_bearers_8 (by decide) ?_
    refine lv_goto (tgt := 17) hx hb dX18_bearers_9 (by decide) ?_
    have hP9 := hP.sub (ws' := [(h0, .inr (22, [.int 1, .ref h1, .int 0, .ref h2, .ref h3, .ref h4, .int 0, .int 0, .int 0, .ref h5, .int 0, .ref h6, .int 0, .int 0, .ref h7, .ref h8, .ref h9, .ref h10, .ref h11, .ref h12, .int 0, .ref h13, .int 0, .ref h14, .ref h15, .ref h16, .ref h17, .ref h18]))]) [1] rfl
    have hD9 := hD.sub (ws' := [(h0, .inr (22, [.int 1, .ref h1, .int 0, .ref h2, .ref h3, .ref h4, .int 0, .int 0, .int 0, .ref h5, .int 0, .ref h6, .int 0, .int 0, .ref h7, .ref h8, .ref h9, .ref h10, .ref h11, .ref h12, .int 0, .ref h13, .int 0, .ref h14, .ref h15, .ref h16, .ref h17, .ref h18]))]) [1] (by decide) rfl
    exact (kq_iret (v := 0) hx hb hr hlocks hS rfl (Or.inr (⟨c_2, rfl, rfl⟩)) hP9 hD9 (Nat.le_of_ble_eq_true rfl) (Nat.le_of_ble_eq_true rfl) dX18_bearers_17)
set_option maxHeartbeats 4000000 in
set_option maxRecDepth 100000 in
theorem c_X11_ofArms (l : Launch) (hfl : l.stackTraces = false) (D : va_G) (dA : Nat → ClassId) (tE tC : Nat) (h0 : Nat) (p0 : Int32) (p1 : Int32) (p2 : Int32) (h1 : Nat) (h2 : Nat) (h3 : Nat) (h4 : Nat) (h5 : Nat) (h6 : Nat) (h7 : Nat) (h8 : Nat) (h9 : Nat) (h10 : Nat) (h11 : Nat) (h12 : Nat) (h13 : Nat) (h14 : Nat) (h15 : Nat) (h16 : Nat) (h17 : Nat) (h18 : Nat) (h19 : Nat) (h20 : Nat) (h21 : Nat) : Cx l D dA tE tC yX11_ofArms (Cond.code yX11_ofArms cX11_ofArms 4 (some .int) :: gW) ({ frames := 7, cells := 1, slots := 6, locals := 103 } : Room) [.ref h0, .int p0, .int p1, .int p2] [(h0, .inr (15, [.ref h1, .ref h2, .ref h3, .ref h4, .ref h5, .ref h6, .ref h7, .ref h8, .ref h9, .ref h10, .ref h11, .int 0, .int 0, .int 0])), (h7, .inr (13, [.ref h1, .ref h12, .ref h13, .ref h14, .ref h15, .ref h16, .ref h17, .ref h18, .ref h19, .ref h20, .ref h21, .int 0]))] (fun v w1 => False) (fun E => (p0.toInt < 0 ∧ E = "java/lang/IndexOutOfBoundsException") ∨ (¬ p0.toInt < 0 ∧ E = "java/lang/IndexOutOfBoundsException")) 1 6 := by
  refine Cx_of (by decide) (Nat.le_of_ble_eq_true rfl) ?_
  intro p e s m below meth c hx hb hr hml hown hnm hlocks hgw hK A hG hA hP hD ls hl hxt
  have hl : lv_has ls 4 [(0, .ref h0), (1, .int p0), (2, .int p1), (3, .int p2)] := hl
  have hS : va_S A s.heap s.heap [] := va_S.rf
  refine lv_aload_n hx hb dX11_ofArms_0 rfl (lv_at hl 0 rfl) ?_
  refine lv_iload_n hx hb dX11_ofArms_1 rfl (lv_at hl 1 rfl) ?_
  refine kx_V (q0 := 0) (As := [.int p0]) (rest := []) (wr := []) hx hb hml hown hgw hK hG hA hP hD hS (c_X11_needArms l hfl D dA tE tC h0 p0 h1 h2 h3 h4 h5 h6 h7 h8 h9 h10 h11 h12 h13 h14 h15 h16 h17 h18 h19 h20 h21) m_7_136 m_7_138 m_s_49 m_1_1 m_7_139 hd_X11_needArms rfl rfl ⟨(Nat.le_of_ble_eq_true rfl), (Nat.le_of_ble_eq_true rfl)⟩ [0, 1] [] rfl rfl rfl rfl (by decide) rfl rfl rfl hl.1 rfl (Nat.le_of_ble_eq_true rfl) dX11_ofArms_2 ⟨(Nat.le_of_ble_eq_true rfl), (Nat.le_of_ble_eq_true rfl)⟩ (fun v w1 H locs hQ hP hD hS => hQ.elim) (fun E ce q9 H locs hX hP hD hS hce hcv hcl => ?_)
  rcases hX with ⟨c_1, rfl⟩ | ⟨c_2, rfl⟩
  · skip
    exact kx_out hxt hlocks hS hce hcv hcl (Or.inl ⟨c_1, rfl⟩) (Nat.le_of_ble_eq_true rfl) (Nat.le_of_ble_eq_true rfl)
  · skip
    exact kx_out hxt hlocks hS hce hcv hcl (Or.inr (⟨c_2, rfl⟩)) (Nat.le_of_ble_eq_true rfl) (Nat.le_of_ble_eq_true rfl)
set_option maxHeartbeats 4000000 in
set_option maxRecDepth 100000 in
theorem c_L_ofArms (l : Launch) (hfl : l.stackTraces = false) (D : va_G) (dA : Nat → ClassId) (tE tC : Nat) (h0 : Nat) (p0 : Int32) (p1 : Int32) (p2 : Int32) (h1 : Nat) (h2 : Nat) (h3 : Nat) (h4 : Nat) (h5 : Nat) (h6 : Nat) (h7 : Nat) (h8 : Nat) (h9 : Nat) (h10 : Nat) (h11 : Nat) (h12 : Nat) (h13 : Nat) (h14 : Nat) (h15 : Nat) (h16 : Nat) (h17 : Nat) (h18 : Nat) (h19 : Nat) (h20 : Nat) (h21 : Nat) (h22 : Nat) : Cx l D dA tE tC yL_ofArms (Cond.codeWith yL_ofArms cL_ofArms 6 (some .int) [(0, 12, 15, 21)] :: gW) ({ frames := 8, cells := 1, slots := 6, locals := 126 } : Room) [.ref h0, .int p0, .int p1, .int p2, .ref h1] [(h0, .inr (15, [.ref h2, .ref h3, .ref h4, .ref h5, .ref h6, .ref h7, .ref h8, .ref h9, .ref h10, .ref h11, .ref h12, .int 0, .int 0, .int 0])), (h8, .inr (13, [.ref h2, .ref h13, .ref h14, .ref h15, .ref h16, .ref h17, .ref h18, .ref h19, .ref h20, .ref h21, .ref h22, .int 0]))] (fun v w1 => (p0.toInt < 0 ∧ v = some (.int 1) ∧ w1 = []) ∨ (¬ p0.toInt < 0 ∧ v = some (.int 1) ∧ w1 = [])) (fun E => False) 1 6 := by
  refine Ch_of (by decide) (Nat.le_of_ble_eq_true rfl) ?_
  intro p e s m below meth c hx hb hr hml hown hnm hlocks hgw hK A hG hA hP hD ls hl hxt
  have hl : lv_has ls 6 [(0, .ref h0), (1, .int p0), (2, .int p1), (3, .int p2), (4, .ref h1)] := hl
  have hS : va_S A s.heap s.heap [] := va_S.rf
  refine lv_aload hx hb dL_ofArms_0 (lv_at hl 4 rfl) ?_
  refine lv_iconst (v := 0) hx hb dL_ofArms_2 (by decide) ?_
  refine lv_aload_n hx hb dL_ofArms_3 rfl (lv_at hl 0 rfl) ?_
  refine lv_iload_n hx hb dL_ofArms_4 rfl (lv_at hl 1 rfl) ?_
  refine lv_iload_n hx hb dL_ofArms_5 rfl (lv_at hl 2 rfl) ?_
  refine lv_iload_n hx hb dL_ofArms_6 rfl (lv_at hl 3 rfl) ?_
  refine kx_V (q0 := 0) (As := [.int p0, .int p1, .int p2]) (rest := [.int 0, .ref h1]) (wr := []) hx hb hml hown hgw hK hG hA hP hD hS (c_X11_ofArms l hfl D dA tE tC h0 p0 p1 p2 h2 h3 h4 h5 h6 h7 h8 h9 h10 h11 h12 h13 h14 h15 h16 h17 h18 h19 h20 h21 h22) m_8_0 m_8_1 m_8_2 m_1_1 m_8_3 hd_X11_ofArms rfl rfl ⟨(Nat.le_of_ble_eq_true rfl), (Nat.le_of_ble_eq_true rfl)⟩ [0, 1] [] rfl rfl rfl rfl (by decide) rfl rfl rfl hl.1 rfl (Nat.le_of_ble_eq_true rfl) dL_ofArms_7 ⟨(Nat.le_of_ble_eq_true rfl), (Nat.le_of_ble_eq_true rfl)⟩ (fun v w1 H locs hQ hP hD hS => hQ.elim) (fun E ce q9 H locs hX hP hD hS hce hcv hcl => ?_)
  rcases hX with ⟨c_1, rfl⟩ | ⟨c_2, rfl⟩
  · skip
    refine vx_catch (name := "java/lang/IndexOutOfBoundsException") hown (tableOf []) { startPc := 0, endPc := 12, handlerPc := 15, catchType := 21 } (tableOf []) hxt kx_p0 rfl (by decide) (hgw _ m_5_117) (va_Nw.use rfl (hG.2.2.2.1 ("java/lang/IndexOutOfBoundsException", "java/lang/IndexOutOfBoundsException") n_c3)) hce hcv hcl ?_
    refine W.eq (g2 := F0 m 15 ls [.ref q9]) rfl ?_
    refine lv_astore (lv' := [(5, .ref q9), (0, .ref h0), (1, .int p0), (2, .int p1), (3, .int p2), (4, .ref h1)]) hx hb dL_ofArms_15 hl (by decide) rfl (fun ls hl => ?_)
    refine lv_iconst (v := 1) hx hb dL_ofArms_17 (by decide) ?_
    have hP9 := hP.sub (ws' := []) [] rfl
    have hD9 := hD.sub (ws' := []) [] (by decide) rfl
    exact vx_ret (kq_iret (v := 1) hx hb hr hlocks hS rfl (Or.inl ⟨c_1, rfl, rfl⟩) hP9 hD9 (Nat.le_of_ble_eq_true rfl) (Nat.le_of_ble_eq_true rfl) dL_ofArms_18)
  · skip
    refine vx_catch (name := "java/lang/IndexOutOfBoundsException") hown (tableOf []) { startPc := 0, endPc := 12, handlerPc := 15, catchType := 21 } (tableOf []) hxt kx_p0 rfl (by decide) (hgw _ m_5_117) (va_Nw.use rfl (hG.2.2.2.1 ("java/lang/IndexOutOfBoundsException", "java/lang/IndexOutOfBoundsException") n_c3)) hce hcv hcl ?_
    refine W.eq (g2 := F0 m 15 ls [.ref q9]) rfl ?_
    refine lv_astore (lv' := [(5, .ref q9), (0, .ref h0), (1, .int p0), (2, .int p1), (3, .int p2), (4, .ref h1)]) hx hb dL_ofArms_15 hl (by decide) rfl (fun ls hl => ?_)
    refine lv_iconst (v := 1) hx hb dL_ofArms_17 (by decide) ?_
    have hP9 := hP.sub (ws' := []) [] rfl
    have hD9 := hD.sub (ws' := []) [] (by decide) rfl
    exact vx_ret (kq_iret (v := 1) hx hb hr hlocks hS rfl (Or.inr (⟨c_2, rfl, rfl⟩)) hP9 hD9 (Nat.le_of_ble_eq_true rfl) (Nat.le_of_ble_eq_true rfl) dL_ofArms_18)
set_option maxHeartbeats 4000000 in
set_option maxRecDepth 100000 in
theorem c_X18_ofArms (l : Launch) (hfl : l.stackTraces = false) (D : va_G) (dA : Nat → ClassId) (tE tC : Nat) (h0 : Nat) (p0 : Int32) (p1 : Int32) (p2 : Int32) (h1 : Nat) (h2 : Nat) (h3 : Nat) (h4 : Nat) (h5 : Nat) (h6 : Nat) (h7 : Nat) (h8 : Nat) (h9 : Nat) (h10 : Nat) (h11 : Nat) (h12 : Nat) (h13 : Nat) (h14 : Nat) (h15 : Nat) (h16 : Nat) (h17 : Nat) (h18 : Nat) : Ct l D dA tE tC yX18_ofArms (Cond.code yX18_ofArms cX18_ofArms 4 (some .int) :: gW) ({ frames := 2, cells := 0, slots := 0, locals := 43 } : Room) [.ref h0, .int p0, .int p1, .int p2] [(h0, .inr (22, [.int 0, .ref h1, .int 0, .ref h2, .ref h3, .ref h4, .int 0, .int 0, .int 0, .ref h5, .int 0, .ref h6, .int 0, .int 0, .ref h7, .ref h8, .ref h9, .ref h10, .ref h11, .ref h12, .int 0, .ref h13, .int 0, .ref h14, .ref h15, .ref h16, .ref h17, .ref h18])), (h3, .inr (3, [.int 0, .ref tE, .int 0]))] (fun v w1 => (p0.toInt < 0 ∧ v = some (.int 0) ∧ w1 = [(h0, .inr (22, [.int 1, .ref h1, .int 0, .ref h2, .ref h3, .ref h4, .int 0, .int 0, .int 0, .ref h5, .int 0, .ref h6, .int 0, .int 0, .ref h7, .ref h8, .ref h9, .ref h10, .ref h11, .ref h12, .int 0, .ref h13, .int 0, .ref h14, .ref h15, .ref h16, .ref h17, .ref h18]))]) ∨ (¬ p0.toInt < 0 ∧ v = some (.int 0) ∧ w1 = [(h0, .inr (22, [.int 1, .ref h1, .int 0, .ref h2, .ref h3, .ref h4, .int 0, .int 0, .int 0, .ref h5, .int 0, .ref h6, .int 0, .int 0, .ref h7, .ref h8, .ref h9, .ref h10, .ref h11, .ref h12, .int 0, .ref h13, .int 0, .ref h14, .ref h15, .ref h16, .ref h17, .ref h18]))])) 0 0 := by
  refine Ct_of (by decide) (Nat.le_of_ble_eq_true rfl) ?_
  intro p e s m below meth c hx hb hr hml hown hnm hlocks hgw hK A hG hA hP hD ls hl
  have hl : lv_has ls 4 [(0, .ref h0), (1, .int p0), (2, .int p1), (3, .int p2)] := hl
  have hS : va_S A s.heap s.heap [] := va_S.rf
  refine lv_aload_n hx hb dX18_ofArms_0 rfl (lv_at hl 0 rfl) ?_
  refine lv_aload_n hx hb dX18_ofArms_1 rfl (lv_at hl 0 rfl) ?_
  refine lv_iload_n hx hb dX18_ofArms_2 rfl (lv_at hl 1 rfl) ?_
  refine kq_V (q0 := 0) (As := [.int p0]) (rest := [.ref h0]) (wr := []) hx hb hml hown hgw hK hG hA hP hD hS (c_X18_isArms l hfl D dA tE tC h0 p0 h1 h2 h3 h4 h5 h6 h7 h8 h9 h10 h11 h12 h13 h14 h15 h16 h17 h18) m_13_5 m_13_7 m_s_103 m_1_15 m_13_8 hd_X18_isArms rfl rfl ⟨(Nat.le_of_ble_eq_true rfl), (Nat.le_of_ble_eq_true rfl)⟩ [0, 1] [] rfl rfl rfl rfl (by decide) rfl rfl rfl hl.1 rfl (Nat.le_of_ble_eq_true rfl) dX18_ofArms_3 ⟨(Nat.le_of_ble_eq_true rfl), (Nat.le_of_ble_eq_true rfl)⟩ (fun v w1 H locs hQ hP hD hS => ?_)
  rcases hQ with ⟨c_1, rfl, rfl⟩ | ⟨c_2, rfl, rfl⟩
  · skip
    refine W.eq (g2 := F0 m 6 ls [.int 0, .ref h0]) rfl ?_
    have hP : va_P D vwCl [(h0, .inr (22, [.int 0, .ref h1, .int 0, .ref h2, .ref h3, .ref h4, .int 0, .int 0, .int 0, .ref h5, .int 0, .ref h6, .int 0, .int 0, .ref h7, .ref h8, .ref h9, .ref h10, .ref h11, .ref h12, .int 0, .ref h13, .int 0, .ref h14, .ref h15, .ref h16, .ref h17, .ref h18])), (h3, .inr (3, [.int 0, .ref tE, .int 0]))] H := hP
    have hD : va_D A [(h0, .inr (22, [.int 0, .ref h1, .int 0, .ref h2, .ref h3, .ref h4, .int 0, .int 0, .int 0, .ref h5, .int 0, .ref h6, .int 0, .int 0, .ref h7, .ref h8, .ref h9, .ref h10, .ref h11, .ref h12, .int 0, .ref h13, .int 0, .ref h14, .ref h15, .ref h16, .ref h17, .ref h18])), (h3, .inr (3, [.int 0, .ref tE, .int 0]))] := hD
    refine lv_if_eq (tgt := 21) hx hb dX18_ofArms_6 (by decide) (fun _ => ?_) (fun h => absurd (by decide +kernel) h)
    refine lv_iconst (v := 1) hx hb dX18_ofArms_21 (by decide) ?_
    refine kq_V (q0 := 0) (As := [.int 1]) (rest := []) (wr := [(h3, .inr (3, [.int 0, .ref tE, .int 0]))]) hx hb hml hown hgw hK hG hA hP hD hS (c_X18_fails l hfl D dA tE tC h0 h1 h2 h3 h4 h5 h6 h7 h8 h9 h10 h11 h12 h13 h14 h15 h16 h17 h18) m_10_93 m_10_95 m_s_61 m_1_15 m_10_96 hd_X18_fails rfl rfl ⟨(Nat.le_of_ble_eq_true rfl), (Nat.le_of_ble_eq_true rfl)⟩ [0] [1] rfl rfl rfl rfl (by decide) rfl rfl rfl hl.1 rfl (Nat.le_of_ble_eq_true rfl) dX18_ofArms_22 ⟨(Nat.le_of_ble_eq_true rfl), (Nat.le_of_ble_eq_true rfl)⟩ (fun v w1 H locs hQ hP hD hS => ?_)
    obtain ⟨rfl, rfl⟩ := hQ
    refine W.eq (g2 := F0 m 25 ls [.int 1]) rfl ?_
    have hP : va_P D vwCl [(h3, .inr (3, [.int 0, .ref tE, .int 0])), (h0, .inr (22, [.int 1, .ref h1, .int 0, .ref h2, .ref h3, .ref h4, .int 0, .int 0, .int 0, .ref h5, .int 0, .ref h6, .int 0, .int 0, .ref h7, .ref h8, .ref h9, .ref h10, .ref h11, .ref h12, .int 0, .ref h13, .int 0, .ref h14, .ref h15, .ref h16, .ref h17, .ref h18]))] H := hP
    have hD : va_D A [(h3, .inr (3, [.int 0, .ref tE, .int 0])), (h0, .inr (22, [.int 1, .ref h1, .int 0, .ref h2, .ref h3, .ref h4, .int 0, .int 0, .int 0, .ref h5, .int 0, .ref h6, .int 0, .int 0, .ref h7, .ref h8, .ref h9, .ref h10, .ref h11, .ref h12, .int 0, .ref h13, .int 0, .ref h14, .ref h15, .ref h16, .ref h17, .ref h18]))] := hD
    refine lv_if_eq (tgt := 30) hx hb dX18_ofArms_25 (by decide) (fun h => absurd h (by decide +kernel)) (fun _ => ?_)
    refine lv_iconst (v := 0) hx hb dX18_ofArms_28 (by decide) ?_
    have hP9 := hP.sub (ws' := [(h0, .inr (22, [.int 1, .ref h1, .int 0, .ref h2, .ref h3, .ref h4, .int 0, .int 0, .int 0, .ref h5, .int 0, .ref h6, .int 0, .int 0, .ref h7, .ref h8, .ref h9, .ref h10, .ref h11, .ref h12, .int 0, .ref h13, .int 0, .ref h14, .ref h15, .ref h16, .ref h17, .ref h18]))]) [1] rfl
    have hD9 := hD.sub (ws' := [(h0, .inr (22, [.int 1, .ref h1, .int 0, .ref h2, .ref h3, .ref h4, .int 0, .int 0, .int 0, .ref h5, .int 0, .ref h6, .int 0, .int 0, .ref h7, .ref h8, .ref h9, .ref h10, .ref h11, .ref h12, .int 0, .ref h13, .int 0, .ref h14, .ref h15, .ref h16, .ref h17, .ref h18]))]) [1] (by decide) rfl
    exact (kq_iret (v := 0) hx hb hr hlocks hS rfl (Or.inl ⟨c_1, rfl, rfl⟩) hP9 hD9 (Nat.le_of_ble_eq_true rfl) (Nat.le_of_ble_eq_true rfl) dX18_ofArms_29)
  · skip
    refine W.eq (g2 := F0 m 6 ls [.int 0, .ref h0]) rfl ?_
    have hP : va_P D vwCl [(h0, .inr (22, [.int 0, .ref h1, .int 0, .ref h2, .ref h3, .ref h4, .int 0, .int 0, .int 0, .ref h5, .int 0, .ref h6, .int 0, .int 0, .ref h7, .ref h8, .ref h9, .ref h10, .ref h11, .ref h12, .int 0, .ref h13, .int 0, .ref h14, .ref h15, .ref h16, .ref h17, .ref h18])), (h3, .inr (3, [.int 0, .ref tE, .int 0]))] H := hP
    have hD : va_D A [(h0, .inr (22, [.int 0, .ref h1, .int 0, .ref h2, .ref h3, .ref h4, .int 0, .int 0, .int 0, .ref h5, .int 0, .ref h6, .int 0, .int 0, .ref h7, .ref h8, .ref h9, .ref h10, .ref h11, .ref h12, .int 0, .ref h13, .int 0, .ref h14, .ref h15, .ref h16, .ref h17, .ref h18])), (h3, .inr (3, [.int 0, .ref tE, .int 0]))] := hD
    refine lv_if_eq (tgt := 21) hx hb dX18_ofArms_6 (by decide) (fun _ => ?_) (fun h => absurd (by decide +kernel) h)
    refine lv_iconst (v := 1) hx hb dX18_ofArms_21 (by decide) ?_
    refine kq_V (q0 := 0) (As := [.int 1]) (rest := []) (wr := [(h3, .inr (3, [.int 0, .ref tE, .int 0]))]) hx hb hml hown hgw hK hG hA hP hD hS (c_X18_fails l hfl D dA tE tC h0 h1 h2 h3 h4 h5 h6 h7 h8 h9 h10 h11 h12 h13 h14 h15 h16 h17 h18) m_10_93 m_10_95 m_s_61 m_1_15 m_10_96 hd_X18_fails rfl rfl ⟨(Nat.le_of_ble_eq_true rfl), (Nat.le_of_ble_eq_true rfl)⟩ [0] [1] rfl rfl rfl rfl (by decide) rfl rfl rfl hl.1 rfl (Nat.le_of_ble_eq_true rfl) dX18_ofArms_22 ⟨(Nat.le_of_ble_eq_true rfl), (Nat.le_of_ble_eq_true rfl)⟩ (fun v w1 H locs hQ hP hD hS => ?_)
    obtain ⟨rfl, rfl⟩ := hQ
    refine W.eq (g2 := F0 m 25 ls [.int 1]) rfl ?_
    have hP : va_P D vwCl [(h3, .inr (3, [.int 0, .ref tE, .int 0])), (h0, .inr (22, [.int 1, .ref h1, .int 0, .ref h2, .ref h3, .ref h4, .int 0, .int 0, .int 0, .ref h5, .int 0, .ref h6, .int 0, .int 0, .ref h7, .ref h8, .ref h9, .ref h10, .ref h11, .ref h12, .int 0, .ref h13, .int 0, .ref h14, .ref h15, .ref h16, .ref h17, .ref h18]))] H := hP
    have hD : va_D A [(h3, .inr (3, [.int 0, .ref tE, .int 0])), (h0, .inr (22, [.int 1, .ref h1, .int 0, .ref h2, .ref h3, .ref h4, .int 0, .int 0, .int 0, .ref h5, .int 0, .ref h6, .int 0, .int 0, .ref h7, .ref h8, .ref h9, .ref h10, .ref h11, .ref h12, .int 0, .ref h13, .int 0, .ref h14, .ref h15, .ref h16, .ref h17, .ref h18]))] := hD
    refine lv_if_eq (tgt := 30) hx hb dX18_ofArms_25 (by decide) (fun h => absurd h (by decide +kernel)) (fun _ => ?_)
    refine lv_iconst (v := 0) hx hb dX18_ofArms_28 (by decide) ?_
    have hP9 := hP.sub (ws' := [(h0, .inr (22, [.int 1, .ref h1, .int 0, .ref h2, .ref h3, .ref h4, .int 0, .int 0, .int 0, .ref h5, .int 0, .ref h6, .int 0, .int 0, .ref h7, .ref h8, .ref h9, .ref h10, .ref h11, .ref h12, .int 0, .ref h13, .int 0, .ref h14, .ref h15, .ref h16, .ref h17, .ref h18]))]) [1] rfl
    have hD9 := hD.sub (ws' := [(h0, .inr (22, [.int 1, .ref h1, .int 0, .ref h2, .ref h3, .ref h4, .int 0, .int 0, .int 0, .ref h5, .int 0, .ref h6, .int 0, .int 0, .ref h7, .ref h8, .ref h9, .ref h10, .ref h11, .ref h12, .int 0, .ref h13, .int 0, .ref h14, .ref h15, .ref h16, .ref h17, .ref h18]))]) [1] (by decide) rfl
    exact (kq_iret (v := 0) hx hb hr hlocks hS rfl (Or.inr (⟨c_2, rfl, rfl⟩)) hP9 hD9 (Nat.le_of_ble_eq_true rfl) (Nat.le_of_ble_eq_true rfl) dX18_ofArms_29)
set_option maxHeartbeats 4000000 in
set_option maxRecDepth 100000 in
theorem c_X11_ofShield (l : Launch) (hfl : l.stackTraces = false) (D : va_G) (dA : Nat → ClassId) (tE tC : Nat) (h0 : Nat) (p0 : Int32) (p1 : Int32) (p2 : Int32) (h1 : Nat) (h2 : Nat) (h3 : Nat) (h4 : Nat) (h5 : Nat) (h6 : Nat) (h7 : Nat) (h8 : Nat) (h9 : Nat) (h10 : Nat) (h11 : Nat) (h12 : Nat) (h13 : Nat) (h14 : Nat) (h15 : Nat) (h16 : Nat) (h17 : Nat) (h18 : Nat) : Cx l D dA tE tC yX11_ofShield (Cond.code yX11_ofShield cX11_ofShield 4 (some .int) :: gW) ({ frames := 7, cells := 1, slots := 6, locals := 103 } : Room) [.ref h0, .int p0, .int p1, .int p2] [(h0, .inr (15, [.ref h1, .ref h2, .ref h3, .ref h4, .ref h5, .ref h6, .ref h7, .ref h8, .ref h9, .ref h10, .ref h11, .int 0, .int 0, .int 0])), (h6, .inr (9, [.ref h12, .ref h13, .ref h14, .ref h15, .ref h16, .ref h17, .ref h18, .int 0, .int 0]))] (fun v w1 => False) (fun E => (p0.toInt < 0 ∧ E = "java/lang/IndexOutOfBoundsException") ∨ (¬ p0.toInt < 0 ∧ E = "java/lang/IndexOutOfBoundsException")) 1 6 := by
  refine Cx_of (by decide) (Nat.le_of_ble_eq_true rfl) ?_
  intro p e s m below meth c hx hb hr hml hown hnm hlocks hgw hK A hG hA hP hD ls hl hxt
  have hl : lv_has ls 4 [(0, .ref h0), (1, .int p0), (2, .int p1), (3, .int p2)] := hl
  have hS : va_S A s.heap s.heap [] := va_S.rf
  refine lv_aload_n hx hb dX11_ofShield_0 rfl (lv_at hl 0 rfl) ?_
  refine lv_iload_n hx hb dX11_ofShield_1 rfl (lv_at hl 1 rfl) ?_
  refine kx_V (q0 := 0) (As := [.int p0]) (rest := []) (wr := []) hx hb hml hown hgw hK hG hA hP hD hS (c_X11_needPerson l hfl D dA tE tC h0 p0 h1 h2 h3 h4 h5 h6 h7 h8 h9 h10 h11 h12 h13 h14 h15 h16 h17 h18) m_6_99 m_6_101 m_s_34 m_1_1 m_6_102 hd_X11_needPerson rfl rfl ⟨(Nat.le_of_ble_eq_true rfl), (Nat.le_of_ble_eq_true rfl)⟩ [0, 1] [] rfl rfl rfl rfl (by decide) rfl rfl rfl hl.1 rfl (Nat.le_of_ble_eq_true rfl) dX11_ofShield_2 ⟨(Nat.le_of_ble_eq_true rfl), (Nat.le_of_ble_eq_true rfl)⟩ (fun v w1 H locs hQ hP hD hS => hQ.elim) (fun E ce q9 H locs hX hP hD hS hce hcv hcl => ?_)
  rcases hX with ⟨c_1, rfl⟩ | ⟨c_2, rfl⟩
  · skip
    exact kx_out hxt hlocks hS hce hcv hcl (Or.inl ⟨c_1, rfl⟩) (Nat.le_of_ble_eq_true rfl) (Nat.le_of_ble_eq_true rfl)
  · skip
    exact kx_out hxt hlocks hS hce hcv hcl (Or.inr (⟨c_2, rfl⟩)) (Nat.le_of_ble_eq_true rfl) (Nat.le_of_ble_eq_true rfl)
set_option maxHeartbeats 4000000 in
set_option maxRecDepth 100000 in
theorem c_L_ofShield (l : Launch) (hfl : l.stackTraces = false) (D : va_G) (dA : Nat → ClassId) (tE tC : Nat) (h0 : Nat) (p0 : Int32) (p1 : Int32) (p2 : Int32) (h1 : Nat) (h2 : Nat) (h3 : Nat) (h4 : Nat) (h5 : Nat) (h6 : Nat) (h7 : Nat) (h8 : Nat) (h9 : Nat) (h10 : Nat) (h11 : Nat) (h12 : Nat) (h13 : Nat) (h14 : Nat) (h15 : Nat) (h16 : Nat) (h17 : Nat) (h18 : Nat) (h19 : Nat) : Cx l D dA tE tC yL_ofShield (Cond.codeWith yL_ofShield cL_ofShield 6 (some .int) [(0, 12, 15, 21), (0, 12, 19, 36)] :: gW) ({ frames := 8, cells := 1, slots := 6, locals := 126 } : Room) [.ref h0, .int p0, .int p1, .int p2, .ref h1] [(h0, .inr (15, [.ref h2, .ref h3, .ref h4, .ref h5, .ref h6, .ref h7, .ref h8, .ref h9, .ref h10, .ref h11, .ref h12, .int 0, .int 0, .int 0])), (h7, .inr (9, [.ref h13, .ref h14, .ref h15, .ref h16, .ref h17, .ref h18, .ref h19, .int 0, .int 0]))] (fun v w1 => (p0.toInt < 0 ∧ v = some (.int 1) ∧ w1 = []) ∨ (¬ p0.toInt < 0 ∧ v = some (.int 1) ∧ w1 = [])) (fun E => False) 1 6 := by
  refine Ch_of (by decide) (Nat.le_of_ble_eq_true rfl) ?_
  intro p e s m below meth c hx hb hr hml hown hnm hlocks hgw hK A hG hA hP hD ls hl hxt
  have hl : lv_has ls 6 [(0, .ref h0), (1, .int p0), (2, .int p1), (3, .int p2), (4, .ref h1)] := hl
  have hS : va_S A s.heap s.heap [] := va_S.rf
  refine lv_aload hx hb dL_ofShield_0 (lv_at hl 4 rfl) ?_
  refine lv_iconst (v := 0) hx hb dL_ofShield_2 (by decide) ?_
  refine lv_aload_n hx hb dL_ofShield_3 rfl (lv_at hl 0 rfl) ?_
  refine lv_iload_n hx hb dL_ofShield_4 rfl (lv_at hl 1 rfl) ?_
  refine lv_iload_n hx hb dL_ofShield_5 rfl (lv_at hl 2 rfl) ?_
  refine lv_iload_n hx hb dL_ofShield_6 rfl (lv_at hl 3 rfl) ?_
  refine kx_V (q0 := 0) (As := [.int p0, .int p1, .int p2]) (rest := [.int 0, .ref h1]) (wr := []) hx hb hml hown hgw hK hG hA hP hD hS (c_X11_ofShield l hfl D dA tE tC h0 p0 p1 p2 h2 h3 h4 h5 h6 h7 h8 h9 h10 h11 h12 h13 h14 h15 h16 h17 h18 h19) m_8_11 m_8_12 m_8_13 m_1_1 m_8_14 hd_X11_ofShield rfl rfl ⟨(Nat.le_of_ble_eq_true rfl), (Nat.le_of_ble_eq_true rfl)⟩ [0, 1] [] rfl rfl rfl rfl (by decide) rfl rfl rfl hl.1 rfl (Nat.le_of_ble_eq_true rfl) dL_ofShield_7 ⟨(Nat.le_of_ble_eq_true rfl), (Nat.le_of_ble_eq_true rfl)⟩ (fun v w1 H locs hQ hP hD hS => hQ.elim) (fun E ce q9 H locs hX hP hD hS hce hcv hcl => ?_)
  rcases hX with ⟨c_1, rfl⟩ | ⟨c_2, rfl⟩
  · skip
    refine vx_catch (name := "java/lang/IndexOutOfBoundsException") hown (tableOf []) { startPc := 0, endPc := 12, handlerPc := 15, catchType := 21 } (tableOf [(0, 12, 19, 36)]) hxt kx_p0 rfl (by decide) (hgw _ m_5_117) (va_Nw.use rfl (hG.2.2.2.1 ("java/lang/IndexOutOfBoundsException", "java/lang/IndexOutOfBoundsException") n_c3)) hce hcv hcl ?_
    refine W.eq (g2 := F0 m 15 ls [.ref q9]) rfl ?_
    refine lv_astore (lv' := [(5, .ref q9), (0, .ref h0), (1, .int p0), (2, .int p1), (3, .int p2), (4, .ref h1)]) hx hb dL_ofShield_15 hl (by decide) rfl (fun ls hl => ?_)
    refine lv_iconst (v := 1) hx hb dL_ofShield_17 (by decide) ?_
    have hP9 := hP.sub (ws' := []) [] rfl
    have hD9 := hD.sub (ws' := []) [] (by decide) rfl
    exact vx_ret (kq_iret (v := 1) hx hb hr hlocks hS rfl (Or.inl ⟨c_1, rfl, rfl⟩) hP9 hD9 (Nat.le_of_ble_eq_true rfl) (Nat.le_of_ble_eq_true rfl) dL_ofShield_18)
  · skip
    refine vx_catch (name := "java/lang/IndexOutOfBoundsException") hown (tableOf []) { startPc := 0, endPc := 12, handlerPc := 15, catchType := 21 } (tableOf [(0, 12, 19, 36)]) hxt kx_p0 rfl (by decide) (hgw _ m_5_117) (va_Nw.use rfl (hG.2.2.2.1 ("java/lang/IndexOutOfBoundsException", "java/lang/IndexOutOfBoundsException") n_c3)) hce hcv hcl ?_
    refine W.eq (g2 := F0 m 15 ls [.ref q9]) rfl ?_
    refine lv_astore (lv' := [(5, .ref q9), (0, .ref h0), (1, .int p0), (2, .int p1), (3, .int p2), (4, .ref h1)]) hx hb dL_ofShield_15 hl (by decide) rfl (fun ls hl => ?_)
    refine lv_iconst (v := 1) hx hb dL_ofShield_17 (by decide) ?_
    have hP9 := hP.sub (ws' := []) [] rfl
    have hD9 := hD.sub (ws' := []) [] (by decide) rfl
    exact vx_ret (kq_iret (v := 1) hx hb hr hlocks hS rfl (Or.inr (⟨c_2, rfl, rfl⟩)) hP9 hD9 (Nat.le_of_ble_eq_true rfl) (Nat.le_of_ble_eq_true rfl) dL_ofShield_18)
set_option maxHeartbeats 4000000 in
set_option maxRecDepth 100000 in
theorem c_X18_ofShield (l : Launch) (hfl : l.stackTraces = false) (D : va_G) (dA : Nat → ClassId) (tE tC : Nat) (h0 : Nat) (p0 : Int32) (p1 : Int32) (p2 : Int32) (h1 : Nat) (h2 : Nat) (h3 : Nat) (h4 : Nat) (h5 : Nat) (h6 : Nat) (h7 : Nat) (h8 : Nat) (h9 : Nat) (h10 : Nat) (h11 : Nat) (h12 : Nat) (h13 : Nat) (h14 : Nat) (h15 : Nat) (h16 : Nat) (h17 : Nat) (h18 : Nat) : Ct l D dA tE tC yX18_ofShield (Cond.code yX18_ofShield cX18_ofShield 4 (some .int) :: gW) ({ frames := 2, cells := 0, slots := 0, locals := 43 } : Room) [.ref h0, .int p0, .int p1, .int p2] [(h0, .inr (22, [.int 0, .ref h1, .int 0, .ref h2, .ref h3, .ref h4, .int 0, .int 0, .int 0, .ref h5, .int 0, .ref h6, .int 0, .int 0, .ref h7, .ref h8, .ref h9, .ref h10, .ref h11, .ref h12, .int 0, .ref h13, .int 0, .ref h14, .ref h15, .ref h16, .ref h17, .ref h18])), (h2, .inr (3, [.int 0, .ref tE, .int 0]))] (fun v w1 => (p0.toInt < 0 ∧ v = some (.int 0) ∧ w1 = [(h0, .inr (22, [.int 1, .ref h1, .int 0, .ref h2, .ref h3, .ref h4, .int 0, .int 0, .int 0, .ref h5, .int 0, .ref h6, .int 0, .int 0, .ref h7, .ref h8, .ref h9, .ref h10, .ref h11, .ref h12, .int 0, .ref h13, .int 0, .ref h14, .ref h15, .ref h16, .ref h17, .ref h18]))]) ∨ (¬ p0.toInt < 0 ∧ v = some (.int 0) ∧ w1 = [(h0, .inr (22, [.int 1, .ref h1, .int 0, .ref h2, .ref h3, .ref h4, .int 0, .int 0, .int 0, .ref h5, .int 0, .ref h6, .int 0, .int 0, .ref h7, .ref h8, .ref h9, .ref h10, .ref h11, .ref h12, .int 0, .ref h13, .int 0, .ref h14, .ref h15, .ref h16, .ref h17, .ref h18]))])) 0 0 := by
  refine Ct_of (by decide) (Nat.le_of_ble_eq_true rfl) ?_
  intro p e s m below meth c hx hb hr hml hown hnm hlocks hgw hK A hG hA hP hD ls hl
  have hl : lv_has ls 4 [(0, .ref h0), (1, .int p0), (2, .int p1), (3, .int p2)] := hl
  have hS : va_S A s.heap s.heap [] := va_S.rf
  refine lv_aload_n hx hb dX18_ofShield_0 rfl (lv_at hl 0 rfl) ?_
  refine lv_aload_n hx hb dX18_ofShield_1 rfl (lv_at hl 0 rfl) ?_
  refine lv_iload_n hx hb dX18_ofShield_2 rfl (lv_at hl 1 rfl) ?_
  refine kq_V (q0 := 0) (As := [.int p0]) (rest := [.ref h0]) (wr := []) hx hb hml hown hgw hK hG hA hP hD hS (c_X18_isPerson l hfl D dA tE tC h0 p0 h1 h2 h3 h4 h5 h6 h7 h8 h9 h10 h11 h12 h13 h14 h15 h16 h17 h18) m_11_93 m_11_95 m_s_80 m_1_15 m_11_96 hd_X18_isPerson rfl rfl ⟨(Nat.le_of_ble_eq_true rfl), (Nat.le_of_ble_eq_true rfl)⟩ [0, 1] [] rfl rfl rfl rfl (by decide) rfl rfl rfl hl.1 rfl (Nat.le_of_ble_eq_true rfl) dX18_ofShield_3 ⟨(Nat.le_of_ble_eq_true rfl), (Nat.le_of_ble_eq_true rfl)⟩ (fun v w1 H locs hQ hP hD hS => ?_)
  rcases hQ with ⟨c_1, rfl, rfl⟩ | ⟨c_2, rfl, rfl⟩
  · skip
    refine W.eq (g2 := F0 m 6 ls [.int 0, .ref h0]) rfl ?_
    have hP : va_P D vwCl [(h0, .inr (22, [.int 0, .ref h1, .int 0, .ref h2, .ref h3, .ref h4, .int 0, .int 0, .int 0, .ref h5, .int 0, .ref h6, .int 0, .int 0, .ref h7, .ref h8, .ref h9, .ref h10, .ref h11, .ref h12, .int 0, .ref h13, .int 0, .ref h14, .ref h15, .ref h16, .ref h17, .ref h18])), (h2, .inr (3, [.int 0, .ref tE, .int 0]))] H := hP
    have hD : va_D A [(h0, .inr (22, [.int 0, .ref h1, .int 0, .ref h2, .ref h3, .ref h4, .int 0, .int 0, .int 0, .ref h5, .int 0, .ref h6, .int 0, .int 0, .ref h7, .ref h8, .ref h9, .ref h10, .ref h11, .ref h12, .int 0, .ref h13, .int 0, .ref h14, .ref h15, .ref h16, .ref h17, .ref h18])), (h2, .inr (3, [.int 0, .ref tE, .int 0]))] := hD
    refine lv_if_eq (tgt := 21) hx hb dX18_ofShield_6 (by decide) (fun _ => ?_) (fun h => absurd (by decide +kernel) h)
    refine lv_iconst (v := 1) hx hb dX18_ofShield_21 (by decide) ?_
    refine kq_V (q0 := 0) (As := [.int 1]) (rest := []) (wr := [(h2, .inr (3, [.int 0, .ref tE, .int 0]))]) hx hb hml hown hgw hK hG hA hP hD hS (c_X18_fails l hfl D dA tE tC h0 h1 h2 h3 h4 h5 h6 h7 h8 h9 h10 h11 h12 h13 h14 h15 h16 h17 h18) m_10_93 m_10_95 m_s_61 m_1_15 m_10_96 hd_X18_fails rfl rfl ⟨(Nat.le_of_ble_eq_true rfl), (Nat.le_of_ble_eq_true rfl)⟩ [0] [1] rfl rfl rfl rfl (by decide) rfl rfl rfl hl.1 rfl (Nat.le_of_ble_eq_true rfl) dX18_ofShield_22 ⟨(Nat.le_of_ble_eq_true rfl), (Nat.le_of_ble_eq_true rfl)⟩ (fun v w1 H locs hQ hP hD hS => ?_)
    obtain ⟨rfl, rfl⟩ := hQ
    refine W.eq (g2 := F0 m 25 ls [.int 1]) rfl ?_
    have hP : va_P D vwCl [(h2, .inr (3, [.int 0, .ref tE, .int 0])), (h0, .inr (22, [.int 1, .ref h1, .int 0, .ref h2, .ref h3, .ref h4, .int 0, .int 0, .int 0, .ref h5, .int 0, .ref h6, .int 0, .int 0, .ref h7, .ref h8, .ref h9, .ref h10, .ref h11, .ref h12, .int 0, .ref h13, .int 0, .ref h14, .ref h15, .ref h16, .ref h17, .ref h18]))] H := hP
    have hD : va_D A [(h2, .inr (3, [.int 0, .ref tE, .int 0])), (h0, .inr (22, [.int 1, .ref h1, .int 0, .ref h2, .ref h3, .ref h4, .int 0, .int 0, .int 0, .ref h5, .int 0, .ref h6, .int 0, .int 0, .ref h7, .ref h8, .ref h9, .ref h10, .ref h11, .ref h12, .int 0, .ref h13, .int 0, .ref h14, .ref h15, .ref h16, .ref h17, .ref h18]))] := hD
    refine lv_if_ne (tgt := 58) hx hb dX18_ofShield_25 (by decide) (fun _ => ?_) (fun h => absurd h (by decide +kernel))
    refine lv_iconst (v := 0) hx hb dX18_ofShield_58 (by decide) ?_
    have hP9 := hP.sub (ws' := [(h0, .inr (22, [.int 1, .ref h1, .int 0, .ref h2, .ref h3, .ref h4, .int 0, .int 0, .int 0, .ref h5, .int 0, .ref h6, .int 0, .int 0, .ref h7, .ref h8, .ref h9, .ref h10, .ref h11, .ref h12, .int 0, .ref h13, .int 0, .ref h14, .ref h15, .ref h16, .ref h17, .ref h18]))]) [1] rfl
    have hD9 := hD.sub (ws' := [(h0, .inr (22, [.int 1, .ref h1, .int 0, .ref h2, .ref h3, .ref h4, .int 0, .int 0, .int 0, .ref h5, .int 0, .ref h6, .int 0, .int 0, .ref h7, .ref h8, .ref h9, .ref h10, .ref h11, .ref h12, .int 0, .ref h13, .int 0, .ref h14, .ref h15, .ref h16, .ref h17, .ref h18]))]) [1] (by decide) rfl
    exact (kq_iret (v := 0) hx hb hr hlocks hS rfl (Or.inl ⟨c_1, rfl, rfl⟩) hP9 hD9 (Nat.le_of_ble_eq_true rfl) (Nat.le_of_ble_eq_true rfl) dX18_ofShield_59)
  · skip
    refine W.eq (g2 := F0 m 6 ls [.int 0, .ref h0]) rfl ?_
    have hP : va_P D vwCl [(h0, .inr (22, [.int 0, .ref h1, .int 0, .ref h2, .ref h3, .ref h4, .int 0, .int 0, .int 0, .ref h5, .int 0, .ref h6, .int 0, .int 0, .ref h7, .ref h8, .ref h9, .ref h10, .ref h11, .ref h12, .int 0, .ref h13, .int 0, .ref h14, .ref h15, .ref h16, .ref h17, .ref h18])), (h2, .inr (3, [.int 0, .ref tE, .int 0]))] H := hP
    have hD : va_D A [(h0, .inr (22, [.int 0, .ref h1, .int 0, .ref h2, .ref h3, .ref h4, .int 0, .int 0, .int 0, .ref h5, .int 0, .ref h6, .int 0, .int 0, .ref h7, .ref h8, .ref h9, .ref h10, .ref h11, .ref h12, .int 0, .ref h13, .int 0, .ref h14, .ref h15, .ref h16, .ref h17, .ref h18])), (h2, .inr (3, [.int 0, .ref tE, .int 0]))] := hD
    refine lv_if_eq (tgt := 21) hx hb dX18_ofShield_6 (by decide) (fun _ => ?_) (fun h => absurd (by decide +kernel) h)
    refine lv_iconst (v := 1) hx hb dX18_ofShield_21 (by decide) ?_
    refine kq_V (q0 := 0) (As := [.int 1]) (rest := []) (wr := [(h2, .inr (3, [.int 0, .ref tE, .int 0]))]) hx hb hml hown hgw hK hG hA hP hD hS (c_X18_fails l hfl D dA tE tC h0 h1 h2 h3 h4 h5 h6 h7 h8 h9 h10 h11 h12 h13 h14 h15 h16 h17 h18) m_10_93 m_10_95 m_s_61 m_1_15 m_10_96 hd_X18_fails rfl rfl ⟨(Nat.le_of_ble_eq_true rfl), (Nat.le_of_ble_eq_true rfl)⟩ [0] [1] rfl rfl rfl rfl (by decide) rfl rfl rfl hl.1 rfl (Nat.le_of_ble_eq_true rfl) dX18_ofShield_22 ⟨(Nat.le_of_ble_eq_true rfl), (Nat.le_of_ble_eq_true rfl)⟩ (fun v w1 H locs hQ hP hD hS => ?_)
    obtain ⟨rfl, rfl⟩ := hQ
    refine W.eq (g2 := F0 m 25 ls [.int 1]) rfl ?_
    have hP : va_P D vwCl [(h2, .inr (3, [.int 0, .ref tE, .int 0])), (h0, .inr (22, [.int 1, .ref h1, .int 0, .ref h2, .ref h3, .ref h4, .int 0, .int 0, .int 0, .ref h5, .int 0, .ref h6, .int 0, .int 0, .ref h7, .ref h8, .ref h9, .ref h10, .ref h11, .ref h12, .int 0, .ref h13, .int 0, .ref h14, .ref h15, .ref h16, .ref h17, .ref h18]))] H := hP
    have hD : va_D A [(h2, .inr (3, [.int 0, .ref tE, .int 0])), (h0, .inr (22, [.int 1, .ref h1, .int 0, .ref h2, .ref h3, .ref h4, .int 0, .int 0, .int 0, .ref h5, .int 0, .ref h6, .int 0, .int 0, .ref h7, .ref h8, .ref h9, .ref h10, .ref h11, .ref h12, .int 0, .ref h13, .int 0, .ref h14, .ref h15, .ref h16, .ref h17, .ref h18]))] := hD
    refine lv_if_ne (tgt := 58) hx hb dX18_ofShield_25 (by decide) (fun _ => ?_) (fun h => absurd h (by decide +kernel))
    refine lv_iconst (v := 0) hx hb dX18_ofShield_58 (by decide) ?_
    have hP9 := hP.sub (ws' := [(h0, .inr (22, [.int 1, .ref h1, .int 0, .ref h2, .ref h3, .ref h4, .int 0, .int 0, .int 0, .ref h5, .int 0, .ref h6, .int 0, .int 0, .ref h7, .ref h8, .ref h9, .ref h10, .ref h11, .ref h12, .int 0, .ref h13, .int 0, .ref h14, .ref h15, .ref h16, .ref h17, .ref h18]))]) [1] rfl
    have hD9 := hD.sub (ws' := [(h0, .inr (22, [.int 1, .ref h1, .int 0, .ref h2, .ref h3, .ref h4, .int 0, .int 0, .int 0, .ref h5, .int 0, .ref h6, .int 0, .int 0, .ref h7, .ref h8, .ref h9, .ref h10, .ref h11, .ref h12, .int 0, .ref h13, .int 0, .ref h14, .ref h15, .ref h16, .ref h17, .ref h18]))]) [1] (by decide) rfl
    exact (kq_iret (v := 0) hx hb hr hlocks hS rfl (Or.inr (⟨c_2, rfl, rfl⟩)) hP9 hD9 (Nat.le_of_ble_eq_true rfl) (Nat.le_of_ble_eq_true rfl) dX18_ofShield_59)
set_option maxHeartbeats 4000000 in
set_option maxRecDepth 100000 in
theorem c_X11_shield (l : Launch) (hfl : l.stackTraces = false) (D : va_G) (dA : Nat → ClassId) (tE tC : Nat) (h0 : Nat) (p0 : Int32) (p1 : Int32) (p2 : Int32) (h1 : Nat) (h2 : Nat) (h3 : Nat) (h4 : Nat) (h5 : Nat) (h6 : Nat) (h7 : Nat) (h8 : Nat) (h9 : Nat) (h10 : Nat) (h11 : Nat) (h12 : Nat) (h13 : Nat) (h14 : Nat) (h15 : Nat) (h16 : Nat) (h17 : Nat) (h18 : Nat) : Cx l D dA tE tC yX11_shield (Cond.code yX11_shield cX11_shield 4 (some .int) :: gW) ({ frames := 7, cells := 1, slots := 6, locals := 103 } : Room) [.ref h0, .int p0, .int p1, .int p2] [(h0, .inr (15, [.ref h1, .ref h2, .ref h3, .ref h4, .ref h5, .ref h6, .ref h7, .ref h8, .ref h9, .ref h10, .ref h11, .int 0, .int 0, .int 0])), (h6, .inr (9, [.ref h12, .ref h13, .ref h14, .ref h15, .ref h16, .ref h17, .ref h18, .int 0, .int 0]))] (fun v w1 => False) (fun E => (p0.toInt < 0 ∧ E = "java/lang/IndexOutOfBoundsException") ∨ (¬ p0.toInt < 0 ∧ E = "java/lang/IndexOutOfBoundsException")) 1 6 := by
  refine Cx_of (by decide) (Nat.le_of_ble_eq_true rfl) ?_
  intro p e s m below meth c hx hb hr hml hown hnm hlocks hgw hK A hG hA hP hD ls hl hxt
  have hl : lv_has ls 4 [(0, .ref h0), (1, .int p0), (2, .int p1), (3, .int p2)] := hl
  have hS : va_S A s.heap s.heap [] := va_S.rf
  refine lv_aload_n hx hb dX11_shield_0 rfl (lv_at hl 0 rfl) ?_
  refine lv_iload_n hx hb dX11_shield_1 rfl (lv_at hl 1 rfl) ?_
  refine kx_V (q0 := 0) (As := [.int p0]) (rest := []) (wr := []) hx hb hml hown hgw hK hG hA hP hD hS (c_X11_needPerson l hfl D dA tE tC h0 p0 h1 h2 h3 h4 h5 h6 h7 h8 h9 h10 h11 h12 h13 h14 h15 h16 h17 h18) m_6_99 m_6_101 m_s_34 m_1_1 m_6_102 hd_X11_needPerson rfl rfl ⟨(Nat.le_of_ble_eq_true rfl), (Nat.le_of_ble_eq_true rfl)⟩ [0, 1] [] rfl rfl rfl rfl (by decide) rfl rfl rfl hl.1 rfl (Nat.le_of_ble_eq_true rfl) dX11_shield_2 ⟨(Nat.le_of_ble_eq_true rfl), (Nat.le_of_ble_eq_true rfl)⟩ (fun v w1 H locs hQ hP hD hS => hQ.elim) (fun E ce q9 H locs hX hP hD hS hce hcv hcl => ?_)
  rcases hX with ⟨c_1, rfl⟩ | ⟨c_2, rfl⟩
  · skip
    exact kx_out hxt hlocks hS hce hcv hcl (Or.inl ⟨c_1, rfl⟩) (Nat.le_of_ble_eq_true rfl) (Nat.le_of_ble_eq_true rfl)
  · skip
    exact kx_out hxt hlocks hS hce hcv hcl (Or.inr (⟨c_2, rfl⟩)) (Nat.le_of_ble_eq_true rfl) (Nat.le_of_ble_eq_true rfl)
