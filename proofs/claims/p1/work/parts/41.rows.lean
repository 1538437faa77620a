set_option maxHeartbeats 4000000 in
set_option maxRecDepth 100000 in
theorem c_X18_birth_1 (l : Launch) (hfl : l.stackTraces = false) (D : va_G) (dA : Nat → ClassId) (tE tC : Nat) (h0 : Nat) (p0 : Int32) (p1 : Int32) (h1 : Nat) (h2 : Nat) (h3 : Nat) (h4 : Nat) (h5 : Nat) (h6 : Nat) (h7 : Nat) (h8 : Nat) (h9 : Nat) (h10 : Nat) (h11 : Nat) (h12 : Nat) (h13 : Nat) (h14 : Nat) (h15 : Nat) (h16 : Nat) (h17 : Nat) (h18 : Nat) : Ct l D dA tE tC yX18_birth (Cond.code yX18_birth cX18_birth 7 (some .int) :: gW) ({ frames := 5, cells := 2, slots := 25, locals := 101 } : Room) [.ref h0, .int p0, .int p1, .int 1] [(h0, .inr (22, [.int 0, .ref h1, .int 0, .ref h2, .ref h3, .ref h4, .int 0, .int 0, .int 0, .ref h5, .int 0, .ref h6, .int 0, .int 0, .ref h7, .ref h8, .ref h9, .ref h10, .ref h11, .ref h12, .int 0, .ref h13, .int 0, .ref h14, .ref h15, .ref h16, .ref h17, .ref h18])), (h2, .inr (3, [.int 0, .ref tE, .int 0]))] (fun v w1 => (p0.toInt = (-1) ∧ p1.toInt = (-1) ∧ v = some (.int 0) ∧ w1 = [(h0, .inr (22, [.int 0, .ref h1, .int 0, .ref h2, .ref h3, .ref h4, .int 0, .int 0, .int 0, .ref h5, .int 0, .ref h6, .int 0, .int 0, .ref h7, .ref h8, .ref h9, .ref h10, .ref h11, .ref h12, .int 0, .ref h13, .int 0, .ref h14, .ref h15, .ref h16, .ref h17, .ref h18]))]) ∨ (p0.toInt = (-1) ∧ ¬ p1.toInt = (-1) ∧ p1.toInt < 0 ∧ v = some (.int 0) ∧ w1 = [(h0, .inr (22, [.int 1, .ref h1, .int 0, .ref h2, .ref h3, .ref h4, .int 0, .int 0, .int 0, .ref h5, .int 0, .ref h6, .int 0, .int 0, .ref h7, .ref h8, .ref h9, .ref h10, .ref h11, .ref h12, .int 0, .ref h13, .int 0, .ref h14, .ref h15, .ref h16, .ref h17, .ref h18]))]) ∨ (p0.toInt = (-1) ∧ ¬ p1.toInt = (-1) ∧ ¬ p1.toInt < 0 ∧ v = some (.int 0) ∧ w1 = [(h0, .inr (22, [.int 1, .ref h1, .int 0, .ref h2, .ref h3, .ref h4, .int 0, .int 0, .int 0, .ref h5, .int 0, .ref h6, .int 0, .int 0, .ref h7, .ref h8, .ref h9, .ref h10, .ref h11, .ref h12, .int 0, .ref h13, .int 0, .ref h14, .ref h15, .ref h16, .ref h17, .ref h18]))]) ∨ (¬ p0.toInt = (-1) ∧ p0.toInt < 0 ∧ v = some (.int 0) ∧ w1 = [(h0, .inr (22, [.int 1, .ref h1, .int 0, .ref h2, .ref h3, .ref h4, .int 0, .int 0, .int 0, .ref h5, .int 0, .ref h6, .int 0, .int 0, .ref h7, .ref h8, .ref h9, .ref h10, .ref h11, .ref h12, .int 0, .ref h13, .int 0, .ref h14, .ref h15, .ref h16, .ref h17, .ref h18]))]) ∨ (¬ p0.toInt = (-1) ∧ ¬ p0.toInt < 0 ∧ v = some (.int 0) ∧ w1 = [(h0, .inr (22, [.int 1, .ref h1, .int 0, .ref h2, .ref h3, .ref h4, .int 0, .int 0, .int 0, .ref h5, .int 0, .ref h6, .int 0, .int 0, .ref h7, .ref h8, .ref h9, .ref h10, .ref h11, .ref h12, .int 0, .ref h13, .int 0, .ref h14, .ref h15, .ref h16, .ref h17, .ref h18]))])) 2 25 := by
  refine Ct_of (by decide) (Nat.le_of_ble_eq_true rfl) ?_
  intro p e s m below meth c hx hb hr hml hown hnm hlocks hgw hK A hG hA hP hD ls hl
  have hl : lv_has ls 7 [(0, .ref h0), (1, .int p0), (2, .int p1), (3, .int 1)] := hl
  have hS : va_S A s.heap s.heap [] := va_S.rf
  refine lv_iload_n hx hb dX18_birth_0 rfl (lv_at hl 1 rfl) ?_
  refine lv_iconst (v := (-1)) hx hb dX18_birth_1 (by decide) ?_
  refine lv_icmp_eq (tgt := 13) hx hb dX18_birth_2 (by decide) (fun c_1 => ?_) (fun c_1 => ?_)
  · have c_1 := (kq_eq (x := p0) (y := (-1)) (a := p0.toInt) (b := (-1)) (by rfl) (by decide +kernel)).mp c_1
    refine lv_iload_n hx hb dX18_birth_13 rfl (lv_at hl 2 rfl) ?_
    refine lv_iconst (v := (-1)) hx hb dX18_birth_14 (by decide) ?_
    refine lv_icmp_eq (tgt := 26) hx hb dX18_birth_15 (by decide) (fun c_2 => ?_) (fun c_2 => ?_)
    · have c_2 := (kq_eq (x := p1) (y := (-1)) (a := p1.toInt) (b := (-1)) (by rfl) (by decide +kernel)).mp c_2
      refine lv_iconst (v := 1) hx hb dX18_birth_26 (by decide) ?_
      refine lv_goto (tgt := 31) hx hb dX18_birth_27 (by decide) ?_
      refine lv_istore (lv' := [(4, .int 1), (0, .ref h0), (1, .int p0), (2, .int p1), (3, .int 1)]) hx hb dX18_birth_31 hl (by decide) rfl (fun ls hl => ?_)
      refine lv_aload_n hx hb dX18_birth_33 rfl (lv_at hl 1 rfl) ?_
      refine lv_iload hx hb dX18_birth_34 (lv_at hl 0 rfl) ?_
      refine lv_if_eq (tgt := 43) hx hb dX18_birth_36 (by decide) (fun h => absurd h (by decide +kernel)) (fun _ => ?_)
      refine lv_iconst (v := 0) hx hb dX18_birth_39 (by decide) ?_
      refine lv_goto (tgt := 44) hx hb dX18_birth_40 (by decide) ?_
      refine kq_V (q0 := 0) (As := [.int 0]) (rest := []) (wr := [(h2, .inr (3, [.int 0, .ref tE, .int 0]))]) hx hb hml hown hgw hK hG hA hP hD hS (c_X18_fails_1 l hfl D dA tE tC h0 h1 h2 h3 h4 h5 h6 h7 h8 h9 h10 h11 h12 h13 h14 h15 h16 h17 h18) m_10_93 m_10_95 m_s_61 m_1_15 m_10_96 hd_X18_fails rfl rfl ⟨(Nat.le_of_ble_eq_true rfl), (Nat.le_of_ble_eq_true rfl)⟩ [0] [1] rfl rfl rfl rfl (by decide) rfl rfl rfl hl.1 rfl (Nat.le_of_ble_eq_true rfl) dX18_birth_44 ⟨(Nat.le_of_ble_eq_true rfl), (Nat.le_of_ble_eq_true rfl)⟩ (fun v w1 H locs hQ hP hD hS => ?_)
      obtain ⟨rfl, rfl⟩ := hQ
      refine W.eq (g2 := F0 m 47 ls [.int 0]) rfl ?_
      have hP : va_P D vwCl [(h2, .inr (3, [.int 0, .ref tE, .int 0])), (h0, .inr (22, [.int 0, .ref h1, .int 0, .ref h2, .ref h3, .ref h4, .int 0, .int 0, .int 0, .ref h5, .int 0, .ref h6, .int 0, .int 0, .ref h7, .ref h8, .ref h9, .ref h10, .ref h11, .ref h12, .int 0, .ref h13, .int 0, .ref h14, .ref h15, .ref h16, .ref h17, .ref h18]))] H := hP
      have hD : va_D A [(h2, .inr (3, [.int 0, .ref tE, .int 0])), (h0, .inr (22, [.int 0, .ref h1, .int 0, .ref h2, .ref h3, .ref h4, .int 0, .int 0, .int 0, .ref h5, .int 0, .ref h6, .int 0, .int 0, .ref h7, .ref h8, .ref h9, .ref h10, .ref h11, .ref h12, .int 0, .ref h13, .int 0, .ref h14, .ref h15, .ref h16, .ref h17, .ref h18]))] := hD
      refine lv_if_eq (tgt := 52) hx hb dX18_birth_47 (by decide) (fun _ => ?_) (fun h => absurd (by decide +kernel) h)
      refine lv_iload_n hx hb dX18_birth_52 rfl (lv_at hl 2 rfl) ?_
      refine kq_topi (y := (-1)) (kq_sing (by omega : p0.toInt = (-1)) (by decide +kernel)) ?_
      refine lv_if_lt (tgt := 73) hx hb dX18_birth_53 (by decide) (fun _ => ?_) (fun h => absurd (by decide +kernel) h)
      refine lv_iload_n hx hb dX18_birth_73 rfl (lv_at hl 3 rfl) ?_
      refine kq_topi (y := (-1)) (kq_sing (by omega : p1.toInt = (-1)) (by decide +kernel)) ?_
      refine lv_if_lt (tgt := 94) hx hb dX18_birth_74 (by decide) (fun _ => ?_) (fun h => absurd (by decide +kernel) h)
      refine lv_iconst (v := 1) hx hb dX18_birth_94 (by decide) ?_
      refine lv_goto (tgt := 99) hx hb dX18_birth_95 (by decide) ?_
      refine lv_istore (lv' := [(5, .int 1), (4, .int 1), (0, .ref h0), (1, .int p0), (2, .int p1), (3, .int 1)]) hx hb dX18_birth_99 hl (by decide) rfl (fun ls hl => ?_)
      refine lv_aload_n hx hb dX18_birth_101 rfl (lv_at hl 2 rfl) ?_
      refine lv_iload hx hb dX18_birth_102 (lv_at hl 0 rfl) ?_
      refine lv_if_ne (tgt := 111) hx hb dX18_birth_104 (by decide) (fun _ => ?_) (fun h => absurd h (by decide +kernel))
      refine lv_aload_n hx hb dX18_birth_111 rfl (lv_at hl 2 rfl) ?_
      refine va_get (D := D) (ci := 22) (v := .ref h2) (C := RX18) (T := TX18) (N := 28) hx hb hgw in_X18 hown hK hP 1 rfl rfl 3 (by decide) (hgw _ m_10_0) (fun _ h9 => h9) rfl dX18_birth_112 ?_
      refine kq_V (q0 := 0) (As := []) (rest := [.ref h0]) (wr := [(h0, .inr (22, [.int 0, .ref h1, .int 0, .ref h2, .ref h3, .ref h4, .int 0, .int 0, .int 0, .ref h5, .int 0, .ref h6, .int 0, .int 0, .ref h7, .ref h8, .ref h9, .ref h10, .ref h11, .ref h12, .int 0, .ref h13, .int 0, .ref h14, .ref h15, .ref h16, .ref h17, .ref h18]))]) hx hb hml hown hgw hK hG hA hP hD hS (c_Jx4a65c_size_8abf5 l hfl D dA tE tC h2) m_11_97 m_11_98 m_11_99 m_1_18 m_11_100 hd_Jx4a65c_size_8abf5 rfl rfl ⟨(Nat.le_of_ble_eq_true rfl), (Nat.le_of_ble_eq_true rfl)⟩ [0] [1] rfl rfl rfl rfl (by decide) rfl rfl rfl hl.1 rfl (Nat.le_of_ble_eq_true rfl) dX18_birth_115 ⟨(Nat.le_of_ble_eq_true rfl), (Nat.le_of_ble_eq_true rfl)⟩ (fun v w1 H locs hQ hP hD hS => ?_)
      obtain ⟨rfl, rfl⟩ := hQ
      refine W.eq (g2 := F0 m 118 ls [.int 0, .ref h0]) rfl ?_
      have hP : va_P D vwCl [(h0, .inr (22, [.int 0, .ref h1, .int 0, .ref h2, .ref h3, .ref h4, .int 0, .int 0, .int 0, .ref h5, .int 0, .ref h6, .int 0, .int 0, .ref h7, .ref h8, .ref h9, .ref h10, .ref h11, .ref h12, .int 0, .ref h13, .int 0, .ref h14, .ref h15, .ref h16, .ref h17, .ref h18])), (h2, .inr (3, [.int 0, .ref tE, .int 0]))] H := hP
      have hD : va_D A [(h0, .inr (22, [.int 0, .ref h1, .int 0, .ref h2, .ref h3, .ref h4, .int 0, .int 0, .int 0, .ref h5, .int 0, .ref h6, .int 0, .int 0, .ref h7, .ref h8, .ref h9, .ref h10, .ref h11, .ref h12, .int 0, .ref h13, .int 0, .ref h14, .ref h15, .ref h16, .ref h17, .ref h18])), (h2, .inr (3, [.int 0, .ref tE, .int 0]))] := hD
      refine lv_bipush (v := 40) hx hb dX18_birth_118 (by decide +kernel) ?_
      refine lv_icmp_ne (tgt := 127) hx hb dX18_birth_120 (by decide) (fun _ => ?_) (fun h => absurd h (by decide +kernel))
      refine lv_iconst (v := 0) hx hb dX18_birth_127 (by decide) ?_
      refine kq_V (q0 := 0) (As := [.int 0]) (rest := []) (wr := [(h2, .inr (3, [.int 0, .ref tE, .int 0]))]) hx hb hml hown hgw hK hG hA hP hD hS (c_X18_fails_1 l hfl D dA tE tC h0 h1 h2 h3 h4 h5 h6 h7 h8 h9 h10 h11 h12 h13 h14 h15 h16 h17 h18) m_10_93 m_10_95 m_s_61 m_1_15 m_10_96 hd_X18_fails rfl rfl ⟨(Nat.le_of_ble_eq_true rfl), (Nat.le_of_ble_eq_true rfl)⟩ [0] [1] rfl rfl rfl rfl (by decide) rfl rfl rfl hl.1 rfl (Nat.le_of_ble_eq_true rfl) dX18_birth_128 ⟨(Nat.le_of_ble_eq_true rfl), (Nat.le_of_ble_eq_true rfl)⟩ (fun v w1 H locs hQ hP hD hS => ?_)
      obtain ⟨rfl, rfl⟩ := hQ
      refine W.eq (g2 := F0 m 131 ls [.int 0]) rfl ?_
      have hP : va_P D vwCl [(h2, .inr (3, [.int 0, .ref tE, .int 0])), (h0, .inr (22, [.int 0, .ref h1, .int 0, .ref h2, .ref h3, .ref h4, .int 0, .int 0, .int 0, .ref h5, .int 0, .ref h6, .int 0, .int 0, .ref h7, .ref h8, .ref h9, .ref h10, .ref h11, .ref h12, .int 0, .ref h13, .int 0, .ref h14, .ref h15, .ref h16, .ref h17, .ref h18]))] H := hP
      have hD : va_D A [(h2, .inr (3, [.int 0, .ref tE, .int 0])), (h0, .inr (22, [.int 0, .ref h1, .int 0, .ref h2, .ref h3, .ref h4, .int 0, .int 0, .int 0, .ref h5, .int 0, .ref h6, .int 0, .int 0, .ref h7, .ref h8, .ref h9, .ref h10, .ref h11, .ref h12, .int 0, .ref h13, .int 0, .ref h14, .ref h15, .ref h16, .ref h17, .ref h18]))] := hD
      refine lv_if_eq (tgt := 136) hx hb dX18_birth_131 (by decide) (fun _ => ?_) (fun h => absurd (by decide +kernel) h)
      refine lv_aload_n hx hb dX18_birth_136 rfl (lv_at hl 2 rfl) ?_
      refine va_get (D := D) (ci := 22) (v := .ref h2) (C := RX18) (T := TX18) (N := 28) hx hb hgw in_X18 hown hK hP 1 rfl rfl 3 (by decide) (hgw _ m_10_0) (fun _ h9 => h9) rfl dX18_birth_137 ?_
      refine va_new (ci := 21) (fs := [.int 0, .int 0, .int 0, .int 0, .int 0, .int 0, .int 0, .int 0, .null, .int 0, .int 0, .int 0, .int 0, .int 0, .int 0]) (C := RX17) (T := TX17) (N := 15) hx hb hgw in_X17 tyX17 tyX17_ok hown (hgw _ m_11_115) (hgw _ m_11_116) (hgw _ m_1_36) hK hP hD hS hA rfl dv_X17 (Nat.le_of_ble_eq_true rfl) (Nat.le_of_ble_eq_true rfl) dX18_birth_140 (fun q3 H hP hD hS => ?_)
      have hP : va_P D vwCl [(h2, .inr (3, [.int 0, .ref tE, .int 0])), (h0, .inr (22, [.int 0, .ref h1, .int 0, .ref h2, .ref h3, .ref h4, .int 0, .int 0, .int 0, .ref h5, .int 0, .ref h6, .int 0, .int 0, .ref h7, .ref h8, .ref h9, .ref h10, .ref h11, .ref h12, .int 0, .ref h13, .int 0, .ref h14, .ref h15, .ref h16, .ref h17, .ref h18])), (q3, .inr (21, [.int 0, .int 0, .int 0, .int 0, .int 0, .int 0, .int 0, .int 0, .null, .int 0, .int 0, .int 0, .int 0, .int 0, .int 0]))] H := hP
      have hD : va_D A [(h2, .inr (3, [.int 0, .ref tE, .int 0])), (h0, .inr (22, [.int 0, .ref h1, .int 0, .ref h2, .ref h3, .ref h4, .int 0, .int 0, .int 0, .ref h5, .int 0, .ref h6, .int 0, .int 0, .ref h7, .ref h8, .ref h9, .ref h10, .ref h11, .ref h12, .int 0, .ref h13, .int 0, .ref h14, .ref h15, .ref h16, .ref h17, .ref h18])), (q3, .inr (21, [.int 0, .int 0, .int 0, .int 0, .int 0, .int 0, .int 0, .int 0, .null, .int 0, .int 0, .int 0, .int 0, .int 0, .int 0]))] := hD
      refine lv_dup hx hb dX18_birth_143 rfl ?_
      refine lv_aload_n hx hb dX18_birth_144 rfl (lv_at hl 2 rfl) ?_
      refine va_get (D := D) (ci := 22) (v := .ref h2) (C := RX18) (T := TX18) (N := 28) hx hb hgw in_X18 hown hK hP 1 rfl rfl 3 (by decide) (hgw _ m_10_0) (fun _ h9 => h9) rfl dX18_birth_145 ?_
      refine kq_V (q0 := 0) (As := []) (rest := [.ref q3, .ref q3, .ref h2]) (wr := [(h0, .inr (22, [.int 0, .ref h1, .int 0, .ref h2, .ref h3, .ref h4, .int 0, .int 0, .int 0, .ref h5, .int 0, .ref h6, .int 0, .int 0, .ref h7, .ref h8, .ref h9, .ref h10, .ref h11, .ref h12, .int 0, .ref h13, .int 0, .ref h14, .ref h15, .ref h16, .ref h17, .ref h18])), (q3, .inr (21, [.int 0, .int 0, .int 0, .int 0, .int 0, .int 0, .int 0, .int 0, .null, .int 0, .int 0, .int 0, .int 0, .int 0, .int 0]))]) hx hb hml hown hgw hK hG hA hP hD hS (c_Jx4a65c_size_8abf5 l hfl D dA tE tC h2) m_11_97 m_11_98 m_11_99 m_1_18 m_11_100 hd_Jx4a65c_size_8abf5 rfl rfl ⟨(Nat.le_of_ble_eq_true rfl), (Nat.le_of_ble_eq_true rfl)⟩ [0] [1, 2] rfl rfl rfl rfl (by decide) rfl rfl rfl hl.1 rfl (Nat.le_of_ble_eq_true rfl) dX18_birth_148 ⟨(Nat.le_of_ble_eq_true rfl), (Nat.le_of_ble_eq_true rfl)⟩ (fun v w1 H locs hQ hP hD hS => ?_)
      obtain ⟨rfl, rfl⟩ := hQ
      refine W.eq (g2 := F0 m 151 ls [.int 0, .ref q3, .ref q3, .ref h2]) rfl ?_
      have hP : va_P D vwCl [(h0, .inr (22, [.int 0, .ref h1, .int 0, .ref h2, .ref h3, .ref h4, .int 0, .int 0, .int 0, .ref h5, .int 0, .ref h6, .int 0, .int 0, .ref h7, .ref h8, .ref h9, .ref h10, .ref h11, .ref h12, .int 0, .ref h13, .int 0, .ref h14, .ref h15, .ref h16, .ref h17, .ref h18])), (q3, .inr (21, [.int 0, .int 0, .int 0, .int 0, .int 0, .int 0, .int 0, .int 0, .null, .int 0, .int 0, .int 0, .int 0, .int 0, .int 0])), (h2, .inr (3, [.int 0, .ref tE, .int 0]))] H := hP
      have hD : va_D A [(h0, .inr (22, [.int 0, .ref h1, .int 0, .ref h2, .ref h3, .ref h4, .int 0, .int 0, .int 0, .ref h5, .int 0, .ref h6, .int 0, .int 0, .ref h7, .ref h8, .ref h9, .ref h10, .ref h11, .ref h12, .int 0, .ref h13, .int 0, .ref h14, .ref h15, .ref h16, .ref h17, .ref h18])), (q3, .inr (21, [.int 0, .int 0, .int 0, .int 0, .int 0, .int 0, .int 0, .int 0, .null, .int 0, .int 0, .int 0, .int 0, .int 0, .int 0])), (h2, .inr (3, [.int 0, .ref tE, .int 0]))] := hD
      refine lv_iload_n hx hb dX18_birth_151 rfl (lv_at hl 3 rfl) ?_
      refine kq_topi (y := (-1)) (kq_sing (by omega : p0.toInt = (-1)) (by decide +kernel)) ?_
      refine lv_iload_n hx hb dX18_birth_152 rfl (lv_at hl 4 rfl) ?_
      refine kq_topi (y := (-1)) (kq_sing (by omega : p1.toInt = (-1)) (by decide +kernel)) ?_
      refine lv_iload_n hx hb dX18_birth_153 rfl (lv_at hl 5 rfl) ?_
      refine kq_I (As := [.int 0, .int (-1), .int (-1), .int 1]) (rest := [.ref q3, .ref h2]) (wr := [(h0, .inr (22, [.int 0, .ref h1, .int 0, .ref h2, .ref h3, .ref h4, .int 0, .int 0, .int 0, .ref h5, .int 0, .ref h6, .int 0, .int 0, .ref h7, .ref h8, .ref h9, .ref h10, .ref h11, .ref h12, .int 0, .ref h13, .int 0, .ref h14, .ref h15, .ref h16, .ref h17, .ref h18])), (h2, .inr (3, [.int 0, .ref tE, .int 0]))]) hx hb hml hown hgw hK hG hA hP hD hS (c_X17_init_1 l hfl D dA tE tC q3) m_11_117 m_11_118 m_1_36 m_11_119 rfl hd_X17_init rfl rfl ⟨(Nat.le_of_ble_eq_true rfl), (Nat.le_of_ble_eq_true rfl)⟩ [1] [0, 2] rfl rfl rfl rfl (by decide) hl.1 rfl (Nat.le_of_ble_eq_true rfl) dX18_birth_154 ⟨(Nat.le_of_ble_eq_true rfl), (Nat.le_of_ble_eq_true rfl)⟩ (fun v w1 H locs hQ hP hD hS => ?_)
      obtain ⟨rfl, rfl⟩ := hQ
      refine W.eq (g2 := F0 m 157 ls [.ref q3, .ref h2]) rfl ?_
      have hP : va_P D vwCl [(h0, .inr (22, [.int 0, .ref h1, .int 0, .ref h2, .ref h3, .ref h4, .int 0, .int 0, .int 0, .ref h5, .int 0, .ref h6, .int 0, .int 0, .ref h7, .ref h8, .ref h9, .ref h10, .ref h11, .ref h12, .int 0, .ref h13, .int 0, .ref h14, .ref h15, .ref h16, .ref h17, .ref h18])), (h2, .inr (3, [.int 0, .ref tE, .int 0])), (q3, .inr (21, [.int 0, .int (-1), .int (-1), .int 1, .int 1, .int 0, .int 0, .int 0, .null, .int (-1), .int 0, .int 0, .int 0, .int 0, .int 0]))] H := hP
      have hD : va_D A [(h0, .inr (22, [.int 0, .ref h1, .int 0, .ref h2, .ref h3, .ref h4, .int 0, .int 0, .int 0, .ref h5, .int 0, .ref h6, .int 0, .int 0, .ref h7, .ref h8, .ref h9, .ref h10, .ref h11, .ref h12, .int 0, .ref h13, .int 0, .ref h14, .ref h15, .ref h16, .ref h17, .ref h18])), (h2, .inr (3, [.int 0, .ref tE, .int 0])), (q3, .inr (21, [.int 0, .int (-1), .int (-1), .int 1, .int 1, .int 0, .int 0, .int 0, .null, .int (-1), .int 0, .int 0, .int 0, .int 0, .int 0]))] := hD
      refine kq_V (q0 := 0) (As := [.ref q3]) (rest := []) (wr := [(h0, .inr (22, [.int 0, .ref h1, .int 0, .ref h2, .ref h3, .ref h4, .int 0, .int 0, .int 0, .ref h5, .int 0, .ref h6, .int 0, .int 0, .ref h7, .ref h8, .ref h9, .ref h10, .ref h11, .ref h12, .int 0, .ref h13, .int 0, .ref h14, .ref h15, .ref h16, .ref h17, .ref h18]))]) hx hb hml hown hgw hK hG hA hP hD hS (c_Jx4a65c_add_9ea2d_1 l hfl D dA tE tC h2 q3) m_11_173 m_11_174 m_11_175 m_1_18 m_11_176 hd_Jx4a65c_add_9ea2d rfl rfl ⟨(Nat.le_of_ble_eq_true rfl), (Nat.le_of_ble_eq_true rfl)⟩ [1, 2] [0] rfl rfl rfl rfl (by decide) rfl rfl rfl hl.1 rfl (Nat.le_of_ble_eq_true rfl) dX18_birth_157 ⟨(Nat.le_of_ble_eq_true rfl), (Nat.le_of_ble_eq_true rfl)⟩ (fun v w1 H locs hQ hP hD hS => ?_)
      obtain ⟨q4, g5, rfl, rfl⟩ := hQ
      refine W.eq (g2 := F0 m 160 ls [.int 1]) rfl ?_
      have hP : va_P D vwCl [(h0, .inr (22, [.int 0, .ref h1, .int 0, .ref h2, .ref h3, .ref h4, .int 0, .int 0, .int 0, .ref h5, .int 0, .ref h6, .int 0, .int 0, .ref h7, .ref h8, .ref h9, .ref h10, .ref h11, .ref h12, .int 0, .ref h13, .int 0, .ref h14, .ref h15, .ref h16, .ref h17, .ref h18])), (q3, .inr (21, [.int 0, .int (-1), .int (-1), .int 1, .int 1, .int 0, .int 0, .int 0, .null, .int (-1), .int 0, .int 0, .int 0, .int 0, .int 0])), (h2, .inr (3, [.int 1, .ref q4, .int 1])), (q4, .inl (dA 11, 10, .inr (.inr (.inr (.inr g5)))))] H := hP
      have hD : va_D A [(h0, .inr (22, [.int 0, .ref h1, .int 0, .ref h2, .ref h3, .ref h4, .int 0, .int 0, .int 0, .ref h5, .int 0, .ref h6, .int 0, .int 0, .ref h7, .ref h8, .ref h9, .ref h10, .ref h11, .ref h12, .int 0, .ref h13, .int 0, .ref h14, .ref h15, .ref h16, .ref h17, .ref h18])), (q3, .inr (21, [.int 0, .int (-1), .int (-1), .int 1, .int 1, .int 0, .int 0, .int 0, .null, .int (-1), .int 0, .int 0, .int 0, .int 0, .int 0])), (h2, .inr (3, [.int 1, .ref q4, .int 1])), (q4, .inl (dA 11, 10, .inr (.inr (.inr (.inr g5)))))] := hD
      refine lv_istore (lv' := [(6, .int 1), (5, .int 1), (4, .int 1), (0, .ref h0), (1, .int p0), (2, .int p1), (3, .int 1)]) hx hb dX18_birth_160 hl (by decide) rfl (fun ls hl => ?_)
      refine lv_aload_n hx hb dX18_birth_162 rfl (lv_at hl 3 rfl) ?_
      refine va_get (D := D) (ci := 22) (v := .ref h2) (C := RX18) (T := TX18) (N := 28) hx hb hgw in_X18 hown hK hP 0 rfl rfl 3 (by decide) (hgw _ m_10_0) (fun _ h9 => h9) rfl dX18_birth_163 ?_
      refine kq_V (q0 := 0) (As := []) (rest := []) (wr := [(h0, .inr (22, [.int 0, .ref h1, .int 0, .ref h2, .ref h3, .ref h4, .int 0, .int 0, .int 0, .ref h5, .int 0, .ref h6, .int 0, .int 0, .ref h7, .ref h8, .ref h9, .ref h10, .ref h11, .ref h12, .int 0, .ref h13, .int 0, .ref h14, .ref h15, .ref h16, .ref h17, .ref h18])), (q3, .inr (21, [.int 0, .int (-1), .int (-1), .int 1, .int 1, .int 0, .int 0, .int 0, .null, .int (-1), .int 0, .int 0, .int 0, .int 0, .int 0])), (q4, .inl (dA 11, 10, .inr (.inr (.inr (.inr g5)))))]) hx hb hml hown hgw hK hG hA hP hD hS (c_Jx4a65c_size_8abf5_1 l hfl D dA tE tC h2 q4) m_11_97 m_11_98 m_11_99 m_1_18 m_11_100 hd_Jx4a65c_size_8abf5 rfl rfl ⟨(Nat.le_of_ble_eq_true rfl), (Nat.le_of_ble_eq_true rfl)⟩ [2] [0, 1, 3] rfl rfl rfl rfl (by decide) rfl rfl rfl hl.1 rfl (Nat.le_of_ble_eq_true rfl) dX18_birth_166 ⟨(Nat.le_of_ble_eq_true rfl), (Nat.le_of_ble_eq_true rfl)⟩ (fun v w1 H locs hQ hP hD hS => ?_)
      obtain ⟨rfl, rfl⟩ := hQ
      refine W.eq (g2 := F0 m 169 ls [.int 1]) rfl ?_
      have hP : va_P D vwCl [(h0, .inr (22, [.int 0, .ref h1, .int 0, .ref h2, .ref h3, .ref h4, .int 0, .int 0, .int 0, .ref h5, .int 0, .ref h6, .int 0, .int 0, .ref h7, .ref h8, .ref h9, .ref h10, .ref h11, .ref h12, .int 0, .ref h13, .int 0, .ref h14, .ref h15, .ref h16, .ref h17, .ref h18])), (q3, .inr (21, [.int 0, .int (-1), .int (-1), .int 1, .int 1, .int 0, .int 0, .int 0, .null, .int (-1), .int 0, .int 0, .int 0, .int 0, .int 0])), (q4, .inl (dA 11, 10, .inr (.inr (.inr (.inr g5))))), (h2, .inr (3, [.int 1, .ref q4, .int 1]))] H := hP
      have hD : va_D A [(h0, .inr (22, [.int 0, .ref h1, .int 0, .ref h2, .ref h3, .ref h4, .int 0, .int 0, .int 0, .ref h5, .int 0, .ref h6, .int 0, .int 0, .ref h7, .ref h8, .ref h9, .ref h10, .ref h11, .ref h12, .int 0, .ref h13, .int 0, .ref h14, .ref h15, .ref h16, .ref h17, .ref h18])), (q3, .inr (21, [.int 0, .int (-1), .int (-1), .int 1, .int 1, .int 0, .int 0, .int 0, .null, .int (-1), .int 0, .int 0, .int 0, .int 0, .int 0])), (q4, .inl (dA 11, 10, .inr (.inr (.inr (.inr g5))))), (h2, .inr (3, [.int 1, .ref q4, .int 1]))] := hD
      refine lv_iconst (v := 1) hx hb dX18_birth_169 (by decide) ?_
      refine lv_isub hx hb dX18_birth_170 ?_
      refine kq_topi (y := 0) (by decide +kernel) ?_
      have hP9 := hP.sub (ws' := [(h0, .inr (22, [.int 0, .ref h1, .int 0, .ref h2, .ref h3, .ref h4, .int 0, .int 0, .int 0, .ref h5, .int 0, .ref h6, .int 0, .int 0, .ref h7, .ref h8, .ref h9, .ref h10, .ref h11, .ref h12, .int 0, .ref h13, .int 0, .ref h14, .ref h15, .ref h16, .ref h17, .ref h18]))]) [0] rfl
      have hD9 := hD.sub (ws' := [(h0, .inr (22, [.int 0, .ref h1, .int 0, .ref h2, .ref h3, .ref h4, .int 0, .int 0, .int 0, .ref h5, .int 0, .ref h6, .int 0, .int 0, .ref h7, .ref h8, .ref h9, .ref h10, .ref h11, .ref h12, .int 0, .ref h13, .int 0, .ref h14, .ref h15, .ref h16, .ref h17, .ref h18]))]) [0] (by decide) rfl
      exact (kq_iret (v := 0) hx hb hr hlocks hS rfl (Or.inl ⟨c_1, c_2, rfl, rfl⟩) hP9 hD9 (Nat.le_of_ble_eq_true rfl) (Nat.le_of_ble_eq_true rfl) dX18_birth_171)
    · have c_2 := mt (kq_eq (x := p1) (y := (-1)) (a := p1.toInt) (b := (-1)) (by rfl) (by decide +kernel)).mpr c_2
      refine lv_aload_n hx hb dX18_birth_18 rfl (lv_at hl 0 rfl) ?_
      refine lv_iload_n hx hb dX18_birth_19 rfl (lv_at hl 2 rfl) ?_
      refine kq_V (q0 := 0) (As := [.int p1]) (rest := []) (wr := []) hx hb hml hown hgw hK hG hA hP hD hS (c_X18_isPerson l hfl D dA tE tC h0 p1 h1 h2 h3 h4 h5 h6 h7 h8 h9 h10 h11 h12 h13 h14 h15 h16 h17 h18) m_11_93 m_11_95 m_s_80 m_1_15 m_11_96 hd_X18_isPerson rfl rfl ⟨(Nat.le_of_ble_eq_true rfl), (Nat.le_of_ble_eq_true rfl)⟩ [0, 1] [] rfl rfl rfl rfl (by decide) rfl rfl rfl hl.1 rfl (Nat.le_of_ble_eq_true rfl) dX18_birth_20 ⟨(Nat.le_of_ble_eq_true rfl), (Nat.le_of_ble_eq_true rfl)⟩ (fun v w1 H locs hQ hP hD hS => ?_)
      rcases hQ with ⟨c_6, rfl, rfl⟩ | ⟨c_7, rfl, rfl⟩
      · skip
        refine W.eq (g2 := F0 m 23 ls [.int 0]) rfl ?_
        have hP : va_P D vwCl [(h0, .inr (22, [.int 0, .ref h1, .int 0, .ref h2, .ref h3, .ref h4, .int 0, .int 0, .int 0, .ref h5, .int 0, .ref h6, .int 0, .int 0, .ref h7, .ref h8, .ref h9, .ref h10, .ref h11, .ref h12, .int 0, .ref h13, .int 0, .ref h14, .ref h15, .ref h16, .ref h17, .ref h18])), (h2, .inr (3, [.int 0, .ref tE, .int 0]))] H := hP
        have hD : va_D A [(h0, .inr (22, [.int 0, .ref h1, .int 0, .ref h2, .ref h3, .ref h4, .int 0, .int 0, .int 0, .ref h5, .int 0, .ref h6, .int 0, .int 0, .ref h7, .ref h8, .ref h9, .ref h10, .ref h11, .ref h12, .int 0, .ref h13, .int 0, .ref h14, .ref h15, .ref h16, .ref h17, .ref h18])), (h2, .inr (3, [.int 0, .ref tE, .int 0]))] := hD
        refine lv_if_eq (tgt := 30) hx hb dX18_birth_23 (by decide) (fun _ => ?_) (fun h => absurd (by decide +kernel) h)
        refine lv_iconst (v := 0) hx hb dX18_birth_30 (by decide) ?_
        refine lv_istore (lv' := [(4, .int 0), (0, .ref h0), (1, .int p0), (2, .int p1), (3, .int 1)]) hx hb dX18_birth_31 hl (by decide) rfl (fun ls hl => ?_)
        refine lv_aload_n hx hb dX18_birth_33 rfl (lv_at hl 1 rfl) ?_
        refine lv_iload hx hb dX18_birth_34 (lv_at hl 0 rfl) ?_
        refine lv_if_eq (tgt := 43) hx hb dX18_birth_36 (by decide) (fun _ => ?_) (fun h => absurd (by decide +kernel) h)
        refine lv_iconst (v := 1) hx hb dX18_birth_43 (by decide) ?_
        refine kq_V (q0 := 0) (As := [.int 1]) (rest := []) (wr := [(h2, .inr (3, [.int 0, .ref tE, .int 0]))]) hx hb hml hown hgw hK hG hA hP hD hS (c_X18_fails l hfl D dA tE tC h0 h1 h2 h3 h4 h5 h6 h7 h8 h9 h10 h11 h12 h13 h14 h15 h16 h17 h18) m_10_93 m_10_95 m_s_61 m_1_15 m_10_96 hd_X18_fails rfl rfl ⟨(Nat.le_of_ble_eq_true rfl), (Nat.le_of_ble_eq_true rfl)⟩ [0] [1] rfl rfl rfl rfl (by decide) rfl rfl rfl hl.1 rfl (Nat.le_of_ble_eq_true rfl) dX18_birth_44 ⟨(Nat.le_of_ble_eq_true rfl), (Nat.le_of_ble_eq_true rfl)⟩ (fun v w1 H locs hQ hP hD hS => ?_)
        obtain ⟨rfl, rfl⟩ := hQ
        refine W.eq (g2 := F0 m 47 ls [.int 1]) rfl ?_
        have hP : va_P D vwCl [(h2, .inr (3, [.int 0, .ref tE, .int 0])), (h0, .inr (22, [.int 1, .ref h1, .int 0, .ref h2, .ref h3, .ref h4, .int 0, .int 0, .int 0, .ref h5, .int 0, .ref h6, .int 0, .int 0, .ref h7, .ref h8, .ref h9, .ref h10, .ref h11, .ref h12, .int 0, .ref h13, .int 0, .ref h14, .ref h15, .ref h16, .ref h17, .ref h18]))] H := hP
        have hD : va_D A [(h2, .inr (3, [.int 0, .ref tE, .int 0])), (h0, .inr (22, [.int 1, .ref h1, .int 0, .ref h2, .ref h3, .ref h4, .int 0, .int 0, .int 0, .ref h5, .int 0, .ref h6, .int 0, .int 0, .ref h7, .ref h8, .ref h9, .ref h10, .ref h11, .ref h12, .int 0, .ref h13, .int 0, .ref h14, .ref h15, .ref h16, .ref h17, .ref h18]))] := hD
        refine lv_if_eq (tgt := 52) hx hb dX18_birth_47 (by decide) (fun h => absurd h (by decide +kernel)) (fun _ => ?_)
        refine lv_iconst (v := 0) hx hb dX18_birth_50 (by decide) ?_
        have hP9 := hP.sub (ws' := [(h0, .inr (22, [.int 1, .ref h1, .int 0, .ref h2, .ref h3, .ref h4, .int 0, .int 0, .int 0, .ref h5, .int 0, .ref h6, .int 0, .int 0, .ref h7, .ref h8, .ref h9, .ref h10, .ref h11, .ref h12, .int 0, .ref h13, .int 0, .ref h14, .ref h15, .ref h16, .ref h17, .ref h18]))]) [1] rfl
        have hD9 := hD.sub (ws' := [(h0, .inr (22, [.int 1, .ref h1, .int 0, .ref h2, .ref h3, .ref h4, .int 0, .int 0, .int 0, .ref h5, .int 0, .ref h6, .int 0, .int 0, .ref h7, .ref h8, .ref h9, .ref h10, .ref h11, .ref h12, .int 0, .ref h13, .int 0, .ref h14, .ref h15, .ref h16, .ref h17, .ref h18]))]) [1] (by decide) rfl
        exact (kq_iret (v := 0) hx hb hr hlocks hS rfl (Or.inr (Or.inl ⟨c_1, c_2, c_6, rfl, rfl⟩)) hP9 hD9 (Nat.le_of_ble_eq_true rfl) (Nat.le_of_ble_eq_true rfl) dX18_birth_51)
      · skip
        refine W.eq (g2 := F0 m 23 ls [.int 0]) rfl ?_
        have hP : va_P D vwCl [(h0, .inr (22, [.int 0, .ref h1, .int 0, .ref h2, .ref h3, .ref h4, .int 0, .int 0, .int 0, .ref h5, .int 0, .ref h6, .int 0, .int 0, .ref h7, .ref h8, .ref h9, .ref h10, .ref h11, .ref h12, .int 0, .ref h13, .int 0, .ref h14, .ref h15, .ref h16, .ref h17, .ref h18])), (h2, .inr (3, [.int 0, .ref tE, .int 0]))] H := hP
        have hD : va_D A [(h0, .inr (22, [.int 0, .ref h1, .int 0, .ref h2, .ref h3, .ref h4, .int 0, .int 0, .int 0, .ref h5, .int 0, .ref h6, .int 0, .int 0, .ref h7, .ref h8, .ref h9, .ref h10, .ref h11, .ref h12, .int 0, .ref h13, .int 0, .ref h14, .ref h15, .ref h16, .ref h17, .ref h18])), (h2, .inr (3, [.int 0, .ref tE, .int 0]))] := hD
        refine lv_if_eq (tgt := 30) hx hb dX18_birth_23 (by decide) (fun _ => ?_) (fun h => absurd (by decide +kernel) h)
        refine lv_iconst (v := 0) hx hb dX18_birth_30 (by decide) ?_
        refine lv_istore (lv' := [(4, .int 0), (0, .ref h0), (1, .int p0), (2, .int p1), (3, .int 1)]) hx hb dX18_birth_31 hl (by decide) rfl (fun ls hl => ?_)
        refine lv_aload_n hx hb dX18_birth_33 rfl (lv_at hl 1 rfl) ?_
        refine lv_iload hx hb dX18_birth_34 (lv_at hl 0 rfl) ?_
        refine lv_if_eq (tgt := 43) hx hb dX18_birth_36 (by decide) (fun _ => ?_) (fun h => absurd (by decide +kernel) h)
        refine lv_iconst (v := 1) hx hb dX18_birth_43 (by decide) ?_
        refine kq_V (q0 := 0) (As := [.int 1]) (rest := []) (wr := [(h2, .inr (3, [.int 0, .ref tE, .int 0]))]) hx hb hml hown hgw hK hG hA hP hD hS (c_X18_fails l hfl D dA tE tC h0 h1 h2 h3 h4 h5 h6 h7 h8 h9 h10 h11 h12 h13 h14 h15 h16 h17 h18) m_10_93 m_10_95 m_s_61 m_1_15 m_10_96 hd_X18_fails rfl rfl ⟨(Nat.le_of_ble_eq_true rfl), (Nat.le_of_ble_eq_true rfl)⟩ [0] [1] rfl rfl rfl rfl (by decide) rfl rfl rfl hl.1 rfl (Nat.le_of_ble_eq_true rfl) dX18_birth_44 ⟨(Nat.le_of_ble_eq_true rfl), (Nat.le_of_ble_eq_true rfl)⟩ (fun v w1 H locs hQ hP hD hS => ?_)
        obtain ⟨rfl, rfl⟩ := hQ
        refine W.eq (g2 := F0 m 47 ls [.int 1]) rfl ?_
        have hP : va_P D vwCl [(h2, .inr (3, [.int 0, .ref tE, .int 0])), (h0, .inr (22, [.int 1, .ref h1, .int 0, .ref h2, .ref h3, .ref h4, .int 0, .int 0, .int 0, .ref h5, .int 0, .ref h6, .int 0, .int 0, .ref h7, .ref h8, .ref h9, .ref h10, .ref h11, .ref h12, .int 0, .ref h13, .int 0, .ref h14, .ref h15, .ref h16, .ref h17, .ref h18]))] H := hP
        have hD : va_D A [(h2, .inr (3, [.int 0, .ref tE, .int 0])), (h0, .inr (22, [.int 1, .ref h1, .int 0, .ref h2, .ref h3, .ref h4, .int 0, .int 0, .int 0, .ref h5, .int 0, .ref h6, .int 0, .int 0, .ref h7, .ref h8, .ref h9, .ref h10, .ref h11, .ref h12, .int 0, .ref h13, .int 0, .ref h14, .ref h15, .ref h16, .ref h17, .ref h18]))] := hD
        refine lv_if_eq (tgt := 52) hx hb dX18_birth_47 (by decide) (fun h => absurd h (by decide +kernel)) (fun _ => ?_)
        refine lv_iconst (v := 0) hx hb dX18_birth_50 (by decide) ?_
        have hP9 := hP.sub (ws' := [(h0, .inr (22, [.int 1, .ref h1, .int 0, .ref h2, .ref h3, .ref h4, .int 0, .int 0, .int 0, .ref h5, .int 0, .ref h6, .int 0, .int 0, .ref h7, .ref h8, .ref h9, .ref h10, .ref h11, .ref h12, .int 0, .ref h13, .int 0, .ref h14, .ref h15, .ref h16, .ref h17, .ref h18]))]) [1] rfl
        have hD9 := hD.sub (ws' := [(h0, .inr (22, [.int 1, .ref h1, .int 0, .ref h2, .ref h3, .ref h4, .int 0, .int 0, .int 0, .ref h5, .int 0, .ref h6, .int 0, .int 0, .ref h7, .ref h8, .ref h9, .ref h10, .ref h11, .ref h12, .int 0, .ref h13, .int 0, .ref h14, .ref h15, .ref h16, .ref h17, .ref h18]))]) [1] (by decide) rfl
        exact (kq_iret (v := 0) hx hb hr hlocks hS rfl (Or.inr (Or.inr (Or.inl ⟨c_1, c_2, c_7, rfl, rfl⟩))) hP9 hD9 (Nat.le_of_ble_eq_true rfl) (Nat.le_of_ble_eq_true rfl) dX18_birth_51)
  · have c_1 := mt (kq_eq (x := p0) (y := (-1)) (a := p0.toInt) (b := (-1)) (by rfl) (by decide +kernel)).mpr c_1
    refine lv_aload_n hx hb dX18_birth_5 rfl (lv_at hl 0 rfl) ?_
    refine lv_iload_n hx hb dX18_birth_6 rfl (lv_at hl 1 rfl) ?_
    refine kq_V (q0 := 0) (As := [.int p0]) (rest := []) (wr := []) hx hb hml hown hgw hK hG hA hP hD hS (c_X18_isPerson l hfl D dA tE tC h0 p0 h1 h2 h3 h4 h5 h6 h7 h8 h9 h10 h11 h12 h13 h14 h15 h16 h17 h18) m_11_93 m_11_95 m_s_80 m_1_15 m_11_96 hd_X18_isPerson rfl rfl ⟨(Nat.le_of_ble_eq_true rfl), (Nat.le_of_ble_eq_true rfl)⟩ [0, 1] [] rfl rfl rfl rfl (by decide) rfl rfl rfl hl.1 rfl (Nat.le_of_ble_eq_true rfl) dX18_birth_7 ⟨(Nat.le_of_ble_eq_true rfl), (Nat.le_of_ble_eq_true rfl)⟩ (fun v w1 H locs hQ hP hD hS => ?_)
    rcases hQ with ⟨c_8, rfl, rfl⟩ | ⟨c_9, rfl, rfl⟩
    · skip
      refine W.eq (g2 := F0 m 10 ls [.int 0]) rfl ?_
      have hP : va_P D vwCl [(h0, .inr (22, [.int 0, .ref h1, .int 0, .ref h2, .ref h3, .ref h4, .int 0, .int 0, .int 0, .ref h5, .int 0, .ref h6, .int 0, .int 0, .ref h7, .ref h8, .ref h9, .ref h10, .ref h11, .ref h12, .int 0, .ref h13, .int 0, .ref h14, .ref h15, .ref h16, .ref h17, .ref h18])), (h2, .inr (3, [.int 0, .ref tE, .int 0]))] H := hP
      have hD : va_D A [(h0, .inr (22, [.int 0, .ref h1, .int 0, .ref h2, .ref h3, .ref h4, .int 0, .int 0, .int 0, .ref h5, .int 0, .ref h6, .int 0, .int 0, .ref h7, .ref h8, .ref h9, .ref h10, .ref h11, .ref h12, .int 0, .ref h13, .int 0, .ref h14, .ref h15, .ref h16, .ref h17, .ref h18])), (h2, .inr (3, [.int 0, .ref tE, .int 0]))] := hD
      refine lv_if_eq (tgt := 30) hx hb dX18_birth_10 (by decide) (fun _ => ?_) (fun h => absurd (by decide +kernel) h)
      refine lv_iconst (v := 0) hx hb dX18_birth_30 (by decide) ?_
      refine lv_istore (lv' := [(4, .int 0), (0, .ref h0), (1, .int p0), (2, .int p1), (3, .int 1)]) hx hb dX18_birth_31 hl (by decide) rfl (fun ls hl => ?_)
      refine lv_aload_n hx hb dX18_birth_33 rfl (lv_at hl 1 rfl) ?_
      refine lv_iload hx hb dX18_birth_34 (lv_at hl 0 rfl) ?_
      refine lv_if_eq (tgt := 43) hx hb dX18_birth_36 (by decide) (fun _ => ?_) (fun h => absurd (by decide +kernel) h)
      refine lv_iconst (v := 1) hx hb dX18_birth_43 (by decide) ?_
      refine kq_V (q0 := 0) (As := [.int 1]) (rest := []) (wr := [(h2, .inr (3, [.int 0, .ref tE, .int 0]))]) hx hb hml hown hgw hK hG hA hP hD hS (c_X18_fails l hfl D dA tE tC h0 h1 h2 h3 h4 h5 h6 h7 h8 h9 h10 h11 h12 h13 h14 h15 h16 h17 h18) m_10_93 m_10_95 m_s_61 m_1_15 m_10_96 hd_X18_fails rfl rfl ⟨(Nat.le_of_ble_eq_true rfl), (Nat.le_of_ble_eq_true rfl)⟩ [0] [1] rfl rfl rfl rfl (by decide) rfl rfl rfl hl.1 rfl (Nat.le_of_ble_eq_true rfl) dX18_birth_44 ⟨(Nat.le_of_ble_eq_true rfl), (Nat.le_of_ble_eq_true rfl)⟩ (fun v w1 H locs hQ hP hD hS => ?_)
      obtain ⟨rfl, rfl⟩ := hQ
      refine W.eq (g2 := F0 m 47 ls [.int 1]) rfl ?_
      have hP : va_P D vwCl [(h2, .inr (3, [.int 0, .ref tE, .int 0])), (h0, .inr (22, [.int 1, .ref h1, .int 0, .ref h2, .ref h3, .ref h4, .int 0, .int 0, .int 0, .ref h5, .int 0, .ref h6, .int 0, .int 0, .ref h7, .ref h8, .ref h9, .ref h10, .ref h11, .ref h12, .int 0, .ref h13, .int 0, .ref h14, .ref h15, .ref h16, .ref h17, .ref h18]))] H := hP
      have hD : va_D A [(h2, .inr (3, [.int 0, .ref tE, .int 0])), (h0, .inr (22, [.int 1, .ref h1, .int 0, .ref h2, .ref h3, .ref h4, .int 0, .int 0, .int 0, .ref h5, .int 0, .ref h6, .int 0, .int 0, .ref h7, .ref h8, .ref h9, .ref h10, .ref h11, .ref h12, .int 0, .ref h13, .int 0, .ref h14, .ref h15, .ref h16, .ref h17, .ref h18]))] := hD
      refine lv_if_eq (tgt := 52) hx hb dX18_birth_47 (by decide) (fun h => absurd h (by decide +kernel)) (fun _ => ?_)
      refine lv_iconst (v := 0) hx hb dX18_birth_50 (by decide) ?_
      have hP9 := hP.sub (ws' := [(h0, .inr (22, [.int 1, .ref h1, .int 0, .ref h2, .ref h3, .ref h4, .int 0, .int 0, .int 0, .ref h5, .int 0, .ref h6, .int 0, .int 0, .ref h7, .ref h8, .ref h9, .ref h10, .ref h11, .ref h12, .int 0, .ref h13, .int 0, .ref h14, .ref h15, .ref h16, .ref h17, .ref h18]))]) [1] rfl
      have hD9 := hD.sub (ws' := [(h0, .inr (22, [.int 1, .ref h1, .int 0, .ref h2, .ref h3, .ref h4, .int 0, .int 0, .int 0, .ref h5, .int 0, .ref h6, .int 0, .int 0, .ref h7, .ref h8, .ref h9, .ref h10, .ref h11, .ref h12, .int 0, .ref h13, .int 0, .ref h14, .ref h15, .ref h16, .ref h17, .ref h18]))]) [1] (by decide) rfl
      exact (kq_iret (v := 0) hx hb hr hlocks hS rfl (Or.inr (Or.inr (Or.inr (Or.inl ⟨c_1, c_8, rfl, rfl⟩)))) hP9 hD9 (Nat.le_of_ble_eq_true rfl) (Nat.le_of_ble_eq_true rfl) dX18_birth_51)
    · skip
      refine W.eq (g2 := F0 m 10 ls [.int 0]) rfl ?_
      have hP : va_P D vwCl [(h0, .inr (22, [.int 0, .ref h1, .int 0, .ref h2, .ref h3, .ref h4, .int 0, .int 0, .int 0, .ref h5, .int 0, .ref h6, .int 0, .int 0, .ref h7, .ref h8, .ref h9, .ref h10, .ref h11, .ref h12, .int 0, .ref h13, .int 0, .ref h14, .ref h15, .ref h16, .ref h17, .ref h18])), (h2, .inr (3, [.int 0, .ref tE, .int 0]))] H := hP
      have hD : va_D A [(h0, .inr (22, [.int 0, .ref h1, .int 0, .ref h2, .ref h3, .ref h4, .int 0, .int 0, .int 0, .ref h5, .int 0, .ref h6, .int 0, .int 0, .ref h7, .ref h8, .ref h9, .ref h10, .ref h11, .ref h12, .int 0, .ref h13, .int 0, .ref h14, .ref h15, .ref h16, .ref h17, .ref h18])), (h2, .inr (3, [.int 0, .ref tE, .int 0]))] := hD
      refine lv_if_eq (tgt := 30) hx hb dX18_birth_10 (by decide) (fun _ => ?_) (fun h => absurd (by decide +kernel) h)
      refine lv_iconst (v := 0) hx hb dX18_birth_30 (by decide) ?_
      refine lv_istore (lv' := [(4, .int 0), (0, .ref h0), (1, .int p0), (2, .int p1), (3, .int 1)]) hx hb dX18_birth_31 hl (by decide) rfl (fun ls hl => ?_)
      refine lv_aload_n hx hb dX18_birth_33 rfl (lv_at hl 1 rfl) ?_
      refine lv_iload hx hb dX18_birth_34 (lv_at hl 0 rfl) ?_
      refine lv_if_eq (tgt := 43) hx hb dX18_birth_36 (by decide) (fun _ => ?_) (fun h => absurd (by decide +kernel) h)
      refine lv_iconst (v := 1) hx hb dX18_birth_43 (by decide) ?_
      refine kq_V (q0 := 0) (As := [.int 1]) (rest := []) (wr := [(h2, .inr (3, [.int 0, .ref tE, .int 0]))]) hx hb hml hown hgw hK hG hA hP hD hS (c_X18_fails l hfl D dA tE tC h0 h1 h2 h3 h4 h5 h6 h7 h8 h9 h10 h11 h12 h13 h14 h15 h16 h17 h18) m_10_93 m_10_95 m_s_61 m_1_15 m_10_96 hd_X18_fails rfl rfl ⟨(Nat.le_of_ble_eq_true rfl), (Nat.le_of_ble_eq_true rfl)⟩ [0] [1] rfl rfl rfl rfl (by decide) rfl rfl rfl hl.1 rfl (Nat.le_of_ble_eq_true rfl) dX18_birth_44 ⟨(Nat.le_of_ble_eq_true rfl), (Nat.le_of_ble_eq_true rfl)⟩ (fun v w1 H locs hQ hP hD hS => ?_)
      obtain ⟨rfl, rfl⟩ := hQ
      refine W.eq (g2 := F0 m 47 ls [.int 1]) rfl ?_
      have hP : va_P D vwCl [(h2, .inr (3, [.int 0, .ref tE, .int 0])), (h0, .inr (22, [.int 1, .ref h1, .int 0, .ref h2, .ref h3, .ref h4, .int 0, .int 0, .int 0, .ref h5, .int 0, .ref h6, .int 0, .int 0, .ref h7, .ref h8, .ref h9, .ref h10, .ref h11, .ref h12, .int 0, .ref h13, .int 0, .ref h14, .ref h15, .ref h16, .ref h17, .ref h18]))] H := hP
      have hD : va_D A [(h2, .inr (3, [.int 0, .ref tE, .int 0])), (h0, .inr (22, [.int 1, .ref h1, .int 0, .ref h2, .ref h3, .ref h4, .int 0, .int 0, .int 0, .ref h5, .int 0, .ref h6, .int 0, .int 0, .ref h7, .ref h8, .ref h9, .ref h10, .ref h11, .ref h12, .int 0, .ref h13, .int 0, .ref h14, .ref h15, .ref h16, .ref h17, .ref h18]))] := hD
      refine lv_if_eq (tgt := 52) hx hb dX18_birth_47 (by decide) (fun h => absurd h (by decide +kernel)) (fun _ => ?_)
      refine lv_iconst (v := 0) hx hb dX18_birth_50 (by decide) ?_
      have hP9 := hP.sub (ws' := [(h0, .inr (22, [.int 1, .ref h1, .int 0, .ref h2, .ref h3, .ref h4, .int 0, .int 0, .int 0, .ref h5, .int 0, .ref h6, .int 0, .int 0, .ref h7, .ref h8, .ref h9, .ref h10, .ref h11, .ref h12, .int 0, .ref h13, .int 0, .ref h14, .ref h15, .ref h16, .ref h17, .ref h18]))]) [1] rfl
      have hD9 := hD.sub (ws' := [(h0, .inr (22, [.int 1, .ref h1, .int 0, .ref h2, .ref h3, .ref h4, .int 0, .int 0, .int 0, .ref h5, .int 0, .ref h6, .int 0, .int 0, .ref h7, .ref h8, .ref h9, .ref h10, .ref h11, .ref h12, .int 0, .ref h13, .int 0, .ref h14, .ref h15, .ref h16, .ref h17, .ref h18]))]) [1] (by decide) rfl
      exact (kq_iret (v := 0) hx hb hr hlocks hS rfl (Or.inr (Or.inr (Or.inr (Or.inr (⟨c_1, c_9, rfl, rfl⟩))))) hP9 hD9 (Nat.le_of_ble_eq_true rfl) (Nat.le_of_ble_eq_true rfl) dX18_birth_51)
set_option maxHeartbeats 4000000 in
set_option maxRecDepth 100000 in
theorem c_X11_death (l : Launch) (hfl : l.stackTraces = false) (D : va_G) (dA : Nat → ClassId) (tE tC : Nat) (h0 : Nat) (p0 : Int32) (h1 : Nat) (h2 : Nat) (h3 : Nat) (h4 : Nat) (h5 : Nat) (h6 : Nat) (h7 : Nat) (h8 : Nat) (h9 : Nat) (h10 : Nat) (h11 : Nat) (h12 : Nat) (h13 : Nat) (h14 : Nat) (h15 : Nat) (h16 : Nat) (h17 : Nat) (h18 : Nat) : Cx l D dA tE tC yX11_death (Cond.code yX11_death cX11_death 2 (some .int) :: gW) ({ frames := 7, cells := 1, slots := 6, locals := 103 } : Room) [.ref h0, .int p0] [(h0, .inr (15, [.ref h1, .ref h2, .ref h3, .ref h4, .ref h5, .ref h6, .ref h7, .ref h8, .ref h9, .ref h10, .ref h11, .int 0, .int 0, .int 0])), (h6, .inr (9, [.ref h12, .ref h13, .ref h14, .ref h15, .ref h16, .ref h17, .ref h18, .int 0, .int 0]))] (fun v w1 => False) (fun E => (p0.toInt < 0 ∧ E = "java/lang/IndexOutOfBoundsException") ∨ (¬ p0.toInt < 0 ∧ E = "java/lang/IndexOutOfBoundsException")) 1 6 := by
  refine Cx_of (by decide) (Nat.le_of_ble_eq_true rfl) ?_
  intro p e s m below meth c hx hb hr hml hown hnm hlocks hgw hK A hG hA hP hD ls hl hxt
  have hl : lv_has ls 2 [(0, .ref h0), (1, .int p0)] := hl
  have hS : va_S A s.heap s.heap [] := va_S.rf
  refine lv_aload_n hx hb dX11_death_0 rfl (lv_at hl 0 rfl) ?_
  refine lv_iload_n hx hb dX11_death_1 rfl (lv_at hl 1 rfl) ?_
  refine kx_V (q0 := 0) (As := [.int p0]) (rest := []) (wr := []) hx hb hml hown hgw hK hG hA hP hD hS (c_X11_needPerson l hfl D dA tE tC h0 p0 h1 h2 h3 h4 h5 h6 h7 h8 h9 h10 h11 h12 h13 h14 h15 h16 h17 h18) m_6_99 m_6_101 m_s_34 m_1_1 m_6_102 hd_X11_needPerson rfl rfl ⟨(Nat.le_of_ble_eq_true rfl), (Nat.le_of_ble_eq_true rfl)⟩ [0, 1] [] rfl rfl rfl rfl (by decide) rfl rfl rfl hl.1 rfl (Nat.le_of_ble_eq_true rfl) dX11_death_2 ⟨(Nat.le_of_ble_eq_true rfl), (Nat.le_of_ble_eq_true rfl)⟩ (fun v w1 H locs hQ hP hD hS => hQ.elim) (fun E ce q9 H locs hX hP hD hS hce hcv hcl => ?_)
  rcases hX with ⟨c_1, rfl⟩ | ⟨c_2, rfl⟩
  · skip
    exact kx_out hxt hlocks hS hce hcv hcl (Or.inl ⟨c_1, rfl⟩) (Nat.le_of_ble_eq_true rfl) (Nat.le_of_ble_eq_true rfl)
  · skip
    exact kx_out hxt hlocks hS hce hcv hcl (Or.inr (⟨c_2, rfl⟩)) (Nat.le_of_ble_eq_true rfl) (Nat.le_of_ble_eq_true rfl)
set_option maxHeartbeats 4000000 in
set_option maxRecDepth 100000 in
theorem c_L_death (l : Launch) (hfl : l.stackTraces = false) (D : va_G) (dA : Nat → ClassId) (tE tC : Nat) (h0 : Nat) (p0 : Int32) (h1 : Nat) (h2 : Nat) (h3 : Nat) (h4 : Nat) (h5 : Nat) (h6 : Nat) (h7 : Nat) (h8 : Nat) (h9 : Nat) (h10 : Nat) (h11 : Nat) (h12 : Nat) (h13 : Nat) (h14 : Nat) (h15 : Nat) (h16 : Nat) (h17 : Nat) (h18 : Nat) (h19 : Nat) : Cx l D dA tE tC yL_death (Cond.codeWith yL_death cL_death 4 (some .int) [(0, 9, 12, 21), (0, 9, 15, 23)] :: gW) ({ frames := 8, cells := 1, slots := 6, locals := 124 } : Room) [.ref h0, .int p0, .ref h1] [(h0, .inr (15, [.ref h2, .ref h3, .ref h4, .ref h5, .ref h6, .ref h7, .ref h8, .ref h9, .ref h10, .ref h11, .ref h12, .int 0, .int 0, .int 0])), (h7, .inr (9, [.ref h13, .ref h14, .ref h15, .ref h16, .ref h17, .ref h18, .ref h19, .int 0, .int 0]))] (fun v w1 => (p0.toInt < 0 ∧ v = some (.int 1) ∧ w1 = []) ∨ (¬ p0.toInt < 0 ∧ v = some (.int 1) ∧ w1 = [])) (fun E => False) 1 6 := by
  refine Ch_of (by decide) (Nat.le_of_ble_eq_true rfl) ?_
  intro p e s m below meth c hx hb hr hml hown hnm hlocks hgw hK A hG hA hP hD ls hl hxt
  have hl : lv_has ls 4 [(0, .ref h0), (1, .int p0), (2, .ref h1)] := hl
  have hS : va_S A s.heap s.heap [] := va_S.rf
  refine lv_aload_n hx hb dL_death_0 rfl (lv_at hl 2 rfl) ?_
  refine lv_iconst (v := 0) hx hb dL_death_1 (by decide) ?_
  refine lv_aload_n hx hb dL_death_2 rfl (lv_at hl 0 rfl) ?_
  refine lv_iload_n hx hb dL_death_3 rfl (lv_at hl 1 rfl) ?_
  refine kx_V (q0 := 0) (As := [.int p0]) (rest := [.int 0, .ref h1]) (wr := []) hx hb hml hown hgw hK hG hA hP hD hS (c_X11_death l hfl D dA tE tC h0 p0 h2 h3 h4 h5 h6 h7 h8 h9 h10 h11 h12 h13 h14 h15 h16 h17 h18 h19) m_6_229 m_6_230 m_6_231 m_1_1 m_6_232 hd_X11_death rfl rfl ⟨(Nat.le_of_ble_eq_true rfl), (Nat.le_of_ble_eq_true rfl)⟩ [0, 1] [] rfl rfl rfl rfl (by decide) rfl rfl rfl hl.1 rfl (Nat.le_of_ble_eq_true rfl) dL_death_4 ⟨(Nat.le_of_ble_eq_true rfl), (Nat.le_of_ble_eq_true rfl)⟩ (fun v w1 H locs hQ hP hD hS => hQ.elim) (fun E ce q9 H locs hX hP hD hS hce hcv hcl => ?_)
  rcases hX with ⟨c_1, rfl⟩ | ⟨c_2, rfl⟩
  · skip
    refine vx_catch (name := "java/lang/IndexOutOfBoundsException") hown (tableOf []) { startPc := 0, endPc := 9, handlerPc := 12, catchType := 21 } (tableOf [(0, 9, 15, 23)]) hxt kx_p0 rfl (by decide) (hgw _ m_5_117) (va_Nw.use rfl (hG.2.2.2.1 ("java/lang/IndexOutOfBoundsException", "java/lang/IndexOutOfBoundsException") n_c3)) hce hcv hcl ?_
    refine W.eq (g2 := F0 m 12 ls [.ref q9]) rfl ?_
    refine lv_astore_n (lv' := [(3, .ref q9), (0, .ref h0), (1, .int p0), (2, .ref h1)]) hx hb dL_death_12 rfl hl (by decide) rfl (fun ls hl => ?_)
    refine lv_iconst (v := 1) hx hb dL_death_13 (by decide) ?_
    have hP9 := hP.sub (ws' := []) [] rfl
    have hD9 := hD.sub (ws' := []) [] (by decide) rfl
    exact vx_ret (kq_iret (v := 1) hx hb hr hlocks hS rfl (Or.inl ⟨c_1, rfl, rfl⟩) hP9 hD9 (Nat.le_of_ble_eq_true rfl) (Nat.le_of_ble_eq_true rfl) dL_death_14)
  · skip
    refine vx_catch (name := "java/lang/IndexOutOfBoundsException") hown (tableOf []) { startPc := 0, endPc := 9, handlerPc := 12, catchType := 21 } (tableOf [(0, 9, 15, 23)]) hxt kx_p0 rfl (by decide) (hgw _ m_5_117) (va_Nw.use rfl (hG.2.2.2.1 ("java/lang/IndexOutOfBoundsException", "java/lang/IndexOutOfBoundsException") n_c3)) hce hcv hcl ?_
    refine W.eq (g2 := F0 m 12 ls [.ref q9]) rfl ?_
    refine lv_astore_n (lv' := [(3, .ref q9), (0, .ref h0), (1, .int p0), (2, .ref h1)]) hx hb dL_death_12 rfl hl (by decide) rfl (fun ls hl => ?_)
    refine lv_iconst (v := 1) hx hb dL_death_13 (by decide) ?_
    have hP9 := hP.sub (ws' := []) [] rfl
    have hD9 := hD.sub (ws' := []) [] (by decide) rfl
    exact vx_ret (kq_iret (v := 1) hx hb hr hlocks hS rfl (Or.inr (⟨c_2, rfl, rfl⟩)) hP9 hD9 (Nat.le_of_ble_eq_true rfl) (Nat.le_of_ble_eq_true rfl) dL_death_14)
set_option maxHeartbeats 4000000 in
set_option maxRecDepth 100000 in
theorem c_X18_failsPerson (l : Launch) (hfl : l.stackTraces = false) (D : va_G) (dA : Nat → ClassId) (tE tC : Nat) (h0 : Nat) (p0 : Int32) (h1 : Nat) (h2 : Nat) (h3 : Nat) (h4 : Nat) (h5 : Nat) (h6 : Nat) (h7 : Nat) (h8 : Nat) (h9 : Nat) (h10 : Nat) (h11 : Nat) (h12 : Nat) (h13 : Nat) (h14 : Nat) (h15 : Nat) (h16 : Nat) (h17 : Nat) (h18 : Nat) : Ct l D dA tE tC yX18_failsPerson (Cond.code yX18_failsPerson cX18_failsPerson 2 (some .boolean) :: gW) ({ frames := 2, cells := 0, slots := 0, locals := 43 } : Room) [.ref h0, .int p0] [(h0, .inr (22, [.int 0, .ref h1, .int 0, .ref h2, .ref h3, .ref h4, .int 0, .int 0, .int 0, .ref h5, .int 0, .ref h6, .int 0, .int 0, .ref h7, .ref h8, .ref h9, .ref h10, .ref h11, .ref h12, .int 0, .ref h13, .int 0, .ref h14, .ref h15, .ref h16, .ref h17, .ref h18])), (h2, .inr (3, [.int 0, .ref tE, .int 0]))] (fun v w1 => (p0.toInt < 0 ∧ v = some (.int 1) ∧ w1 = [(h2, .inr (3, [.int 0, .ref tE, .int 0])), (h0, .inr (22, [.int 1, .ref h1, .int 0, .ref h2, .ref h3, .ref h4, .int 0, .int 0, .int 0, .ref h5, .int 0, .ref h6, .int 0, .int 0, .ref h7, .ref h8, .ref h9, .ref h10, .ref h11, .ref h12, .int 0, .ref h13, .int 0, .ref h14, .ref h15, .ref h16, .ref h17, .ref h18]))]) ∨ (¬ p0.toInt < 0 ∧ v = some (.int 1) ∧ w1 = [(h2, .inr (3, [.int 0, .ref tE, .int 0])), (h0, .inr (22, [.int 1, .ref h1, .int 0, .ref h2, .ref h3, .ref h4, .int 0, .int 0, .int 0, .ref h5, .int 0, .ref h6, .int 0, .int 0, .ref h7, .ref h8, .ref h9, .ref h10, .ref h11, .ref h12, .int 0, .ref h13, .int 0, .ref h14, .ref h15, .ref h16, .ref h17, .ref h18]))])) 0 0 := by
  refine Ct_of (by decide) (Nat.le_of_ble_eq_true rfl) ?_
  intro p e s m below meth c hx hb hr hml hown hnm hlocks hgw hK A hG hA hP hD ls hl
  have hl : lv_has ls 2 [(0, .ref h0), (1, .int p0)] := hl
  have hS : va_S A s.heap s.heap [] := va_S.rf
  refine lv_aload_n hx hb dX18_failsPerson_0 rfl (lv_at hl 0 rfl) ?_
  refine lv_aload_n hx hb dX18_failsPerson_1 rfl (lv_at hl 0 rfl) ?_
  refine lv_iload_n hx hb dX18_failsPerson_2 rfl (lv_at hl 1 rfl) ?_
  refine kq_V (q0 := 0) (As := [.int p0]) (rest := [.ref h0]) (wr := []) hx hb hml hown hgw hK hG hA hP hD hS (c_X18_isPerson l hfl D dA tE tC h0 p0 h1 h2 h3 h4 h5 h6 h7 h8 h9 h10 h11 h12 h13 h14 h15 h16 h17 h18) m_11_93 m_11_95 m_s_80 m_1_15 m_11_96 hd_X18_isPerson rfl rfl ⟨(Nat.le_of_ble_eq_true rfl), (Nat.le_of_ble_eq_true rfl)⟩ [0, 1] [] rfl rfl rfl rfl (by decide) rfl rfl rfl hl.1 rfl (Nat.le_of_ble_eq_true rfl) dX18_failsPerson_3 ⟨(Nat.le_of_ble_eq_true rfl), (Nat.le_of_ble_eq_true rfl)⟩ (fun v w1 H locs hQ hP hD hS => ?_)
  rcases hQ with ⟨c_1, rfl, rfl⟩ | ⟨c_2, rfl, rfl⟩
  · skip
    refine W.eq (g2 := F0 m 6 ls [.int 0, .ref h0]) rfl ?_
    have hP : va_P D vwCl [(h0, .inr (22, [.int 0, .ref h1, .int 0, .ref h2, .ref h3, .ref h4, .int 0, .int 0, .int 0, .ref h5, .int 0, .ref h6, .int 0, .int 0, .ref h7, .ref h8, .ref h9, .ref h10, .ref h11, .ref h12, .int 0, .ref h13, .int 0, .ref h14, .ref h15, .ref h16, .ref h17, .ref h18])), (h2, .inr (3, [.int 0, .ref tE, .int 0]))] H := hP
    have hD : va_D A [(h0, .inr (22, [.int 0, .ref h1, .int 0, .ref h2, .ref h3, .ref h4, .int 0, .int 0, .int 0, .ref h5, .int 0, .ref h6, .int 0, .int 0, .ref h7, .ref h8, .ref h9, .ref h10, .ref h11, .ref h12, .int 0, .ref h13, .int 0, .ref h14, .ref h15, .ref h16, .ref h17, .ref h18])), (h2, .inr (3, [.int 0, .ref tE, .int 0]))] := hD
    refine lv_if_eq (tgt := 13) hx hb dX18_failsPerson_6 (by decide) (fun _ => ?_) (fun h => absurd (by decide +kernel) h)
    refine lv_iconst (v := 1) hx hb dX18_failsPerson_13 (by decide) ?_
    refine kq_V (q0 := 0) (As := [.int 1]) (rest := []) (wr := [(h2, .inr (3, [.int 0, .ref tE, .int 0]))]) hx hb hml hown hgw hK hG hA hP hD hS (c_X18_fails l hfl D dA tE tC h0 h1 h2 h3 h4 h5 h6 h7 h8 h9 h10 h11 h12 h13 h14 h15 h16 h17 h18) m_10_93 m_10_95 m_s_61 m_1_15 m_10_96 hd_X18_fails rfl rfl ⟨(Nat.le_of_ble_eq_true rfl), (Nat.le_of_ble_eq_true rfl)⟩ [0] [1] rfl rfl rfl rfl (by decide) rfl rfl rfl hl.1 rfl (Nat.le_of_ble_eq_true rfl) dX18_failsPerson_14 ⟨(Nat.le_of_ble_eq_true rfl), (Nat.le_of_ble_eq_true rfl)⟩ (fun v w1 H locs hQ hP hD hS => ?_)
    obtain ⟨rfl, rfl⟩ := hQ
    refine W.eq (g2 := F0 m 17 ls [.int 1]) rfl ?_
    have hP : va_P D vwCl [(h2, .inr (3, [.int 0, .ref tE, .int 0])), (h0, .inr (22, [.int 1, .ref h1, .int 0, .ref h2, .ref h3, .ref h4, .int 0, .int 0, .int 0, .ref h5, .int 0, .ref h6, .int 0, .int 0, .ref h7, .ref h8, .ref h9, .ref h10, .ref h11, .ref h12, .int 0, .ref h13, .int 0, .ref h14, .ref h15, .ref h16, .ref h17, .ref h18]))] H := hP
    have hD : va_D A [(h2, .inr (3, [.int 0, .ref tE, .int 0])), (h0, .inr (22, [.int 1, .ref h1, .int 0, .ref h2, .ref h3, .ref h4, .int 0, .int 0, .int 0, .ref h5, .int 0, .ref h6, .int 0, .int 0, .ref h7, .ref h8, .ref h9, .ref h10, .ref h11, .ref h12, .int 0, .ref h13, .int 0, .ref h14, .ref h15, .ref h16, .ref h17, .ref h18]))] := hD
    have hP9 := hP.sub (ws' := [(h2, .inr (3, [.int 0, .ref tE, .int 0])), (h0, .inr (22, [.int 1, .ref h1, .int 0, .ref h2, .ref h3, .ref h4, .int 0, .int 0, .int 0, .ref h5, .int 0, .ref h6, .int 0, .int 0, .ref h7, .ref h8, .ref h9, .ref h10, .ref h11, .ref h12, .int 0, .ref h13, .int 0, .ref h14, .ref h15, .ref h16, .ref h17, .ref h18]))]) [0, 1] rfl
    have hD9 := hD.sub (ws' := [(h2, .inr (3, [.int 0, .ref tE, .int 0])), (h0, .inr (22, [.int 1, .ref h1, .int 0, .ref h2, .ref h3, .ref h4, .int 0, .int 0, .int 0, .ref h5, .int 0, .ref h6, .int 0, .int 0, .ref h7, .ref h8, .ref h9, .ref h10, .ref h11, .ref h12, .int 0, .ref h13, .int 0, .ref h14, .ref h15, .ref h16, .ref h17, .ref h18]))]) [0, 1] (by decide) rfl
    exact (kq_iret (v := 1) hx hb hr hlocks hS rfl (Or.inl ⟨c_1, rfl, rfl⟩) hP9 hD9 (Nat.le_of_ble_eq_true rfl) (Nat.le_of_ble_eq_true rfl) dX18_failsPerson_17)
  · skip
    refine W.eq (g2 := F0 m 6 ls [.int 0, .ref h0]) rfl ?_
    have hP : va_P D vwCl [(h0, .inr (22, [.int 0, .ref h1, .int 0, .ref h2, .ref h3, .ref h4, .int 0, .int 0, .int 0, .ref h5, .int 0, .ref h6, .int 0, .int 0, .ref h7, .ref h8, .ref h9, .ref h10, .ref h11, .ref h12, .int 0, .ref h13, .int 0, .ref h14, .ref h15, .ref h16, .ref h17, .ref h18])), (h2, .inr (3, [.int 0, .ref tE, .int 0]))] H := hP
    have hD : va_D A [(h0, .inr (22, [.int 0, .ref h1, .int 0, .ref h2, .ref h3, .ref h4, .int 0, .int 0, .int 0, .ref h5, .int 0, .ref h6, .int 0, .int 0, .ref h7, .ref h8, .ref h9, .ref h10, .ref h11, .ref h12, .int 0, .ref h13, .int 0, .ref h14, .ref h15, .ref h16, .ref h17, .ref h18])), (h2, .inr (3, [.int 0, .ref tE, .int 0]))] := hD
    refine lv_if_eq (tgt := 13) hx hb dX18_failsPerson_6 (by decide) (fun _ => ?_) (fun h => absurd (by decide +kernel) h)
    refine lv_iconst (v := 1) hx hb dX18_failsPerson_13 (by decide) ?_
    refine kq_V (q0 := 0) (As := [.int 1]) (rest := []) (wr := [(h2, .inr (3, [.int 0, .ref tE, .int 0]))]) hx hb hml hown hgw hK hG hA hP hD hS (c_X18_fails l hfl D dA tE tC h0 h1 h2 h3 h4 h5 h6 h7 h8 h9 h10 h11 h12 h13 h14 h15 h16 h17 h18) m_10_93 m_10_95 m_s_61 m_1_15 m_10_96 hd_X18_fails rfl rfl ⟨(Nat.le_of_ble_eq_true rfl), (Nat.le_of_ble_eq_true rfl)⟩ [0] [1] rfl rfl rfl rfl (by decide) rfl rfl rfl hl.1 rfl (Nat.le_of_ble_eq_true rfl) dX18_failsPerson_14 ⟨(Nat.le_of_ble_eq_true rfl), (Nat.le_of_ble_eq_true rfl)⟩ (fun v w1 H locs hQ hP hD hS => ?_)
    obtain ⟨rfl, rfl⟩ := hQ
    refine W.eq (g2 := F0 m 17 ls [.int 1]) rfl ?_
    have hP : va_P D vwCl [(h2, .inr (3, [.int 0, .ref tE, .int 0])), (h0, .inr (22, [.int 1, .ref h1, .int 0, .ref h2, .ref h3, .ref h4, .int 0, .int 0, .int 0, .ref h5, .int 0, .ref h6, .int 0, .int 0, .ref h7, .ref h8, .ref h9, .ref h10, .ref h11, .ref h12, .int 0, .ref h13, .int 0, .ref h14, .ref h15, .ref h16, .ref h17, .ref h18]))] H := hP
    have hD : va_D A [(h2, .inr (3, [.int 0, .ref tE, .int 0])), (h0, .inr (22, [.int 1, .ref h1, .int 0, .ref h2, .ref h3, .ref h4, .int 0, .int 0, .int 0, .ref h5, .int 0, .ref h6, .int 0, .int 0, .ref h7, .ref h8, .ref h9, .ref h10, .ref h11, .ref h12, .int 0, .ref h13, .int 0, .ref h14, .ref h15, .ref h16, .ref h17, .ref h18]))] := hD
    have hP9 := hP.sub (ws' := [(h2, .inr (3, [.int 0, .ref tE, .int 0])), (h0, .inr (22, [.int 1, .ref h1, .int 0, .ref h2, .ref h3, .ref h4, .int 0, .int 0, .int 0, .ref h5, .int 0, .ref h6, .int 0, .int 0, .ref h7, .ref h8, .ref h9, .ref h10, .ref h11, .ref h12, .int 0, .ref h13, .int 0, .ref h14, .ref h15, .ref h16, .ref h17, .ref h18]))]) [0, 1] rfl
    have hD9 := hD.sub (ws' := [(h2, .inr (3, [.int 0, .ref tE, .int 0])), (h0, .inr (22, [.int 1, .ref h1, .int 0, .ref h2, .ref h3, .ref h4, .int 0, .int 0, .int 0, .ref h5, .int 0, .ref h6, .int 0, .int 0, .ref h7, .ref h8, .ref h9, .ref h10, .ref h11, .ref h12, .int 0, .ref h13, .int 0, .ref h14, .ref h15, .ref h16, .ref h17, .ref h18]))]) [0, 1] (by decide) rfl
    exact (kq_iret (v := 1) hx hb hr hlocks hS rfl (Or.inr (⟨c_2, rfl, rfl⟩)) hP9 hD9 (Nat.le_of_ble_eq_true rfl) (Nat.le_of_ble_eq_true rfl) dX18_failsPerson_17)
set_option maxHeartbeats 4000000 in
set_option maxRecDepth 100000 in
theorem c_X18_death (l : Launch) (hfl : l.stackTraces = false) (D : va_G) (dA : Nat → ClassId) (tE tC : Nat) (h0 : Nat) (p0 : Int32) (h1 : Nat) (h2 : Nat) (h3 : Nat) (h4 : Nat) (h5 : Nat) (h6 : Nat) (h7 : Nat) (h8 : Nat) (h9 : Nat) (h10 : Nat) (h11 : Nat) (h12 : Nat) (h13 : Nat) (h14 : Nat) (h15 : Nat) (h16 : Nat) (h17 : Nat) (h18 : Nat) : Ct l D dA tE tC yX18_death (Cond.code yX18_death cX18_death 5 (some .int) :: gW) ({ frames := 3, cells := 0, slots := 0, locals := 64 } : Room) [.ref h0, .int p0] [(h0, .inr (22, [.int 0, .ref h1, .int 0, .ref h2, .ref h3, .ref h4, .int 0, .int 0, .int 0, .ref h5, .int 0, .ref h6, .int 0, .int 0, .ref h7, .ref h8, .ref h9, .ref h10, .ref h11, .ref h12, .int 0, .ref h13, .int 0, .ref h14, .ref h15, .ref h16, .ref h17, .ref h18])), (h2, .inr (3, [.int 0, .ref tE, .int 0]))] (fun v w1 => (p0.toInt < 0 ∧ v = some (.int 0) ∧ w1 = [(h0, .inr (22, [.int 1, .ref h1, .int 0, .ref h2, .ref h3, .ref h4, .int 0, .int 0, .int 0, .ref h5, .int 0, .ref h6, .int 0, .int 0, .ref h7, .ref h8, .ref h9, .ref h10, .ref h11, .ref h12, .int 0, .ref h13, .int 0, .ref h14, .ref h15, .ref h16, .ref h17, .ref h18]))]) ∨ (¬ p0.toInt < 0 ∧ v = some (.int 0) ∧ w1 = [(h0, .inr (22, [.int 1, .ref h1, .int 0, .ref h2, .ref h3, .ref h4, .int 0, .int 0, .int 0, .ref h5, .int 0, .ref h6, .int 0, .int 0, .ref h7, .ref h8, .ref h9, .ref h10, .ref h11, .ref h12, .int 0, .ref h13, .int 0, .ref h14, .ref h15, .ref h16, .ref h17, .ref h18]))])) 0 0 := by
  refine Ct_of (by decide) (Nat.le_of_ble_eq_true rfl) ?_
  intro p e s m below meth c hx hb hr hml hown hnm hlocks hgw hK A hG hA hP hD ls hl
  have hl : lv_has ls 5 [(0, .ref h0), (1, .int p0)] := hl
  have hS : va_S A s.heap s.heap [] := va_S.rf
  refine lv_aload_n hx hb dX18_death_0 rfl (lv_at hl 0 rfl) ?_
  refine lv_iload_n hx hb dX18_death_1 rfl (lv_at hl 1 rfl) ?_
  refine kq_V (q0 := 0) (As := [.int p0]) (rest := []) (wr := []) hx hb hml hown hgw hK hG hA hP hD hS (c_X18_failsPerson l hfl D dA tE tC h0 p0 h1 h2 h3 h4 h5 h6 h7 h8 h9 h10 h11 h12 h13 h14 h15 h16 h17 h18) m_12_6 m_12_8 m_s_84 m_1_15 m_12_9 hd_X18_failsPerson rfl rfl ⟨(Nat.le_of_ble_eq_true rfl), (Nat.le_of_ble_eq_true rfl)⟩ [0, 1] [] rfl rfl rfl rfl (by decide) rfl rfl rfl hl.1 rfl (Nat.le_of_ble_eq_true rfl) dX18_death_2 ⟨(Nat.le_of_ble_eq_true rfl), (Nat.le_of_ble_eq_true rfl)⟩ (fun v w1 H locs hQ hP hD hS => ?_)
  rcases hQ with ⟨c_1, rfl, rfl⟩ | ⟨c_2, rfl, rfl⟩
  · skip
    refine W.eq (g2 := F0 m 5 ls [.int 1]) rfl ?_
    have hP : va_P D vwCl [(h2, .inr (3, [.int 0, .ref tE, .int 0])), (h0, .inr (22, [.int 1, .ref h1, .int 0, .ref h2, .ref h3, .ref h4, .int 0, .int 0, .int 0, .ref h5, .int 0, .ref h6, .int 0, .int 0, .ref h7, .ref h8, .ref h9, .ref h10, .ref h11, .ref h12, .int 0, .ref h13, .int 0, .ref h14, .ref h15, .ref h16, .ref h17, .ref h18]))] H := hP
    have hD : va_D A [(h2, .inr (3, [.int 0, .ref tE, .int 0])), (h0, .inr (22, [.int 1, .ref h1, .int 0, .ref h2, .ref h3, .ref h4, .int 0, .int 0, .int 0, .ref h5, .int 0, .ref h6, .int 0, .int 0, .ref h7, .ref h8, .ref h9, .ref h10, .ref h11, .ref h12, .int 0, .ref h13, .int 0, .ref h14, .ref h15, .ref h16, .ref h17, .ref h18]))] := hD
    refine lv_if_ne (tgt := 37) hx hb dX18_death_5 (by decide) (fun _ => ?_) (fun h => absurd h (by decide +kernel))
    refine lv_iconst (v := 0) hx hb dX18_death_37 (by decide) ?_
    have hP9 := hP.sub (ws' := [(h0, .inr (22, [.int 1, .ref h1, .int 0, .ref h2, .ref h3, .ref h4, .int 0, .int 0, .int 0, .ref h5, .int 0, .ref h6, .int 0, .int 0, .ref h7, .ref h8, .ref h9, .ref h10, .ref h11, .ref h12, .int 0, .ref h13, .int 0, .ref h14, .ref h15, .ref h16, .ref h17, .ref h18]))]) [1] rfl
    have hD9 := hD.sub (ws' := [(h0, .inr (22, [.int 1, .ref h1, .int 0, .ref h2, .ref h3, .ref h4, .int 0, .int 0, .int 0, .ref h5, .int 0, .ref h6, .int 0, .int 0, .ref h7, .ref h8, .ref h9, .ref h10, .ref h11, .ref h12, .int 0, .ref h13, .int 0, .ref h14, .ref h15, .ref h16, .ref h17, .ref h18]))]) [1] (by decide) rfl
    exact (kq_iret (v := 0) hx hb hr hlocks hS rfl (Or.inl ⟨c_1, rfl, rfl⟩) hP9 hD9 (Nat.le_of_ble_eq_true rfl) (Nat.le_of_ble_eq_true rfl) dX18_death_38)
  · skip
    refine W.eq (g2 := F0 m 5 ls [.int 1]) rfl ?_
    have hP : va_P D vwCl [(h2, .inr (3, [.int 0, .ref tE, .int 0])), (h0, .inr (22, [.int 1, .ref h1, .int 0, .ref h2, .ref h3, .ref h4, .int 0, .int 0, .int 0, .ref h5, .int 0, .ref h6, .int 0, .int 0, .ref h7, .ref h8, .ref h9, .ref h10, .ref h11, .ref h12, .int 0, .ref h13, .int 0, .ref h14, .ref h15, .ref h16, .ref h17, .ref h18]))] H := hP
    have hD : va_D A [(h2, .inr (3, [.int 0, .ref tE, .int 0])), (h0, .inr (22, [.int 1, .ref h1, .int 0, .ref h2, .ref h3, .ref h4, .int 0, .int 0, .int 0, .ref h5, .int 0, .ref h6, .int 0, .int 0, .ref h7, .ref h8, .ref h9, .ref h10, .ref h11, .ref h12, .int 0, .ref h13, .int 0, .ref h14, .ref h15, .ref h16, .ref h17, .ref h18]))] := hD
    refine lv_if_ne (tgt := 37) hx hb dX18_death_5 (by decide) (fun _ => ?_) (fun h => absurd h (by decide +kernel))
    refine lv_iconst (v := 0) hx hb dX18_death_37 (by decide) ?_
    have hP9 := hP.sub (ws' := [(h0, .inr (22, [.int 1, .ref h1, .int 0, .ref h2, .ref h3, .ref h4, .int 0, .int 0, .int 0, .ref h5, .int 0, .ref h6, .int 0, .int 0, .ref h7, .ref h8, .ref h9, .ref h10, .ref h11, .ref h12, .int 0, .ref h13, .int 0, .ref h14, .ref h15, .ref h16, .ref h17, .ref h18]))]) [1] rfl
    have hD9 := hD.sub (ws' := [(h0, .inr (22, [.int 1, .ref h1, .int 0, .ref h2, .ref h3, .ref h4, .int 0, .int 0, .int 0, .ref h5, .int 0, .ref h6, .int 0, .int 0, .ref h7, .ref h8, .ref h9, .ref h10, .ref h11, .ref h12, .int 0, .ref h13, .int 0, .ref h14, .ref h15, .ref h16, .ref h17, .ref h18]))]) [1] (by decide) rfl
    exact (kq_iret (v := 0) hx hb hr hlocks hS rfl (Or.inr (⟨c_2, rfl, rfl⟩)) hP9 hD9 (Nat.le_of_ble_eq_true rfl) (Nat.le_of_ble_eq_true rfl) dX18_death_38)
set_option maxHeartbeats 4000000 in
set_option maxRecDepth 100000 in
theorem c_X11_marry (l : Launch) (hfl : l.stackTraces = false) (D : va_G) (dA : Nat → ClassId) (tE tC : Nat) (h0 : Nat) (p0 : Int32) (p1 : Int32) (h1 : Nat) (h2 : Nat) (h3 : Nat) (h4 : Nat) (h5 : Nat) (h6 : Nat) (h7 : Nat) (h8 : Nat) (h9 : Nat) (h10 : Nat) (h11 : Nat) (h12 : Nat) (h13 : Nat) (h14 : Nat) (h15 : Nat) (h16 : Nat) (h17 : Nat) (h18 : Nat) : Cx l D dA tE tC yX11_marry (Cond.code yX11_marry cX11_marry 3 (some .boolean) :: gW) ({ frames := 7, cells := 1, slots := 6, locals := 103 } : Room) [.ref h0, .int p0, .int p1] [(h0, .inr (15, [.ref h1, .ref h2, .ref h3, .ref h4, .ref h5, .ref h6, .ref h7, .ref h8, .ref h9, .ref h10, .ref h11, .int 0, .int 0, .int 0])), (h6, .inr (9, [.ref h12, .ref h13, .ref h14, .ref h15, .ref h16, .ref h17, .ref h18, .int 0, .int 0]))] (fun v w1 => False) (fun E => (p0.toInt < 0 ∧ E = "java/lang/IndexOutOfBoundsException") ∨ (¬ p0.toInt < 0 ∧ E = "java/lang/IndexOutOfBoundsException")) 1 6 := by
  refine Cx_of (by decide) (Nat.le_of_ble_eq_true rfl) ?_
  intro p e s m below meth c hx hb hr hml hown hnm hlocks hgw hK A hG hA hP hD ls hl hxt
  have hl : lv_has ls 3 [(0, .ref h0), (1, .int p0), (2, .int p1)] := hl
  have hS : va_S A s.heap s.heap [] := va_S.rf
  refine lv_aload_n hx hb dX11_marry_0 rfl (lv_at hl 0 rfl) ?_
  refine lv_iload_n hx hb dX11_marry_1 rfl (lv_at hl 1 rfl) ?_
  refine kx_V (q0 := 0) (As := [.int p0]) (rest := []) (wr := []) hx hb hml hown hgw hK hG hA hP hD hS (c_X11_needPerson l hfl D dA tE tC h0 p0 h1 h2 h3 h4 h5 h6 h7 h8 h9 h10 h11 h12 h13 h14 h15 h16 h17 h18) m_6_99 m_6_101 m_s_34 m_1_1 m_6_102 hd_X11_needPerson rfl rfl ⟨(Nat.le_of_ble_eq_true rfl), (Nat.le_of_ble_eq_true rfl)⟩ [0, 1] [] rfl rfl rfl rfl (by decide) rfl rfl rfl hl.1 rfl (Nat.le_of_ble_eq_true rfl) dX11_marry_2 ⟨(Nat.le_of_ble_eq_true rfl), (Nat.le_of_ble_eq_true rfl)⟩ (fun v w1 H locs hQ hP hD hS => hQ.elim) (fun E ce q9 H locs hX hP hD hS hce hcv hcl => ?_)
  rcases hX with ⟨c_1, rfl⟩ | ⟨c_2, rfl⟩
  · skip
    exact kx_out hxt hlocks hS hce hcv hcl (Or.inl ⟨c_1, rfl⟩) (Nat.le_of_ble_eq_true rfl) (Nat.le_of_ble_eq_true rfl)
  · skip
    exact kx_out hxt hlocks hS hce hcv hcl (Or.inr (⟨c_2, rfl⟩)) (Nat.le_of_ble_eq_true rfl) (Nat.le_of_ble_eq_true rfl)
set_option maxHeartbeats 4000000 in
set_option maxRecDepth 100000 in
theorem c_L_marry (l : Launch) (hfl : l.stackTraces = false) (D : va_G) (dA : Nat → ClassId) (tE tC : Nat) (h0 : Nat) (p0 : Int32) (p1 : Int32) (h1 : Nat) (h2 : Nat) (h3 : Nat) (h4 : Nat) (h5 : Nat) (h6 : Nat) (h7 : Nat) (h8 : Nat) (h9 : Nat) (h10 : Nat) (h11 : Nat) (h12 : Nat) (h13 : Nat) (h14 : Nat) (h15 : Nat) (h16 : Nat) (h17 : Nat) (h18 : Nat) (h19 : Nat) : Cx l D dA tE tC yL_marry (Cond.codeWith yL_marry cL_marry 5 (some .int) [(0, 17, 20, 21), (0, 17, 24, 23)] :: gW) ({ frames := 8, cells := 1, slots := 6, locals := 125 } : Room) [.ref h0, .int p0, .int p1, .ref h1] [(h0, .inr (15, [.ref h2, .ref h3, .ref h4, .ref h5, .ref h6, .ref h7, .ref h8, .ref h9, .ref h10, .ref h11, .ref h12, .int 0, .int 0, .int 0])), (h7, .inr (9, [.ref h13, .ref h14, .ref h15, .ref h16, .ref h17, .ref h18, .ref h19, .int 0, .int 0]))] (fun v w1 => (p0.toInt < 0 ∧ v = some (.int 1) ∧ w1 = []) ∨ (¬ p0.toInt < 0 ∧ v = some (.int 1) ∧ w1 = [])) (fun E => False) 1 6 := by
  refine Ch_of (by decide) (Nat.le_of_ble_eq_true rfl) ?_
  intro p e s m below meth c hx hb hr hml hown hnm hlocks hgw hK A hG hA hP hD ls hl hxt
  have hl : lv_has ls 5 [(0, .ref h0), (1, .int p0), (2, .int p1), (3, .ref h1)] := hl
  have hS : va_S A s.heap s.heap [] := va_S.rf
  refine lv_aload_n hx hb dL_marry_0 rfl (lv_at hl 3 rfl) ?_
  refine lv_iconst (v := 0) hx hb dL_marry_1 (by decide) ?_
  refine lv_aload_n hx hb dL_marry_2 rfl (lv_at hl 0 rfl) ?_
  refine lv_iload_n hx hb dL_marry_3 rfl (lv_at hl 1 rfl) ?_
  refine lv_iload_n hx hb dL_marry_4 rfl (lv_at hl 2 rfl) ?_
  refine kx_V (q0 := 0) (As := [.int p0, .int p1]) (rest := [.int 0, .ref h1]) (wr := []) hx hb hml hown hgw hK hG hA hP hD hS (c_X11_marry l hfl D dA tE tC h0 p0 p1 h2 h3 h4 h5 h6 h7 h8 h9 h10 h11 h12 h13 h14 h15 h16 h17 h18 h19) m_7_19 m_7_20 m_7_21 m_1_1 m_7_22 hd_X11_marry rfl rfl ⟨(Nat.le_of_ble_eq_true rfl), (Nat.le_of_ble_eq_true rfl)⟩ [0, 1] [] rfl rfl rfl rfl (by decide) rfl rfl rfl hl.1 rfl (Nat.le_of_ble_eq_true rfl) dL_marry_5 ⟨(Nat.le_of_ble_eq_true rfl), (Nat.le_of_ble_eq_true rfl)⟩ (fun v w1 H locs hQ hP hD hS => hQ.elim) (fun E ce q9 H locs hX hP hD hS hce hcv hcl => ?_)
  rcases hX with ⟨c_1, rfl⟩ | ⟨c_2, rfl⟩
  · skip
    refine vx_catch (name := "java/lang/IndexOutOfBoundsException") hown (tableOf []) { startPc := 0, endPc := 17, handlerPc := 20, catchType := 21 } (tableOf [(0, 17, 24, 23)]) hxt kx_p0 rfl (by decide) (hgw _ m_5_117) (va_Nw.use rfl (hG.2.2.2.1 ("java/lang/IndexOutOfBoundsException", "java/lang/IndexOutOfBoundsException") n_c3)) hce hcv hcl ?_
    refine W.eq (g2 := F0 m 20 ls [.ref q9]) rfl ?_
    refine lv_astore (lv' := [(4, .ref q9), (0, .ref h0), (1, .int p0), (2, .int p1), (3, .ref h1)]) hx hb dL_marry_20 hl (by decide) rfl (fun ls hl => ?_)
    refine lv_iconst (v := 1) hx hb dL_marry_22 (by decide) ?_
    have hP9 := hP.sub (ws' := []) [] rfl
    have hD9 := hD.sub (ws' := []) [] (by decide) rfl
    exact vx_ret (kq_iret (v := 1) hx hb hr hlocks hS rfl (Or.inl ⟨c_1, rfl, rfl⟩) hP9 hD9 (Nat.le_of_ble_eq_true rfl) (Nat.le_of_ble_eq_true rfl) dL_marry_23)
  · skip
    refine vx_catch (name := "java/lang/IndexOutOfBoundsException") hown (tableOf []) { startPc := 0, endPc := 17, handlerPc := 20, catchType := 21 } (tableOf [(0, 17, 24, 23)]) hxt kx_p0 rfl (by decide) (hgw _ m_5_117) (va_Nw.use rfl (hG.2.2.2.1 ("java/lang/IndexOutOfBoundsException", "java/lang/IndexOutOfBoundsException") n_c3)) hce hcv hcl ?_
    refine W.eq (g2 := F0 m 20 ls [.ref q9]) rfl ?_
    refine lv_astore (lv' := [(4, .ref q9), (0, .ref h0), (1, .int p0), (2, .int p1), (3, .ref h1)]) hx hb dL_marry_20 hl (by decide) rfl (fun ls hl => ?_)
    refine lv_iconst (v := 1) hx hb dL_marry_22 (by decide) ?_
    have hP9 := hP.sub (ws' := []) [] rfl
    have hD9 := hD.sub (ws' := []) [] (by decide) rfl
    exact vx_ret (kq_iret (v := 1) hx hb hr hlocks hS rfl (Or.inr (⟨c_2, rfl, rfl⟩)) hP9 hD9 (Nat.le_of_ble_eq_true rfl) (Nat.le_of_ble_eq_true rfl) dL_marry_23)
set_option maxHeartbeats 4000000 in
set_option maxRecDepth 100000 in
theorem c_X18_marry (l : Launch) (hfl : l.stackTraces = false) (D : va_G) (dA : Nat → ClassId) (tE tC : Nat) (h0 : Nat) (p0 : Int32) (p1 : Int32) (h1 : Nat) (h2 : Nat) (h3 : Nat) (h4 : Nat) (h5 : Nat) (h6 : Nat) (h7 : Nat) (h8 : Nat) (h9 : Nat) (h10 : Nat) (h11 : Nat) (h12 : Nat) (h13 : Nat) (h14 : Nat) (h15 : Nat) (h16 : Nat) (h17 : Nat) (h18 : Nat) : Ct l D dA tE tC yX18_marry (Cond.code yX18_marry cX18_marry 6 (some .boolean) :: gW) ({ frames := 2, cells := 0, slots := 0, locals := 43 } : Room) [.ref h0, .int p0, .int p1] [(h0, .inr (22, [.int 0, .ref h1, .int 0, .ref h2, .ref h3, .ref h4, .int 0, .int 0, .int 0, .ref h5, .int 0, .ref h6, .int 0, .int 0, .ref h7, .ref h8, .ref h9, .ref h10, .ref h11, .ref h12, .int 0, .ref h13, .int 0, .ref h14, .ref h15, .ref h16, .ref h17, .ref h18])), (h2, .inr (3, [.int 0, .ref tE, .int 0]))] (fun v w1 => (p0.toInt < 0 ∧ v = some (.int 0) ∧ w1 = [(h0, .inr (22, [.int 1, .ref h1, .int 0, .ref h2, .ref h3, .ref h4, .int 0, .int 0, .int 0, .ref h5, .int 0, .ref h6, .int 0, .int 0, .ref h7, .ref h8, .ref h9, .ref h10, .ref h11, .ref h12, .int 0, .ref h13, .int 0, .ref h14, .ref h15, .ref h16, .ref h17, .ref h18]))]) ∨ (¬ p0.toInt < 0 ∧ v = some (.int 0) ∧ w1 = [(h0, .inr (22, [.int 1, .ref h1, .int 0, .ref h2, .ref h3, .ref h4, .int 0, .int 0, .int 0, .ref h5, .int 0, .ref h6, .int 0, .int 0, .ref h7, .ref h8, .ref h9, .ref h10, .ref h11, .ref h12, .int 0, .ref h13, .int 0, .ref h14, .ref h15, .ref h16, .ref h17, .ref h18]))])) 0 0 := by
  refine Ct_of (by decide) (Nat.le_of_ble_eq_true rfl) ?_
  intro p e s m below meth c hx hb hr hml hown hnm hlocks hgw hK A hG hA hP hD ls hl
  have hl : lv_has ls 6 [(0, .ref h0), (1, .int p0), (2, .int p1)] := hl
  have hS : va_S A s.heap s.heap [] := va_S.rf
  refine lv_aload_n hx hb dX18_marry_0 rfl (lv_at hl 0 rfl) ?_
  refine lv_aload_n hx hb dX18_marry_1 rfl (lv_at hl 0 rfl) ?_
  refine lv_iload_n hx hb dX18_marry_2 rfl (lv_at hl 1 rfl) ?_
  refine kq_V (q0 := 0) (As := [.int p0]) (rest := [.ref h0]) (wr := []) hx hb hml hown hgw hK hG hA hP hD hS (c_X18_isPerson l hfl D dA tE tC h0 p0 h1 h2 h3 h4 h5 h6 h7 h8 h9 h10 h11 h12 h13 h14 h15 h16 h17 h18) m_11_93 m_11_95 m_s_80 m_1_15 m_11_96 hd_X18_isPerson rfl rfl ⟨(Nat.le_of_ble_eq_true rfl), (Nat.le_of_ble_eq_true rfl)⟩ [0, 1] [] rfl rfl rfl rfl (by decide) rfl rfl rfl hl.1 rfl (Nat.le_of_ble_eq_true rfl) dX18_marry_3 ⟨(Nat.le_of_ble_eq_true rfl), (Nat.le_of_ble_eq_true rfl)⟩ (fun v w1 H locs hQ hP hD hS => ?_)
  rcases hQ with ⟨c_1, rfl, rfl⟩ | ⟨c_2, rfl, rfl⟩
  · skip
    refine W.eq (g2 := F0 m 6 ls [.int 0, .ref h0]) rfl ?_
    have hP : va_P D vwCl [(h0, .inr (22, [.int 0, .ref h1, .int 0, .ref h2, .ref h3, .ref h4, .int 0, .int 0, .int 0, .ref h5, .int 0, .ref h6, .int 0, .int 0, .ref h7, .ref h8, .ref h9, .ref h10, .ref h11, .ref h12, .int 0, .ref h13, .int 0, .ref h14, .ref h15, .ref h16, .ref h17, .ref h18])), (h2, .inr (3, [.int 0, .ref tE, .int 0]))] H := hP
    have hD : va_D A [(h0, .inr (22, [.int 0, .ref h1, .int 0, .ref h2, .ref h3, .ref h4, .int 0, .int 0, .int 0, .ref h5, .int 0, .ref h6, .int 0, .int 0, .ref h7, .ref h8, .ref h9, .ref h10, .ref h11, .ref h12, .int 0, .ref h13, .int 0, .ref h14, .ref h15, .ref h16, .ref h17, .ref h18])), (h2, .inr (3, [.int 0, .ref tE, .int 0]))] := hD
    refine lv_if_eq (tgt := 21) hx hb dX18_marry_6 (by decide) (fun _ => ?_) (fun h => absurd (by decide +kernel) h)
    refine lv_iconst (v := 1) hx hb dX18_marry_21 (by decide) ?_
    refine kq_V (q0 := 0) (As := [.int 1]) (rest := []) (wr := [(h2, .inr (3, [.int 0, .ref tE, .int 0]))]) hx hb hml hown hgw hK hG hA hP hD hS (c_X18_fails l hfl D dA tE tC h0 h1 h2 h3 h4 h5 h6 h7 h8 h9 h10 h11 h12 h13 h14 h15 h16 h17 h18) m_10_93 m_10_95 m_s_61 m_1_15 m_10_96 hd_X18_fails rfl rfl ⟨(Nat.le_of_ble_eq_true rfl), (Nat.le_of_ble_eq_true rfl)⟩ [0] [1] rfl rfl rfl rfl (by decide) rfl rfl rfl hl.1 rfl (Nat.le_of_ble_eq_true rfl) dX18_marry_22 ⟨(Nat.le_of_ble_eq_true rfl), (Nat.le_of_ble_eq_true rfl)⟩ (fun v w1 H locs hQ hP hD hS => ?_)
    obtain ⟨rfl, rfl⟩ := hQ
    refine W.eq (g2 := F0 m 25 ls [.int 1]) rfl ?_
    have hP : va_P D vwCl [(h2, .inr (3, [.int 0, .ref tE, .int 0])), (h0, .inr (22, [.int 1, .ref h1, .int 0, .ref h2, .ref h3, .ref h4, .int 0, .int 0, .int 0, .ref h5, .int 0, .ref h6, .int 0, .int 0, .ref h7, .ref h8, .ref h9, .ref h10, .ref h11, .ref h12, .int 0, .ref h13, .int 0, .ref h14, .ref h15, .ref h16, .ref h17, .ref h18]))] H := hP
    have hD : va_D A [(h2, .inr (3, [.int 0, .ref tE, .int 0])), (h0, .inr (22, [.int 1, .ref h1, .int 0, .ref h2, .ref h3, .ref h4, .int 0, .int 0, .int 0, .ref h5, .int 0, .ref h6, .int 0, .int 0, .ref h7, .ref h8, .ref h9, .ref h10, .ref h11, .ref h12, .int 0, .ref h13, .int 0, .ref h14, .ref h15, .ref h16, .ref h17, .ref h18]))] := hD
    refine lv_if_eq (tgt := 30) hx hb dX18_marry_25 (by decide) (fun h => absurd h (by decide +kernel)) (fun _ => ?_)
    refine lv_iconst (v := 0) hx hb dX18_marry_28 (by decide) ?_
    have hP9 := hP.sub (ws' := [(h0, .inr (22, [.int 1, .ref h1, .int 0, .ref h2, .ref h3, .ref h4, .int 0, .int 0, .int 0, .ref h5, .int 0, .ref h6, .int 0, .int 0, .ref h7, .ref h8, .ref h9, .ref h10, .ref h11, .ref h12, .int 0, .ref h13, .int 0, .ref h14, .ref h15, .ref h16, .ref h17, .ref h18]))]) [1] rfl
    have hD9 := hD.sub (ws' := [(h0, .inr (22, [.int 1, .ref h1, .int 0, .ref h2, .ref h3, .ref h4, .int 0, .int 0, .int 0, .ref h5, .int 0, .ref h6, .int 0, .int 0, .ref h7, .ref h8, .ref h9, .ref h10, .ref h11, .ref h12, .int 0, .ref h13, .int 0, .ref h14, .ref h15, .ref h16, .ref h17, .ref h18]))]) [1] (by decide) rfl
    exact (kq_iret (v := 0) hx hb hr hlocks hS rfl (Or.inl ⟨c_1, rfl, rfl⟩) hP9 hD9 (Nat.le_of_ble_eq_true rfl) (Nat.le_of_ble_eq_true rfl) dX18_marry_29)
  · skip
    refine W.eq (g2 := F0 m 6 ls [.int 0, .ref h0]) rfl ?_
    have hP : va_P D vwCl [(h0, .inr (22, [.int 0, .ref h1, .int 0, .ref h2, .ref h3, .ref h4, .int 0, .int 0, .int 0, .ref h5, .int 0, .ref h6, .int 0, .int 0, .ref h7, .ref h8, .ref h9, .ref h10, .ref h11, .ref h12, .int 0, .ref h13, .int 0, .ref h14, .ref h15, .ref h16, .ref h17, .ref h18])), (h2, .inr (3, [.int 0, .ref tE, .int 0]))] H := hP
    have hD : va_D A [(h0, .inr (22, [.int 0, .ref h1, .int 0, .ref h2, .ref h3, .ref h4, .int 0, .int 0, .int 0, .ref h5, .int 0, .ref h6, .int 0, .int 0, .ref h7, .ref h8, .ref h9, .ref h10, .ref h11, .ref h12, .int 0, .ref h13, .int 0, .ref h14, .ref h15, .ref h16, .ref h17, .ref h18])), (h2, .inr (3, [.int 0, .ref tE, .int 0]))] := hD
    refine lv_if_eq (tgt := 21) hx hb dX18_marry_6 (by decide) (fun _ => ?_) (fun h => absurd (by decide +kernel) h)
    refine lv_iconst (v := 1) hx hb dX18_marry_21 (by decide) ?_
    refine kq_V (q0 := 0) (As := [.int 1]) (rest := []) (wr := [(h2, .inr (3, [.int 0, .ref tE, .int 0]))]) hx hb hml hown hgw hK hG hA hP hD hS (c_X18_fails l hfl D dA tE tC h0 h1 h2 h3 h4 h5 h6 h7 h8 h9 h10 h11 h12 h13 h14 h15 h16 h17 h18) m_10_93 m_10_95 m_s_61 m_1_15 m_10_96 hd_X18_fails rfl rfl ⟨(Nat.le_of_ble_eq_true rfl), (Nat.le_of_ble_eq_true rfl)⟩ [0] [1] rfl rfl rfl rfl (by decide) rfl rfl rfl hl.1 rfl (Nat.le_of_ble_eq_true rfl) dX18_marry_22 ⟨(Nat.le_of_ble_eq_true rfl), (Nat.le_of_ble_eq_true rfl)⟩ (fun v w1 H locs hQ hP hD hS => ?_)
    obtain ⟨rfl, rfl⟩ := hQ
    refine W.eq (g2 := F0 m 25 ls [.int 1]) rfl ?_
    have hP : va_P D vwCl [(h2, .inr (3, [.int 0, .ref tE, .int 0])), (h0, .inr (22, [.int 1, .ref h1, .int 0, .ref h2, .ref h3, .ref h4, .int 0, .int 0, .int 0, .ref h5, .int 0, .ref h6, .int 0, .int 0, .ref h7, .ref h8, .ref h9, .ref h10, .ref h11, .ref h12, .int 0, .ref h13, .int 0, .ref h14, .ref h15, .ref h16, .ref h17, .ref h18]))] H := hP
    have hD : va_D A [(h2, .inr (3, [.int 0, .ref tE, .int 0])), (h0, .inr (22, [.int 1, .ref h1, .int 0, .ref h2, .ref h3, .ref h4, .int 0, .int 0, .int 0, .ref h5, .int 0, .ref h6, .int 0, .int 0, .ref h7, .ref h8, .ref h9, .ref h10, .ref h11, .ref h12, .int 0, .ref h13, .int 0, .ref h14, .ref h15, .ref h16, .ref h17, .ref h18]))] := hD
    refine lv_if_eq (tgt := 30) hx hb dX18_marry_25 (by decide) (fun h => absurd h (by decide +kernel)) (fun _ => ?_)
    refine lv_iconst (v := 0) hx hb dX18_marry_28 (by decide) ?_
    have hP9 := hP.sub (ws' := [(h0, .inr (22, [.int 1, .ref h1, .int 0, .ref h2, .ref h3, .ref h4, .int 0, .int 0, .int 0, .ref h5, .int 0, .ref h6, .int 0, .int 0, .ref h7, .ref h8, .ref h9, .ref h10, .ref h11, .ref h12, .int 0, .ref h13, .int 0, .ref h14, .ref h15, .ref h16, .ref h17, .ref h18]))]) [1] rfl
    have hD9 := hD.sub (ws' := [(h0, .inr (22, [.int 1, .ref h1, .int 0, .ref h2, .ref h3, .ref h4, .int 0, .int 0, .int 0, .ref h5, .int 0, .ref h6, .int 0, .int 0, .ref h7, .ref h8, .ref h9, .ref h10, .ref h11, .ref h12, .int 0, .ref h13, .int 0, .ref h14, .ref h15, .ref h16, .ref h17, .ref h18]))]) [1] (by decide) rfl
    exact (kq_iret (v := 0) hx hb hr hlocks hS rfl (Or.inr (⟨c_2, rfl, rfl⟩)) hP9 hD9 (Nat.le_of_ble_eq_true rfl) (Nat.le_of_ble_eq_true rfl) dX18_marry_29)
set_option maxHeartbeats 4000000 in
set_option maxRecDepth 100000 in
theorem c_X11_lives (l : Launch) (hfl : l.stackTraces = false) (D : va_G) (dA : Nat → ClassId) (tE tC : Nat) (h0 : Nat) (p0 : Int32) (h1 : Nat) (h2 : Nat) (h3 : Nat) (h4 : Nat) (h5 : Nat) (h6 : Nat) (h7 : Nat) (h8 : Nat) (h9 : Nat) (h10 : Nat) (h11 : Nat) (h12 : Nat) (h13 : Nat) (h14 : Nat) (h15 : Nat) (h16 : Nat) (h17 : Nat) (h18 : Nat) : Cx l D dA tE tC yX11_lives (Cond.code yX11_lives cX11_lives 2 (some .boolean) :: gW) ({ frames := 7, cells := 1, slots := 6, locals := 103 } : Room) [.ref h0, .int p0] [(h0, .inr (15, [.ref h1, .ref h2, .ref h3, .ref h4, .ref h5, .ref h6, .ref h7, .ref h8, .ref h9, .ref h10, .ref h11, .int 0, .int 0, .int 0])), (h6, .inr (9, [.ref h12, .ref h13, .ref h14, .ref h15, .ref h16, .ref h17, .ref h18, .int 0, .int 0]))] (fun v w1 => False) (fun E => (p0.toInt < 0 ∧ E = "java/lang/IndexOutOfBoundsException") ∨ (¬ p0.toInt < 0 ∧ E = "java/lang/IndexOutOfBoundsException")) 1 6 := by
  refine Cx_of (by decide) (Nat.le_of_ble_eq_true rfl) ?_
  intro p e s m below meth c hx hb hr hml hown hnm hlocks hgw hK A hG hA hP hD ls hl hxt
  have hl : lv_has ls 2 [(0, .ref h0), (1, .int p0)] := hl
  have hS : va_S A s.heap s.heap [] := va_S.rf
  refine lv_aload_n hx hb dX11_lives_0 rfl (lv_at hl 0 rfl) ?_
  refine lv_iload_n hx hb dX11_lives_1 rfl (lv_at hl 1 rfl) ?_
  refine kx_V (q0 := 0) (As := [.int p0]) (rest := []) (wr := []) hx hb hml hown hgw hK hG hA hP hD hS (c_X11_needPerson l hfl D dA tE tC h0 p0 h1 h2 h3 h4 h5 h6 h7 h8 h9 h10 h11 h12 h13 h14 h15 h16 h17 h18) m_6_99 m_6_101 m_s_34 m_1_1 m_6_102 hd_X11_needPerson rfl rfl ⟨(Nat.le_of_ble_eq_true rfl), (Nat.le_of_ble_eq_true rfl)⟩ [0, 1] [] rfl rfl rfl rfl (by decide) rfl rfl rfl hl.1 rfl (Nat.le_of_ble_eq_true rfl) dX11_lives_2 ⟨(Nat.le_of_ble_eq_true rfl), (Nat.le_of_ble_eq_true rfl)⟩ (fun v w1 H locs hQ hP hD hS => hQ.elim) (fun E ce q9 H locs hX hP hD hS hce hcv hcl => ?_)
  rcases hX with ⟨c_1, rfl⟩ | ⟨c_2, rfl⟩
  · skip
    exact kx_out hxt hlocks hS hce hcv hcl (Or.inl ⟨c_1, rfl⟩) (Nat.le_of_ble_eq_true rfl) (Nat.le_of_ble_eq_true rfl)
  · skip
    exact kx_out hxt hlocks hS hce hcv hcl (Or.inr (⟨c_2, rfl⟩)) (Nat.le_of_ble_eq_true rfl) (Nat.le_of_ble_eq_true rfl)
set_option maxHeartbeats 4000000 in
set_option maxRecDepth 100000 in
theorem c_L_lives (l : Launch) (hfl : l.stackTraces = false) (D : va_G) (dA : Nat → ClassId) (tE tC : Nat) (h0 : Nat) (p0 : Int32) (h1 : Nat) (h2 : Nat) (h3 : Nat) (h4 : Nat) (h5 : Nat) (h6 : Nat) (h7 : Nat) (h8 : Nat) (h9 : Nat) (h10 : Nat) (h11 : Nat) (h12 : Nat) (h13 : Nat) (h14 : Nat) (h15 : Nat) (h16 : Nat) (h17 : Nat) (h18 : Nat) (h19 : Nat) : Cx l D dA tE tC yL_lives (Cond.codeWith yL_lives cL_lives 4 (some .int) [(0, 16, 19, 21)] :: gW) ({ frames := 8, cells := 1, slots := 6, locals := 124 } : Room) [.ref h0, .int p0, .ref h1] [(h0, .inr (15, [.ref h2, .ref h3, .ref h4, .ref h5, .ref h6, .ref h7, .ref h8, .ref h9, .ref h10, .ref h11, .ref h12, .int 0, .int 0, .int 0])), (h7, .inr (9, [.ref h13, .ref h14, .ref h15, .ref h16, .ref h17, .ref h18, .ref h19, .int 0, .int 0]))] (fun v w1 => (p0.toInt < 0 ∧ v = some (.int 1) ∧ w1 = []) ∨ (¬ p0.toInt < 0 ∧ v = some (.int 1) ∧ w1 = [])) (fun E => False) 1 6 := by
  refine Ch_of (by decide) (Nat.le_of_ble_eq_true rfl) ?_
  intro p e s m below meth c hx hb hr hml hown hnm hlocks hgw hK A hG hA hP hD ls hl hxt
  have hl : lv_has ls 4 [(0, .ref h0), (1, .int p0), (2, .ref h1)] := hl
  have hS : va_S A s.heap s.heap [] := va_S.rf
  refine lv_aload_n hx hb dL_lives_0 rfl (lv_at hl 2 rfl) ?_
  refine lv_iconst (v := 0) hx hb dL_lives_1 (by decide) ?_
  refine lv_aload_n hx hb dL_lives_2 rfl (lv_at hl 0 rfl) ?_
  refine lv_iload_n hx hb dL_lives_3 rfl (lv_at hl 1 rfl) ?_
  refine kx_V (q0 := 0) (As := [.int p0]) (rest := [.int 0, .ref h1]) (wr := []) hx hb hml hown hgw hK hG hA hP hD hS (c_X11_lives l hfl D dA tE tC h0 p0 h2 h3 h4 h5 h6 h7 h8 h9 h10 h11 h12 h13 h14 h15 h16 h17 h18 h19) m_7_37 m_7_38 m_7_39 m_1_1 m_7_40 hd_X11_lives rfl rfl ⟨(Nat.le_of_ble_eq_true rfl), (Nat.le_of_ble_eq_true rfl)⟩ [0, 1] [] rfl rfl rfl rfl (by decide) rfl rfl rfl hl.1 rfl (Nat.le_of_ble_eq_true rfl) dL_lives_4 ⟨(Nat.le_of_ble_eq_true rfl), (Nat.le_of_ble_eq_true rfl)⟩ (fun v w1 H locs hQ hP hD hS => hQ.elim) (fun E ce q9 H locs hX hP hD hS hce hcv hcl => ?_)
  rcases hX with ⟨c_1, rfl⟩ | ⟨c_2, rfl⟩
  · skip
    refine vx_catch (name := "java/lang/IndexOutOfBoundsException") hown (tableOf []) { startPc := 0, endPc := 16, handlerPc := 19, catchType := 21 } (tableOf []) hxt kx_p0 rfl (by decide) (hgw _ m_5_117) (va_Nw.use rfl (hG.2.2.2.1 ("java/lang/IndexOutOfBoundsException", "java/lang/IndexOutOfBoundsException") n_c3)) hce hcv hcl ?_
    refine W.eq (g2 := F0 m 19 ls [.ref q9]) rfl ?_
    refine lv_astore_n (lv' := [(3, .ref q9), (0, .ref h0), (1, .int p0), (2, .ref h1)]) hx hb dL_lives_19 rfl hl (by decide) rfl (fun ls hl => ?_)
    refine lv_iconst (v := 1) hx hb dL_lives_20 (by decide) ?_
    have hP9 := hP.sub (ws' := []) [] rfl
    have hD9 := hD.sub (ws' := []) [] (by decide) rfl
    exact vx_ret (kq_iret (v := 1) hx hb hr hlocks hS rfl (Or.inl ⟨c_1, rfl, rfl⟩) hP9 hD9 (Nat.le_of_ble_eq_true rfl) (Nat.le_of_ble_eq_true rfl) dL_lives_21)
  · skip
    refine vx_catch (name := "java/lang/IndexOutOfBoundsException") hown (tableOf []) { startPc := 0, endPc := 16, handlerPc := 19, catchType := 21 } (tableOf []) hxt kx_p0 rfl (by decide) (hgw _ m_5_117) (va_Nw.use rfl (hG.2.2.2.1 ("java/lang/IndexOutOfBoundsException", "java/lang/IndexOutOfBoundsException") n_c3)) hce hcv hcl ?_
    refine W.eq (g2 := F0 m 19 ls [.ref q9]) rfl ?_
    refine lv_astore_n (lv' := [(3, .ref q9), (0, .ref h0), (1, .int p0), (2, .ref h1)]) hx hb dL_lives_19 rfl hl (by decide) rfl (fun ls hl => ?_)
    refine lv_iconst (v := 1) hx hb dL_lives_20 (by decide) ?_
    have hP9 := hP.sub (ws' := []) [] rfl
    have hD9 := hD.sub (ws' := []) [] (by decide) rfl
    exact vx_ret (kq_iret (v := 1) hx hb hr hlocks hS rfl (Or.inr (⟨c_2, rfl, rfl⟩)) hP9 hD9 (Nat.le_of_ble_eq_true rfl) (Nat.le_of_ble_eq_true rfl) dL_lives_21)
set_option maxHeartbeats 4000000 in
set_option maxRecDepth 100000 in
theorem c_X18_lives (l : Launch) (hfl : l.stackTraces = false) (D : va_G) (dA : Nat → ClassId) (tE tC : Nat) (h0 : Nat) (p0 : Int32) (h1 : Nat) (h2 : Nat) (h3 : Nat) (h4 : Nat) (h5 : Nat) (h6 : Nat) (h7 : Nat) (h8 : Nat) (h9 : Nat) (h10 : Nat) (h11 : Nat) (h12 : Nat) (h13 : Nat) (h14 : Nat) (h15 : Nat) (h16 : Nat) (h17 : Nat) (h18 : Nat) : Ct l D dA tE tC yX18_lives (Cond.code yX18_lives cX18_lives 2 (some .boolean) :: gW) ({ frames := 3, cells := 0, slots := 0, locals := 64 } : Room) [.ref h0, .int p0] [(h0, .inr (22, [.int 0, .ref h1, .int 0, .ref h2, .ref h3, .ref h4, .int 0, .int 0, .int 0, .ref h5, .int 0, .ref h6, .int 0, .int 0, .ref h7, .ref h8, .ref h9, .ref h10, .ref h11, .ref h12, .int 0, .ref h13, .int 0, .ref h14, .ref h15, .ref h16, .ref h17, .ref h18])), (h2, .inr (3, [.int 0, .ref tE, .int 0]))] (fun v w1 => (p0.toInt < 0 ∧ v = some (.int 0) ∧ w1 = [(h0, .inr (22, [.int 1, .ref h1, .int 0, .ref h2, .ref h3, .ref h4, .int 0, .int 0, .int 0, .ref h5, .int 0, .ref h6, .int 0, .int 0, .ref h7, .ref h8, .ref h9, .ref h10, .ref h11, .ref h12, .int 0, .ref h13, .int 0, .ref h14, .ref h15, .ref h16, .ref h17, .ref h18]))]) ∨ (¬ p0.toInt < 0 ∧ v = some (.int 0) ∧ w1 = [(h0, .inr (22, [.int 1, .ref h1, .int 0, .ref h2, .ref h3, .ref h4, .int 0, .int 0, .int 0, .ref h5, .int 0, .ref h6, .int 0, .int 0, .ref h7, .ref h8, .ref h9, .ref h10, .ref h11, .ref h12, .int 0, .ref h13, .int 0, .ref h14, .ref h15, .ref h16, .ref h17, .ref h18]))])) 0 0 := by
  refine Ct_of (by decide) (Nat.le_of_ble_eq_true rfl) ?_
  intro p e s m below meth c hx hb hr hml hown hnm hlocks hgw hK A hG hA hP hD ls hl
  have hl : lv_has ls 2 [(0, .ref h0), (1, .int p0)] := hl
  have hS : va_S A s.heap s.heap [] := va_S.rf
  refine lv_aload_n hx hb dX18_lives_0 rfl (lv_at hl 0 rfl) ?_
  refine lv_iload_n hx hb dX18_lives_1 rfl (lv_at hl 1 rfl) ?_
  refine kq_V (q0 := 0) (As := [.int p0]) (rest := []) (wr := []) hx hb hml hown hgw hK hG hA hP hD hS (c_X18_failsPerson l hfl D dA tE tC h0 p0 h1 h2 h3 h4 h5 h6 h7 h8 h9 h10 h11 h12 h13 h14 h15 h16 h17 h18) m_12_6 m_12_8 m_s_84 m_1_15 m_12_9 hd_X18_failsPerson rfl rfl ⟨(Nat.le_of_ble_eq_true rfl), (Nat.le_of_ble_eq_true rfl)⟩ [0, 1] [] rfl rfl rfl rfl (by decide) rfl rfl rfl hl.1 rfl (Nat.le_of_ble_eq_true rfl) dX18_lives_2 ⟨(Nat.le_of_ble_eq_true rfl), (Nat.le_of_ble_eq_true rfl)⟩ (fun v w1 H locs hQ hP hD hS => ?_)
  rcases hQ with ⟨c_1, rfl, rfl⟩ | ⟨c_2, rfl, rfl⟩
  · skip
    refine W.eq (g2 := F0 m 5 ls [.int 1]) rfl ?_
    have hP : va_P D vwCl [(h2, .inr (3, [.int 0, .ref tE, .int 0])), (h0, .inr (22, [.int 1, .ref h1, .int 0, .ref h2, .ref h3, .ref h4, .int 0, .int 0, .int 0, .ref h5, .int 0, .ref h6, .int 0, .int 0, .ref h7, .ref h8, .ref h9, .ref h10, .ref h11, .ref h12, .int 0, .ref h13, .int 0, .ref h14, .ref h15, .ref h16, .ref h17, .ref h18]))] H := hP
    have hD : va_D A [(h2, .inr (3, [.int 0, .ref tE, .int 0])), (h0, .inr (22, [.int 1, .ref h1, .int 0, .ref h2, .ref h3, .ref h4, .int 0, .int 0, .int 0, .ref h5, .int 0, .ref h6, .int 0, .int 0, .ref h7, .ref h8, .ref h9, .ref h10, .ref h11, .ref h12, .int 0, .ref h13, .int 0, .ref h14, .ref h15, .ref h16, .ref h17, .ref h18]))] := hD
    refine lv_if_ne (tgt := 29) hx hb dX18_lives_5 (by decide) (fun _ => ?_) (fun h => absurd h (by decide +kernel))
    refine lv_iconst (v := 0) hx hb dX18_lives_29 (by decide) ?_
    have hP9 := hP.sub (ws' := [(h0, .inr (22, [.int 1, .ref h1, .int 0, .ref h2, .ref h3, .ref h4, .int 0, .int 0, .int 0, .ref h5, .int 0, .ref h6, .int 0, .int 0, .ref h7, .ref h8, .ref h9, .ref h10, .ref h11, .ref h12, .int 0, .ref h13, .int 0, .ref h14, .ref h15, .ref h16, .ref h17, .ref h18]))]) [1] rfl
    have hD9 := hD.sub (ws' := [(h0, .inr (22, [.int 1, .ref h1, .int 0, .ref h2, .ref h3, .ref h4, .int 0, .int 0, .int 0, .ref h5, .int 0, .ref h6, .int 0, .int 0, .ref h7, .ref h8, .ref h9, .ref h10, .ref h11, .ref h12, .int 0, .ref h13, .int 0, .ref h14, .ref h15, .ref h16, .ref h17, .ref h18]))]) [1] (by decide) rfl
    exact (kq_iret (v := 0) hx hb hr hlocks hS rfl (Or.inl ⟨c_1, rfl, rfl⟩) hP9 hD9 (Nat.le_of_ble_eq_true rfl) (Nat.le_of_ble_eq_true rfl) dX18_lives_30)
  · skip
    refine W.eq (g2 := F0 m 5 ls [.int 1]) rfl ?_
    have hP : va_P D vwCl [(h2, .inr (3, [.int 0, .ref tE, .int 0])), (h0, .inr (22, [.int 1, .ref h1, .int 0, .ref h2, .ref h3, .ref h4, .int 0, .int 0, .int 0, .ref h5, .int 0, .ref h6, .int 0, .int 0, .ref h7, .ref h8, .ref h9, .ref h10, .ref h11, .ref h12, .int 0, .ref h13, .int 0, .ref h14, .ref h15, .ref h16, .ref h17, .ref h18]))] H := hP
    have hD : va_D A [(h2, .inr (3, [.int 0, .ref tE, .int 0])), (h0, .inr (22, [.int 1, .ref h1, .int 0, .ref h2, .ref h3, .ref h4, .int 0, .int 0, .int 0, .ref h5, .int 0, .ref h6, .int 0, .int 0, .ref h7, .ref h8, .ref h9, .ref h10, .ref h11, .ref h12, .int 0, .ref h13, .int 0, .ref h14, .ref h15, .ref h16, .ref h17, .ref h18]))] := hD
    refine lv_if_ne (tgt := 29) hx hb dX18_lives_5 (by decide) (fun _ => ?_) (fun h => absurd h (by decide +kernel))
    refine lv_iconst (v := 0) hx hb dX18_lives_29 (by decide) ?_
    have hP9 := hP.sub (ws' := [(h0, .inr (22, [.int 1, .ref h1, .int 0, .ref h2, .ref h3, .ref h4, .int 0, .int 0, .int 0, .ref h5, .int 0, .ref h6, .int 0, .int 0, .ref h7, .ref h8, .ref h9, .ref h10, .ref h11, .ref h12, .int 0, .ref h13, .int 0, .ref h14, .ref h15, .ref h16, .ref h17, .ref h18]))]) [1] rfl
    have hD9 := hD.sub (ws' := [(h0, .inr (22, [.int 1, .ref h1, .int 0, .ref h2, .ref h3, .ref h4, .int 0, .int 0, .int 0, .ref h5, .int 0, .ref h6, .int 0, .int 0, .ref h7, .ref h8, .ref h9, .ref h10, .ref h11, .ref h12, .int 0, .ref h13, .int 0, .ref h14, .ref h15, .ref h16, .ref h17, .ref h18]))]) [1] (by decide) rfl
    exact (kq_iret (v := 0) hx hb hr hlocks hS rfl (Or.inr (⟨c_2, rfl, rfl⟩)) hP9 hD9 (Nat.le_of_ble_eq_true rfl) (Nat.le_of_ble_eq_true rfl) dX18_lives_30)
set_option maxHeartbeats 4000000 in
set_option maxRecDepth 100000 in
theorem c_X11_spouse (l : Launch) (hfl : l.stackTraces = false) (D : va_G) (dA : Nat → ClassId) (tE tC : Nat) (h0 : Nat) (p0 : Int32) (h1 : Nat) (h2 : Nat) (h3 : Nat) (h4 : Nat) (h5 : Nat) (h6 : Nat) (h7 : Nat) (h8 : Nat) (h9 : Nat) (h10 : Nat) (h11 : Nat) (h12 : Nat) (h13 : Nat) (h14 : Nat) (h15 : Nat) (h16 : Nat) (h17 : Nat) (h18 : Nat) : Cx l D dA tE tC yX11_spouse (Cond.code yX11_spouse cX11_spouse 3 (some .int) :: gW) ({ frames := 7, cells := 1, slots := 6, locals := 103 } : Room) [.ref h0, .int p0] [(h0, .inr (15, [.ref h1, .ref h2, .ref h3, .ref h4, .ref h5, .ref h6, .ref h7, .ref h8, .ref h9, .ref h10, .ref h11, .int 0, .int 0, .int 0])), (h6, .inr (9, [.ref h12, .ref h13, .ref h14, .ref h15, .ref h16, .ref h17, .ref h18, .int 0, .int 0]))] (fun v w1 => False) (fun E => (p0.toInt < 0 ∧ E = "java/lang/IndexOutOfBoundsException") ∨ (¬ p0.toInt < 0 ∧ E = "java/lang/IndexOutOfBoundsException")) 1 6 := by
  refine Cx_of (by decide) (Nat.le_of_ble_eq_true rfl) ?_
  intro p e s m below meth c hx hb hr hml hown hnm hlocks hgw hK A hG hA hP hD ls hl hxt
  have hl : lv_has ls 3 [(0, .ref h0), (1, .int p0)] := hl
  have hS : va_S A s.heap s.heap [] := va_S.rf
  refine lv_aload_n hx hb dX11_spouse_0 rfl (lv_at hl 0 rfl) ?_
  refine lv_iload_n hx hb dX11_spouse_1 rfl (lv_at hl 1 rfl) ?_
  refine kx_V (q0 := 0) (As := [.int p0]) (rest := []) (wr := []) hx hb hml hown hgw hK hG hA hP hD hS (c_X11_needPerson l hfl D dA tE tC h0 p0 h1 h2 h3 h4 h5 h6 h7 h8 h9 h10 h11 h12 h13 h14 h15 h16 h17 h18) m_6_99 m_6_101 m_s_34 m_1_1 m_6_102 hd_X11_needPerson rfl rfl ⟨(Nat.le_of_ble_eq_true rfl), (Nat.le_of_ble_eq_true rfl)⟩ [0, 1] [] rfl rfl rfl rfl (by decide) rfl rfl rfl hl.1 rfl (Nat.le_of_ble_eq_true rfl) dX11_spouse_2 ⟨(Nat.le_of_ble_eq_true rfl), (Nat.le_of_ble_eq_true rfl)⟩ (fun v w1 H locs hQ hP hD hS => hQ.elim) (fun E ce q9 H locs hX hP hD hS hce hcv hcl => ?_)
  rcases hX with ⟨c_1, rfl⟩ | ⟨c_2, rfl⟩
  · skip
    exact kx_out hxt hlocks hS hce hcv hcl (Or.inl ⟨c_1, rfl⟩) (Nat.le_of_ble_eq_true rfl) (Nat.le_of_ble_eq_true rfl)
  · skip
    exact kx_out hxt hlocks hS hce hcv hcl (Or.inr (⟨c_2, rfl⟩)) (Nat.le_of_ble_eq_true rfl) (Nat.le_of_ble_eq_true rfl)
set_option maxHeartbeats 4000000 in
set_option maxRecDepth 100000 in
theorem c_L_spouse (l : Launch) (hfl : l.stackTraces = false) (D : va_G) (dA : Nat → ClassId) (tE tC : Nat) (h0 : Nat) (p0 : Int32) (h1 : Nat) (h2 : Nat) (h3 : Nat) (h4 : Nat) (h5 : Nat) (h6 : Nat) (h7 : Nat) (h8 : Nat) (h9 : Nat) (h10 : Nat) (h11 : Nat) (h12 : Nat) (h13 : Nat) (h14 : Nat) (h15 : Nat) (h16 : Nat) (h17 : Nat) (h18 : Nat) (h19 : Nat) : Cx l D dA tE tC yL_spouse (Cond.codeWith yL_spouse cL_spouse 4 (some .int) [(0, 9, 12, 21), (0, 9, 15, 36)] :: gW) ({ frames := 8, cells := 1, slots := 6, locals := 125 } : Room) [.ref h0, .int p0, .ref h1] [(h0, .inr (15, [.ref h2, .ref h3, .ref h4, .ref h5, .ref h6, .ref h7, .ref h8, .ref h9, .ref h10, .ref h11, .ref h12, .int 0, .int 0, .int 0])), (h7, .inr (9, [.ref h13, .ref h14, .ref h15, .ref h16, .ref h17, .ref h18, .ref h19, .int 0, .int 0]))] (fun v w1 => (p0.toInt < 0 ∧ v = some (.int 1) ∧ w1 = []) ∨ (¬ p0.toInt < 0 ∧ v = some (.int 1) ∧ w1 = [])) (fun E => False) 1 6 := by
  refine Ch_of (by decide) (Nat.le_of_ble_eq_true rfl) ?_
  intro p e s m below meth c hx hb hr hml hown hnm hlocks hgw hK A hG hA hP hD ls hl hxt
  have hl : lv_has ls 4 [(0, .ref h0), (1, .int p0), (2, .ref h1)] := hl
  have hS : va_S A s.heap s.heap [] := va_S.rf
  refine lv_aload_n hx hb dL_spouse_0 rfl (lv_at hl 2 rfl) ?_
  refine lv_iconst (v := 0) hx hb dL_spouse_1 (by decide) ?_
  refine lv_aload_n hx hb dL_spouse_2 rfl (lv_at hl 0 rfl) ?_
  refine lv_iload_n hx hb dL_spouse_3 rfl (lv_at hl 1 rfl) ?_
  refine kx_V (q0 := 0) (As := [.int p0]) (rest := [.int 0, .ref h1]) (wr := []) hx hb hml hown hgw hK hG hA hP hD hS (c_X11_spouse l hfl D dA tE tC h0 p0 h2 h3 h4 h5 h6 h7 h8 h9 h10 h11 h12 h13 h14 h15 h16 h17 h18 h19) m_7_44 m_7_45 m_7_46 m_1_1 m_7_47 hd_X11_spouse rfl rfl ⟨(Nat.le_of_ble_eq_true rfl), (Nat.le_of_ble_eq_true rfl)⟩ [0, 1] [] rfl rfl rfl rfl (by decide) rfl rfl rfl hl.1 rfl (Nat.le_of_ble_eq_true rfl) dL_spouse_4 ⟨(Nat.le_of_ble_eq_true rfl), (Nat.le_of_ble_eq_true rfl)⟩ (fun v w1 H locs hQ hP hD hS => hQ.elim) (fun E ce q9 H locs hX hP hD hS hce hcv hcl => ?_)
  rcases hX with ⟨c_1, rfl⟩ | ⟨c_2, rfl⟩
  · skip
    refine vx_catch (name := "java/lang/IndexOutOfBoundsException") hown (tableOf []) { startPc := 0, endPc := 9, handlerPc := 12, catchType := 21 } (tableOf [(0, 9, 15, 36)]) hxt kx_p0 rfl (by decide) (hgw _ m_5_117) (va_Nw.use rfl (hG.2.2.2.1 ("java/lang/IndexOutOfBoundsException", "java/lang/IndexOutOfBoundsException") n_c3)) hce hcv hcl ?_
    refine W.eq (g2 := F0 m 12 ls [.ref q9]) rfl ?_
    refine lv_astore_n (lv' := [(3, .ref q9), (0, .ref h0), (1, .int p0), (2, .ref h1)]) hx hb dL_spouse_12 rfl hl (by decide) rfl (fun ls hl => ?_)
    refine lv_iconst (v := 1) hx hb dL_spouse_13 (by decide) ?_
    have hP9 := hP.sub (ws' := []) [] rfl
    have hD9 := hD.sub (ws' := []) [] (by decide) rfl
    exact vx_ret (kq_iret (v := 1) hx hb hr hlocks hS rfl (Or.inl ⟨c_1, rfl, rfl⟩) hP9 hD9 (Nat.le_of_ble_eq_true rfl) (Nat.le_of_ble_eq_true rfl) dL_spouse_14)
  · skip
    refine vx_catch (name := "java/lang/IndexOutOfBoundsException") hown (tableOf []) { startPc := 0, endPc := 9, handlerPc := 12, catchType := 21 } (tableOf [(0, 9, 15, 36)]) hxt kx_p0 rfl (by decide) (hgw _ m_5_117) (va_Nw.use rfl (hG.2.2.2.1 ("java/lang/IndexOutOfBoundsException", "java/lang/IndexOutOfBoundsException") n_c3)) hce hcv hcl ?_
    refine W.eq (g2 := F0 m 12 ls [.ref q9]) rfl ?_
    refine lv_astore_n (lv' := [(3, .ref q9), (0, .ref h0), (1, .int p0), (2, .ref h1)]) hx hb dL_spouse_12 rfl hl (by decide) rfl (fun ls hl => ?_)
    refine lv_iconst (v := 1) hx hb dL_spouse_13 (by decide) ?_
    have hP9 := hP.sub (ws' := []) [] rfl
    have hD9 := hD.sub (ws' := []) [] (by decide) rfl
    exact vx_ret (kq_iret (v := 1) hx hb hr hlocks hS rfl (Or.inr (⟨c_2, rfl, rfl⟩)) hP9 hD9 (Nat.le_of_ble_eq_true rfl) (Nat.le_of_ble_eq_true rfl) dL_spouse_14)
set_option maxHeartbeats 4000000 in
set_option maxRecDepth 100000 in
theorem c_X18_spouse (l : Launch) (hfl : l.stackTraces = false) (D : va_G) (dA : Nat → ClassId) (tE tC : Nat) (h0 : Nat) (p0 : Int32) (h1 : Nat) (h2 : Nat) (h3 : Nat) (h4 : Nat) (h5 : Nat) (h6 : Nat) (h7 : Nat) (h8 : Nat) (h9 : Nat) (h10 : Nat) (h11 : Nat) (h12 : Nat) (h13 : Nat) (h14 : Nat) (h15 : Nat) (h16 : Nat) (h17 : Nat) (h18 : Nat) : Ct l D dA tE tC yX18_spouse (Cond.code yX18_spouse cX18_spouse 2 (some .int) :: gW) ({ frames := 3, cells := 0, slots := 0, locals := 64 } : Room) [.ref h0, .int p0] [(h0, .inr (22, [.int 0, .ref h1, .int 0, .ref h2, .ref h3, .ref h4, .int 0, .int 0, .int 0, .ref h5, .int 0, .ref h6, .int 0, .int 0, .ref h7, .ref h8, .ref h9, .ref h10, .ref h11, .ref h12, .int 0, .ref h13, .int 0, .ref h14, .ref h15, .ref h16, .ref h17, .ref h18])), (h2, .inr (3, [.int 0, .ref tE, .int 0]))] (fun v w1 => (p0.toInt < 0 ∧ v = some (.int 0) ∧ w1 = [(h0, .inr (22, [.int 1, .ref h1, .int 0, .ref h2, .ref h3, .ref h4, .int 0, .int 0, .int 0, .ref h5, .int 0, .ref h6, .int 0, .int 0, .ref h7, .ref h8, .ref h9, .ref h10, .ref h11, .ref h12, .int 0, .ref h13, .int 0, .ref h14, .ref h15, .ref h16, .ref h17, .ref h18]))]) ∨ (¬ p0.toInt < 0 ∧ v = some (.int 0) ∧ w1 = [(h0, .inr (22, [.int 1, .ref h1, .int 0, .ref h2, .ref h3, .ref h4, .int 0, .int 0, .int 0, .ref h5, .int 0, .ref h6, .int 0, .int 0, .ref h7, .ref h8, .ref h9, .ref h10, .ref h11, .ref h12, .int 0, .ref h13, .int 0, .ref h14, .ref h15, .ref h16, .ref h17, .ref h18]))])) 0 0 := by
  refine Ct_of (by decide) (Nat.le_of_ble_eq_true rfl) ?_
  intro p e s m below meth c hx hb hr hml hown hnm hlocks hgw hK A hG hA hP hD ls hl
  have hl : lv_has ls 2 [(0, .ref h0), (1, .int p0)] := hl
  have hS : va_S A s.heap s.heap [] := va_S.rf
  refine lv_aload_n hx hb dX18_spouse_0 rfl (lv_at hl 0 rfl) ?_
  refine lv_iload_n hx hb dX18_spouse_1 rfl (lv_at hl 1 rfl) ?_
  refine kq_V (q0 := 0) (As := [.int p0]) (rest := []) (wr := []) hx hb hml hown hgw hK hG hA hP hD hS (c_X18_failsPerson l hfl D dA tE tC h0 p0 h1 h2 h3 h4 h5 h6 h7 h8 h9 h10 h11 h12 h13 h14 h15 h16 h17 h18) m_12_6 m_12_8 m_s_84 m_1_15 m_12_9 hd_X18_failsPerson rfl rfl ⟨(Nat.le_of_ble_eq_true rfl), (Nat.le_of_ble_eq_true rfl)⟩ [0, 1] [] rfl rfl rfl rfl (by decide) rfl rfl rfl hl.1 rfl (Nat.le_of_ble_eq_true rfl) dX18_spouse_2 ⟨(Nat.le_of_ble_eq_true rfl), (Nat.le_of_ble_eq_true rfl)⟩ (fun v w1 H locs hQ hP hD hS => ?_)
  rcases hQ with ⟨c_1, rfl, rfl⟩ | ⟨c_2, rfl, rfl⟩
  · skip
    refine W.eq (g2 := F0 m 5 ls [.int 1]) rfl ?_
    have hP : va_P D vwCl [(h2, .inr (3, [.int 0, .ref tE, .int 0])), (h0, .inr (22, [.int 1, .ref h1, .int 0, .ref h2, .ref h3, .ref h4, .int 0, .int 0, .int 0, .ref h5, .int 0, .ref h6, .int 0, .int 0, .ref h7, .ref h8, .ref h9, .ref h10, .ref h11, .ref h12, .int 0, .ref h13, .int 0, .ref h14, .ref h15, .ref h16, .ref h17, .ref h18]))] H := hP
    have hD : va_D A [(h2, .inr (3, [.int 0, .ref tE, .int 0])), (h0, .inr (22, [.int 1, .ref h1, .int 0, .ref h2, .ref h3, .ref h4, .int 0, .int 0, .int 0, .ref h5, .int 0, .ref h6, .int 0, .int 0, .ref h7, .ref h8, .ref h9, .ref h10, .ref h11, .ref h12, .int 0, .ref h13, .int 0, .ref h14, .ref h15, .ref h16, .ref h17, .ref h18]))] := hD
    refine lv_if_ne (tgt := 37) hx hb dX18_spouse_5 (by decide) (fun _ => ?_) (fun h => absurd h (by decide +kernel))
    refine lv_iconst (v := 0) hx hb dX18_spouse_37 (by decide) ?_
    refine lv_goto (tgt := 55) hx hb dX18_spouse_38 (by decide) ?_
    have hP9 := hP.sub (ws' := [(h0, .inr (22, [.int 1, .ref h1, .int 0, .ref h2, .ref h3, .ref h4, .int 0, .int 0, .int 0, .ref h5, .int 0, .ref h6, .int 0, .int 0, .ref h7, .ref h8, .ref h9, .ref h10, .ref h11, .ref h12, .int 0, .ref h13, .int 0, .ref h14, .ref h15, .ref h16, .ref h17, .ref h18]))]) [1] rfl
    have hD9 := hD.sub (ws' := [(h0, .inr (22, [.int 1, .ref h1, .int 0, .ref h2, .ref h3, .ref h4, .int 0, .int 0, .int 0, .ref h5, .int 0, .ref h6, .int 0, .int 0, .ref h7, .ref h8, .ref h9, .ref h10, .ref h11, .ref h12, .int 0, .ref h13, .int 0, .ref h14, .ref h15, .ref h16, .ref h17, .ref h18]))]) [1] (by decide) rfl
    exact (kq_iret (v := 0) hx hb hr hlocks hS rfl (Or.inl ⟨c_1, rfl, rfl⟩) hP9 hD9 (Nat.le_of_ble_eq_true rfl) (Nat.le_of_ble_eq_true rfl) dX18_spouse_55)
  · skip
    refine W.eq (g2 := F0 m 5 ls [.int 1]) rfl ?_
    have hP : va_P D vwCl [(h2, .inr (3, [.int 0, .ref tE, .int 0])), (h0, .inr (22, [.int 1, .ref h1, .int 0, .ref h2, .ref h3, .ref h4, .int 0, .int 0, .int 0, .ref h5, .int 0, .ref h6, .int 0, .int 0, .ref h7, .ref h8, .ref h9, .ref h10, .ref h11, .ref h12, .int 0, .ref h13, .int 0, .ref h14, .ref h15, .ref h16, .ref h17, .ref h18]))] H := hP
    have hD : va_D A [(h2, .inr (3, [.int 0, .ref tE, .int 0])), (h0, .inr (22, [.int 1, .ref h1, .int 0, .ref h2, .ref h3, .ref h4, .int 0, .int 0, .int 0, .ref h5, .int 0, .ref h6, .int 0, .int 0, .ref h7, .ref h8, .ref h9, .ref h10, .ref h11, .ref h12, .int 0, .ref h13, .int 0, .ref h14, .ref h15, .ref h16, .ref h17, .ref h18]))] := hD
    refine lv_if_ne (tgt := 37) hx hb dX18_spouse_5 (by decide) (fun _ => ?_) (fun h => absurd h (by decide +kernel))
    refine lv_iconst (v := 0) hx hb dX18_spouse_37 (by decide) ?_
    refine lv_goto (tgt := 55) hx hb dX18_spouse_38 (by decide) ?_
    have hP9 := hP.sub (ws' := [(h0, .inr (22, [.int 1, .ref h1, .int 0, .ref h2, .ref h3, .ref h4, .int 0, .int 0, .int 0, .ref h5, .int 0, .ref h6, .int 0, .int 0, .ref h7, .ref h8, .ref h9, .ref h10, .ref h11, .ref h12, .int 0, .ref h13, .int 0, .ref h14, .ref h15, .ref h16, .ref h17, .ref h18]))]) [1] rfl
    have hD9 := hD.sub (ws' := [(h0, .inr (22, [.int 1, .ref h1, .int 0, .ref h2, .ref h3, .ref h4, .int 0, .int 0, .int 0, .ref h5, .int 0, .ref h6, .int 0, .int 0, .ref h7, .ref h8, .ref h9, .ref h10, .ref h11, .ref h12, .int 0, .ref h13, .int 0, .ref h14, .ref h15, .ref h16, .ref h17, .ref h18]))]) [1] (by decide) rfl
    exact (kq_iret (v := 0) hx hb hr hlocks hS rfl (Or.inr (⟨c_2, rfl, rfl⟩)) hP9 hD9 (Nat.le_of_ble_eq_true rfl) (Nat.le_of_ble_eq_true rfl) dX18_spouse_55)
set_option maxHeartbeats 4000000 in
set_option maxRecDepth 100000 in
theorem c_X11_isHeiress (l : Launch) (hfl : l.stackTraces = false) (D : va_G) (dA : Nat → ClassId) (tE tC : Nat) (h0 : Nat) (p0 : Int32) (h1 : Nat) (h2 : Nat) (h3 : Nat) (h4 : Nat) (h5 : Nat) (h6 : Nat) (h7 : Nat) (h8 : Nat) (h9 : Nat) (h10 : Nat) (h11 : Nat) (h12 : Nat) (h13 : Nat) (h14 : Nat) (h15 : Nat) (h16 : Nat) (h17 : Nat) (h18 : Nat) : Cx l D dA tE tC yX11_isHeiress (Cond.code yX11_isHeiress cX11_isHeiress 2 (some .boolean) :: gW) ({ frames := 7, cells := 1, slots := 6, locals := 103 } : Room) [.ref h0, .int p0] [(h0, .inr (15, [.ref h1, .ref h2, .ref h3, .ref h4, .ref h5, .ref h6, .ref h7, .ref h8, .ref h9, .ref h10, .ref h11, .int 0, .int 0, .int 0])), (h6, .inr (9, [.ref h12, .ref h13, .ref h14, .ref h15, .ref h16, .ref h17, .ref h18, .int 0, .int 0]))] (fun v w1 => False) (fun E => (p0.toInt < 0 ∧ E = "java/lang/IndexOutOfBoundsException") ∨ (¬ p0.toInt < 0 ∧ E = "java/lang/IndexOutOfBoundsException")) 1 6 := by
  refine Cx_of (by decide) (Nat.le_of_ble_eq_true rfl) ?_
  intro p e s m below meth c hx hb hr hml hown hnm hlocks hgw hK A hG hA hP hD ls hl hxt
  have hl : lv_has ls 2 [(0, .ref h0), (1, .int p0)] := hl
  have hS : va_S A s.heap s.heap [] := va_S.rf
  refine lv_aload_n hx hb dX11_isHeiress_0 rfl (lv_at hl 0 rfl) ?_
  refine lv_iload_n hx hb dX11_isHeiress_1 rfl (lv_at hl 1 rfl) ?_
  refine kx_V (q0 := 0) (As := [.int p0]) (rest := []) (wr := []) hx hb hml hown hgw hK hG hA hP hD hS (c_X11_needPerson l hfl D dA tE tC h0 p0 h1 h2 h3 h4 h5 h6 h7 h8 h9 h10 h11 h12 h13 h14 h15 h16 h17 h18) m_6_99 m_6_101 m_s_34 m_1_1 m_6_102 hd_X11_needPerson rfl rfl ⟨(Nat.le_of_ble_eq_true rfl), (Nat.le_of_ble_eq_true rfl)⟩ [0, 1] [] rfl rfl rfl rfl (by decide) rfl rfl rfl hl.1 rfl (Nat.le_of_ble_eq_true rfl) dX11_isHeiress_2 ⟨(Nat.le_of_ble_eq_true rfl), (Nat.le_of_ble_eq_true rfl)⟩ (fun v w1 H locs hQ hP hD hS => hQ.elim) (fun E ce q9 H locs hX hP hD hS hce hcv hcl => ?_)
  rcases hX with ⟨c_1, rfl⟩ | ⟨c_2, rfl⟩
  · skip
    exact kx_out hxt hlocks hS hce hcv hcl (Or.inl ⟨c_1, rfl⟩) (Nat.le_of_ble_eq_true rfl) (Nat.le_of_ble_eq_true rfl)
  · skip
    exact kx_out hxt hlocks hS hce hcv hcl (Or.inr (⟨c_2, rfl⟩)) (Nat.le_of_ble_eq_true rfl) (Nat.le_of_ble_eq_true rfl)
set_option maxHeartbeats 4000000 in
set_option maxRecDepth 100000 in
theorem c_L_isHeiress (l : Launch) (hfl : l.stackTraces = false) (D : va_G) (dA : Nat → ClassId) (tE tC : Nat) (h0 : Nat) (p0 : Int32) (h1 : Nat) (h2 : Nat) (h3 : Nat) (h4 : Nat) (h5 : Nat) (h6 : Nat) (h7 : Nat) (h8 : Nat) (h9 : Nat) (h10 : Nat) (h11 : Nat) (h12 : Nat) (h13 : Nat) (h14 : Nat) (h15 : Nat) (h16 : Nat) (h17 : Nat) (h18 : Nat) (h19 : Nat) : Cx l D dA tE tC yL_isHeiress (Cond.codeWith yL_isHeiress cL_isHeiress 4 (some .int) [(0, 16, 19, 21)] :: gW) ({ frames := 8, cells := 1, slots := 6, locals := 124 } : Room) [.ref h0, .int p0, .ref h1] [(h0, .inr (15, [.ref h2, .ref h3, .ref h4, .ref h5, .ref h6, .ref h7, .ref h8, .ref h9, .ref h10, .ref h11, .ref h12, .int 0, .int 0, .int 0])), (h7, .inr (9, [.ref h13, .ref h14, .ref h15, .ref h16, .ref h17, .ref h18, .ref h19, .int 0, .int 0]))] (fun v w1 => (p0.toInt < 0 ∧ v = some (.int 1) ∧ w1 = []) ∨ (¬ p0.toInt < 0 ∧ v = some (.int 1) ∧ w1 = [])) (fun E => False) 1 6 := by
  refine Ch_of (by decide) (Nat.le_of_ble_eq_true rfl) ?_
  intro p e s m below meth c hx hb hr hml hown hnm hlocks hgw hK A hG hA hP hD ls hl hxt
  have hl : lv_has ls 4 [(0, .ref h0), (1, .int p0), (2, .ref h1)] := hl
  have hS : va_S A s.heap s.heap [] := va_S.rf
  refine lv_aload_n hx hb dL_isHeiress_0 rfl (lv_at hl 2 rfl) ?_
  refine lv_iconst (v := 0) hx hb dL_isHeiress_1 (by decide) ?_
  refine lv_aload_n hx hb dL_isHeiress_2 rfl (lv_at hl 0 rfl) ?_
  refine lv_iload_n hx hb dL_isHeiress_3 rfl (lv_at hl 1 rfl) ?_
  refine kx_V (q0 := 0) (As := [.int p0]) (rest := [.int 0, .ref h1]) (wr := []) hx hb hml hown hgw hK hG hA hP hD hS (c_X11_isHeiress l hfl D dA tE tC h0 p0 h2 h3 h4 h5 h6 h7 h8 h9 h10 h11 h12 h13 h14 h15 h16 h17 h18 h19) m_7_52 m_7_53 m_7_54 m_1_1 m_7_55 hd_X11_isHeiress rfl rfl ⟨(Nat.le_of_ble_eq_true rfl), (Nat.le_of_ble_eq_true rfl)⟩ [0, 1] [] rfl rfl rfl rfl (by decide) rfl rfl rfl hl.1 rfl (Nat.le_of_ble_eq_true rfl) dL_isHeiress_4 ⟨(Nat.le_of_ble_eq_true rfl), (Nat.le_of_ble_eq_true rfl)⟩ (fun v w1 H locs hQ hP hD hS => hQ.elim) (fun E ce q9 H locs hX hP hD hS hce hcv hcl => ?_)
  rcases hX with ⟨c_1, rfl⟩ | ⟨c_2, rfl⟩
  · skip
    refine vx_catch (name := "java/lang/IndexOutOfBoundsException") hown (tableOf []) { startPc := 0, endPc := 16, handlerPc := 19, catchType := 21 } (tableOf []) hxt kx_p0 rfl (by decide) (hgw _ m_5_117) (va_Nw.use rfl (hG.2.2.2.1 ("java/lang/IndexOutOfBoundsException", "java/lang/IndexOutOfBoundsException") n_c3)) hce hcv hcl ?_
    refine W.eq (g2 := F0 m 19 ls [.ref q9]) rfl ?_
    refine lv_astore_n (lv' := [(3, .ref q9), (0, .ref h0), (1, .int p0), (2, .ref h1)]) hx hb dL_isHeiress_19 rfl hl (by decide) rfl (fun ls hl => ?_)
    refine lv_iconst (v := 1) hx hb dL_isHeiress_20 (by decide) ?_
    have hP9 := hP.sub (ws' := []) [] rfl
    have hD9 := hD.sub (ws' := []) [] (by decide) rfl
    exact vx_ret (kq_iret (v := 1) hx hb hr hlocks hS rfl (Or.inl ⟨c_1, rfl, rfl⟩) hP9 hD9 (Nat.le_of_ble_eq_true rfl) (Nat.le_of_ble_eq_true rfl) dL_isHeiress_21)
  · skip
    refine vx_catch (name := "java/lang/IndexOutOfBoundsException") hown (tableOf []) { startPc := 0, endPc := 16, handlerPc := 19, catchType := 21 } (tableOf []) hxt kx_p0 rfl (by decide) (hgw _ m_5_117) (va_Nw.use rfl (hG.2.2.2.1 ("java/lang/IndexOutOfBoundsException", "java/lang/IndexOutOfBoundsException") n_c3)) hce hcv hcl ?_
    refine W.eq (g2 := F0 m 19 ls [.ref q9]) rfl ?_
    refine lv_astore_n (lv' := [(3, .ref q9), (0, .ref h0), (1, .int p0), (2, .ref h1)]) hx hb dL_isHeiress_19 rfl hl (by decide) rfl (fun ls hl => ?_)
    refine lv_iconst (v := 1) hx hb dL_isHeiress_20 (by decide) ?_
    have hP9 := hP.sub (ws' := []) [] rfl
    have hD9 := hD.sub (ws' := []) [] (by decide) rfl
    exact vx_ret (kq_iret (v := 1) hx hb hr hlocks hS rfl (Or.inr (⟨c_2, rfl, rfl⟩)) hP9 hD9 (Nat.le_of_ble_eq_true rfl) (Nat.le_of_ble_eq_true rfl) dL_isHeiress_21)
set_option maxHeartbeats 4000000 in
set_option maxRecDepth 100000 in
theorem c_X18_isHeiress (l : Launch) (hfl : l.stackTraces = false) (D : va_G) (dA : Nat → ClassId) (tE tC : Nat) (h0 : Nat) (p0 : Int32) (h1 : Nat) (h2 : Nat) (h3 : Nat) (h4 : Nat) (h5 : Nat) (h6 : Nat) (h7 : Nat) (h8 : Nat) (h9 : Nat) (h10 : Nat) (h11 : Nat) (h12 : Nat) (h13 : Nat) (h14 : Nat) (h15 : Nat) (h16 : Nat) (h17 : Nat) (h18 : Nat) : Ct l D dA tE tC yX18_isHeiress (Cond.code yX18_isHeiress cX18_isHeiress 2 (some .boolean) :: gW) ({ frames := 3, cells := 0, slots := 0, locals := 64 } : Room) [.ref h0, .int p0] [(h0, .inr (22, [.int 0, .ref h1, .int 0, .ref h2, .ref h3, .ref h4, .int 0, .int 0, .int 0, .ref h5, .int 0, .ref h6, .int 0, .int 0, .ref h7, .ref h8, .ref h9, .ref h10, .ref h11, .ref h12, .int 0, .ref h13, .int 0, .ref h14, .ref h15, .ref h16, .ref h17, .ref h18])), (h2, .inr (3, [.int 0, .ref tE, .int 0]))] (fun v w1 => (p0.toInt < 0 ∧ v = some (.int 0) ∧ w1 = [(h0, .inr (22, [.int 1, .ref h1, .int 0, .ref h2, .ref h3, .ref h4, .int 0, .int 0, .int 0, .ref h5, .int 0, .ref h6, .int 0, .int 0, .ref h7, .ref h8, .ref h9, .ref h10, .ref h11, .ref h12, .int 0, .ref h13, .int 0, .ref h14, .ref h15, .ref h16, .ref h17, .ref h18]))]) ∨ (¬ p0.toInt < 0 ∧ v = some (.int 0) ∧ w1 = [(h0, .inr (22, [.int 1, .ref h1, .int 0, .ref h2, .ref h3, .ref h4, .int 0, .int 0, .int 0, .ref h5, .int 0, .ref h6, .int 0, .int 0, .ref h7, .ref h8, .ref h9, .ref h10, .ref h11, .ref h12, .int 0, .ref h13, .int 0, .ref h14, .ref h15, .ref h16, .ref h17, .ref h18]))])) 0 0 := by
  refine Ct_of (by decide) (Nat.le_of_ble_eq_true rfl) ?_
  intro p e s m below meth c hx hb hr hml hown hnm hlocks hgw hK A hG hA hP hD ls hl
  have hl : lv_has ls 2 [(0, .ref h0), (1, .int p0)] := hl
  have hS : va_S A s.heap s.heap [] := va_S.rf
  refine lv_aload_n hx hb dX18_isHeiress_0 rfl (lv_at hl 0 rfl) ?_
  refine lv_iload_n hx hb dX18_isHeiress_1 rfl (lv_at hl 1 rfl) ?_
  refine kq_V (q0 := 0) (As := [.int p0]) (rest := []) (wr := []) hx hb hml hown hgw hK hG hA hP hD hS (c_X18_failsPerson l hfl D dA tE tC h0 p0 h1 h2 h3 h4 h5 h6 h7 h8 h9 h10 h11 h12 h13 h14 h15 h16 h17 h18) m_12_6 m_12_8 m_s_84 m_1_15 m_12_9 hd_X18_failsPerson rfl rfl ⟨(Nat.le_of_ble_eq_true rfl), (Nat.le_of_ble_eq_true rfl)⟩ [0, 1] [] rfl rfl rfl rfl (by decide) rfl rfl rfl hl.1 rfl (Nat.le_of_ble_eq_true rfl) dX18_isHeiress_2 ⟨(Nat.le_of_ble_eq_true rfl), (Nat.le_of_ble_eq_true rfl)⟩ (fun v w1 H locs hQ hP hD hS => ?_)
  rcases hQ with ⟨c_1, rfl, rfl⟩ | ⟨c_2, rfl, rfl⟩
  · skip
    refine W.eq (g2 := F0 m 5 ls [.int 1]) rfl ?_
    have hP : va_P D vwCl [(h2, .inr (3, [.int 0, .ref tE, .int 0])), (h0, .inr (22, [.int 1, .ref h1, .int 0, .ref h2, .ref h3, .ref h4, .int 0, .int 0, .int 0, .ref h5, .int 0, .ref h6, .int 0, .int 0, .ref h7, .ref h8, .ref h9, .ref h10, .ref h11, .ref h12, .int 0, .ref h13, .int 0, .ref h14, .ref h15, .ref h16, .ref h17, .ref h18]))] H := hP
    have hD : va_D A [(h2, .inr (3, [.int 0, .ref tE, .int 0])), (h0, .inr (22, [.int 1, .ref h1, .int 0, .ref h2, .ref h3, .ref h4, .int 0, .int 0, .int 0, .ref h5, .int 0, .ref h6, .int 0, .int 0, .ref h7, .ref h8, .ref h9, .ref h10, .ref h11, .ref h12, .int 0, .ref h13, .int 0, .ref h14, .ref h15, .ref h16, .ref h17, .ref h18]))] := hD
    refine lv_if_ne (tgt := 30) hx hb dX18_isHeiress_5 (by decide) (fun _ => ?_) (fun h => absurd h (by decide +kernel))
    refine lv_iconst (v := 0) hx hb dX18_isHeiress_30 (by decide) ?_
    have hP9 := hP.sub (ws' := [(h0, .inr (22, [.int 1, .ref h1, .int 0, .ref h2, .ref h3, .ref h4, .int 0, .int 0, .int 0, .ref h5, .int 0, .ref h6, .int 0, .int 0, .ref h7, .ref h8, .ref h9, .ref h10, .ref h11, .ref h12, .int 0, .ref h13, .int 0, .ref h14, .ref h15, .ref h16, .ref h17, .ref h18]))]) [1] rfl
    have hD9 := hD.sub (ws' := [(h0, .inr (22, [.int 1, .ref h1, .int 0, .ref h2, .ref h3, .ref h4, .int 0, .int 0, .int 0, .ref h5, .int 0, .ref h6, .int 0, .int 0, .ref h7, .ref h8, .ref h9, .ref h10, .ref h11, .ref h12, .int 0, .ref h13, .int 0, .ref h14, .ref h15, .ref h16, .ref h17, .ref h18]))]) [1] (by decide) rfl
    exact (kq_iret (v := 0) hx hb hr hlocks hS rfl (Or.inl ⟨c_1, rfl, rfl⟩) hP9 hD9 (Nat.le_of_ble_eq_true rfl) (Nat.le_of_ble_eq_true rfl) dX18_isHeiress_31)
  · skip
    refine W.eq (g2 := F0 m 5 ls [.int 1]) rfl ?_
    have hP : va_P D vwCl [(h2, .inr (3, [.int 0, .ref tE, .int 0])), (h0, .inr (22, [.int 1, .ref h1, .int 0, .ref h2, .ref h3, .ref h4, .int 0, .int 0, .int 0, .ref h5, .int 0, .ref h6, .int 0, .int 0, .ref h7, .ref h8, .ref h9, .ref h10, .ref h11, .ref h12, .int 0, .ref h13, .int 0, .ref h14, .ref h15, .ref h16, .ref h17, .ref h18]))] H := hP
    have hD : va_D A [(h2, .inr (3, [.int 0, .ref tE, .int 0])), (h0, .inr (22, [.int 1, .ref h1, .int 0, .ref h2, .ref h3, .ref h4, .int 0, .int 0, .int 0, .ref h5, .int 0, .ref h6, .int 0, .int 0, .ref h7, .ref h8, .ref h9, .ref h10, .ref h11, .ref h12, .int 0, .ref h13, .int 0, .ref h14, .ref h15, .ref h16, .ref h17, .ref h18]))] := hD
    refine lv_if_ne (tgt := 30) hx hb dX18_isHeiress_5 (by decide) (fun _ => ?_) (fun h => absurd h (by decide +kernel))
    refine lv_iconst (v := 0) hx hb dX18_isHeiress_30 (by decide) ?_
    have hP9 := hP.sub (ws' := [(h0, .inr (22, [.int 1, .ref h1, .int 0, .ref h2, .ref h3, .ref h4, .int 0, .int 0, .int 0, .ref h5, .int 0, .ref h6, .int 0, .int 0, .ref h7, .ref h8, .ref h9, .ref h10, .ref h11, .ref h12, .int 0, .ref h13, .int 0, .ref h14, .ref h15, .ref h16, .ref h17, .ref h18]))]) [1] rfl
    have hD9 := hD.sub (ws' := [(h0, .inr (22, [.int 1, .ref h1, .int 0, .ref h2, .ref h3, .ref h4, .int 0, .int 0, .int 0, .ref h5, .int 0, .ref h6, .int 0, .int 0, .ref h7, .ref h8, .ref h9, .ref h10, .ref h11, .ref h12, .int 0, .ref h13, .int 0, .ref h14, .ref h15, .ref h16, .ref h17, .ref h18]))]) [1] (by decide) rfl
    exact (kq_iret (v := 0) hx hb hr hlocks hS rfl (Or.inr (⟨c_2, rfl, rfl⟩)) hP9 hD9 (Nat.le_of_ble_eq_true rfl) (Nat.le_of_ble_eq_true rfl) dX18_isHeiress_31)
set_option maxHeartbeats 4000000 in
set_option maxRecDepth 100000 in
theorem c_X11_lineOf (l : Launch) (hfl : l.stackTraces = false) (D : va_G) (dA : Nat → ClassId) (tE tC : Nat) (h0 : Nat) (p0 : Int32) (h1 : Nat) (h2 : Nat) (h3 : Nat) (h4 : Nat) (h5 : Nat) (h6 : Nat) (h7 : Nat) (h8 : Nat) (h9 : Nat) (h10 : Nat) (h11 : Nat) (h12 : Nat) (h13 : Nat) (h14 : Nat) (h15 : Nat) (h16 : Nat) (h17 : Nat) (h18 : Nat) : Cx l D dA tE tC yX11_lineOf (Cond.code yX11_lineOf cX11_lineOf 2 (some .int) :: gW) ({ frames := 7, cells := 1, slots := 6, locals := 103 } : Room) [.ref h0, .int p0] [(h0, .inr (15, [.ref h1, .ref h2, .ref h3, .ref h4, .ref h5, .ref h6, .ref h7, .ref h8, .ref h9, .ref h10, .ref h11, .int 0, .int 0, .int 0])), (h6, .inr (9, [.ref h12, .ref h13, .ref h14, .ref h15, .ref h16, .ref h17, .ref h18, .int 0, .int 0]))] (fun v w1 => False) (fun E => (p0.toInt < 0 ∧ E = "java/lang/IndexOutOfBoundsException") ∨ (¬ p0.toInt < 0 ∧ E = "java/lang/IndexOutOfBoundsException")) 1 6 := by
  refine Cx_of (by decide) (Nat.le_of_ble_eq_true rfl) ?_
  intro p e s m below meth c hx hb hr hml hown hnm hlocks hgw hK A hG hA hP hD ls hl hxt
  have hl : lv_has ls 2 [(0, .ref h0), (1, .int p0)] := hl
  have hS : va_S A s.heap s.heap [] := va_S.rf
  refine lv_aload_n hx hb dX11_lineOf_0 rfl (lv_at hl 0 rfl) ?_
  refine lv_iload_n hx hb dX11_lineOf_1 rfl (lv_at hl 1 rfl) ?_
  refine kx_V (q0 := 0) (As := [.int p0]) (rest := []) (wr := []) hx hb hml hown hgw hK hG hA hP hD hS (c_X11_needPerson l hfl D dA tE tC h0 p0 h1 h2 h3 h4 h5 h6 h7 h8 h9 h10 h11 h12 h13 h14 h15 h16 h17 h18) m_6_99 m_6_101 m_s_34 m_1_1 m_6_102 hd_X11_needPerson rfl rfl ⟨(Nat.le_of_ble_eq_true rfl), (Nat.le_of_ble_eq_true rfl)⟩ [0, 1] [] rfl rfl rfl rfl (by decide) rfl rfl rfl hl.1 rfl (Nat.le_of_ble_eq_true rfl) dX11_lineOf_2 ⟨(Nat.le_of_ble_eq_true rfl), (Nat.le_of_ble_eq_true rfl)⟩ (fun v w1 H locs hQ hP hD hS => hQ.elim) (fun E ce q9 H locs hX hP hD hS hce hcv hcl => ?_)
  rcases hX with ⟨c_1, rfl⟩ | ⟨c_2, rfl⟩
  · skip
    exact kx_out hxt hlocks hS hce hcv hcl (Or.inl ⟨c_1, rfl⟩) (Nat.le_of_ble_eq_true rfl) (Nat.le_of_ble_eq_true rfl)
  · skip
    exact kx_out hxt hlocks hS hce hcv hcl (Or.inr (⟨c_2, rfl⟩)) (Nat.le_of_ble_eq_true rfl) (Nat.le_of_ble_eq_true rfl)
set_option maxHeartbeats 4000000 in
set_option maxRecDepth 100000 in
theorem c_L_lineOf (l : Launch) (hfl : l.stackTraces = false) (D : va_G) (dA : Nat → ClassId) (tE tC : Nat) (h0 : Nat) (p0 : Int32) (h1 : Nat) (h2 : Nat) (h3 : Nat) (h4 : Nat) (h5 : Nat) (h6 : Nat) (h7 : Nat) (h8 : Nat) (h9 : Nat) (h10 : Nat) (h11 : Nat) (h12 : Nat) (h13 : Nat) (h14 : Nat) (h15 : Nat) (h16 : Nat) (h17 : Nat) (h18 : Nat) (h19 : Nat) : Cx l D dA tE tC yL_lineOf (Cond.codeWith yL_lineOf cL_lineOf 4 (some .int) [(0, 9, 12, 21)] :: gW) ({ frames := 8, cells := 1, slots := 6, locals := 124 } : Room) [.ref h0, .int p0, .ref h1] [(h0, .inr (15, [.ref h2, .ref h3, .ref h4, .ref h5, .ref h6, .ref h7, .ref h8, .ref h9, .ref h10, .ref h11, .ref h12, .int 0, .int 0, .int 0])), (h7, .inr (9, [.ref h13, .ref h14, .ref h15, .ref h16, .ref h17, .ref h18, .ref h19, .int 0, .int 0]))] (fun v w1 => (p0.toInt < 0 ∧ v = some (.int 1) ∧ w1 = []) ∨ (¬ p0.toInt < 0 ∧ v = some (.int 1) ∧ w1 = [])) (fun E => False) 1 6 := by
  refine Ch_of (by decide) (Nat.le_of_ble_eq_true rfl) ?_
  intro p e s m below meth c hx hb hr hml hown hnm hlocks hgw hK A hG hA hP hD ls hl hxt
  have hl : lv_has ls 4 [(0, .ref h0), (1, .int p0), (2, .ref h1)] := hl
  have hS : va_S A s.heap s.heap [] := va_S.rf
  refine lv_aload_n hx hb dL_lineOf_0 rfl (lv_at hl 2 rfl) ?_
  refine lv_iconst (v := 0) hx hb dL_lineOf_1 (by decide) ?_
  refine lv_aload_n hx hb dL_lineOf_2 rfl (lv_at hl 0 rfl) ?_
  refine lv_iload_n hx hb dL_lineOf_3 rfl (lv_at hl 1 rfl) ?_
  refine kx_V (q0 := 0) (As := [.int p0]) (rest := [.int 0, .ref h1]) (wr := []) hx hb hml hown hgw hK hG hA hP hD hS (c_X11_lineOf l hfl D dA tE tC h0 p0 h2 h3 h4 h5 h6 h7 h8 h9 h10 h11 h12 h13 h14 h15 h16 h17 h18 h19) m_7_59 m_7_60 m_7_61 m_1_1 m_7_62 hd_X11_lineOf rfl rfl ⟨(Nat.le_of_ble_eq_true rfl), (Nat.le_of_ble_eq_true rfl)⟩ [0, 1] [] rfl rfl rfl rfl (by decide) rfl rfl rfl hl.1 rfl (Nat.le_of_ble_eq_true rfl) dL_lineOf_4 ⟨(Nat.le_of_ble_eq_true rfl), (Nat.le_of_ble_eq_true rfl)⟩ (fun v w1 H locs hQ hP hD hS => hQ.elim) (fun E ce q9 H locs hX hP hD hS hce hcv hcl => ?_)
  rcases hX with ⟨c_1, rfl⟩ | ⟨c_2, rfl⟩
  · skip
    refine vx_catch (name := "java/lang/IndexOutOfBoundsException") hown (tableOf []) { startPc := 0, endPc := 9, handlerPc := 12, catchType := 21 } (tableOf []) hxt kx_p0 rfl (by decide) (hgw _ m_5_117) (va_Nw.use rfl (hG.2.2.2.1 ("java/lang/IndexOutOfBoundsException", "java/lang/IndexOutOfBoundsException") n_c3)) hce hcv hcl ?_
    refine W.eq (g2 := F0 m 12 ls [.ref q9]) rfl ?_
    refine lv_astore_n (lv' := [(3, .ref q9), (0, .ref h0), (1, .int p0), (2, .ref h1)]) hx hb dL_lineOf_12 rfl hl (by decide) rfl (fun ls hl => ?_)
    refine lv_iconst (v := 1) hx hb dL_lineOf_13 (by decide) ?_
    have hP9 := hP.sub (ws' := []) [] rfl
    have hD9 := hD.sub (ws' := []) [] (by decide) rfl
    exact vx_ret (kq_iret (v := 1) hx hb hr hlocks hS rfl (Or.inl ⟨c_1, rfl, rfl⟩) hP9 hD9 (Nat.le_of_ble_eq_true rfl) (Nat.le_of_ble_eq_true rfl) dL_lineOf_14)
  · skip
    refine vx_catch (name := "java/lang/IndexOutOfBoundsException") hown (tableOf []) { startPc := 0, endPc := 9, handlerPc := 12, catchType := 21 } (tableOf []) hxt kx_p0 rfl (by decide) (hgw _ m_5_117) (va_Nw.use rfl (hG.2.2.2.1 ("java/lang/IndexOutOfBoundsException", "java/lang/IndexOutOfBoundsException") n_c3)) hce hcv hcl ?_
    refine W.eq (g2 := F0 m 12 ls [.ref q9]) rfl ?_
    refine lv_astore_n (lv' := [(3, .ref q9), (0, .ref h0), (1, .int p0), (2, .ref h1)]) hx hb dL_lineOf_12 rfl hl (by decide) rfl (fun ls hl => ?_)
    refine lv_iconst (v := 1) hx hb dL_lineOf_13 (by decide) ?_
    have hP9 := hP.sub (ws' := []) [] rfl
    have hD9 := hD.sub (ws' := []) [] (by decide) rfl
    exact vx_ret (kq_iret (v := 1) hx hb hr hlocks hS rfl (Or.inr (⟨c_2, rfl, rfl⟩)) hP9 hD9 (Nat.le_of_ble_eq_true rfl) (Nat.le_of_ble_eq_true rfl) dL_lineOf_14)
set_option maxHeartbeats 4000000 in
set_option maxRecDepth 100000 in
theorem c_X18_lineOf (l : Launch) (hfl : l.stackTraces = false) (D : va_G) (dA : Nat → ClassId) (tE tC : Nat) (h0 : Nat) (p0 : Int32) (h1 : Nat) (h2 : Nat) (h3 : Nat) (h4 : Nat) (h5 : Nat) (h6 : Nat) (h7 : Nat) (h8 : Nat) (h9 : Nat) (h10 : Nat) (h11 : Nat) (h12 : Nat) (h13 : Nat) (h14 : Nat) (h15 : Nat) (h16 : Nat) (h17 : Nat) (h18 : Nat) : Ct l D dA tE tC yX18_lineOf (Cond.code yX18_lineOf cX18_lineOf 2 (some .int) :: gW) ({ frames := 3, cells := 0, slots := 0, locals := 64 } : Room) [.ref h0, .int p0] [(h0, .inr (22, [.int 0, .ref h1, .int 0, .ref h2, .ref h3, .ref h4, .int 0, .int 0, .int 0, .ref h5, .int 0, .ref h6, .int 0, .int 0, .ref h7, .ref h8, .ref h9, .ref h10, .ref h11, .ref h12, .int 0, .ref h13, .int 0, .ref h14, .ref h15, .ref h16, .ref h17, .ref h18])), (h2, .inr (3, [.int 0, .ref tE, .int 0]))] (fun v w1 => (p0.toInt < 0 ∧ v = some (.int 0) ∧ w1 = [(h0, .inr (22, [.int 1, .ref h1, .int 0, .ref h2, .ref h3, .ref h4, .int 0, .int 0, .int 0, .ref h5, .int 0, .ref h6, .int 0, .int 0, .ref h7, .ref h8, .ref h9, .ref h10, .ref h11, .ref h12, .int 0, .ref h13, .int 0, .ref h14, .ref h15, .ref h16, .ref h17, .ref h18]))]) ∨ (¬ p0.toInt < 0 ∧ v = some (.int 0) ∧ w1 = [(h0, .inr (22, [.int 1, .ref h1, .int 0, .ref h2, .ref h3, .ref h4, .int 0, .int 0, .int 0, .ref h5, .int 0, .ref h6, .int 0, .int 0, .ref h7, .ref h8, .ref h9, .ref h10, .ref h11, .ref h12, .int 0, .ref h13, .int 0, .ref h14, .ref h15, .ref h16, .ref h17, .ref h18]))])) 0 0 := by
  refine Ct_of (by decide) (Nat.le_of_ble_eq_true rfl) ?_
  intro p e s m below meth c hx hb hr hml hown hnm hlocks hgw hK A hG hA hP hD ls hl
  have hl : lv_has ls 2 [(0, .ref h0), (1, .int p0)] := hl
  have hS : va_S A s.heap s.heap [] := va_S.rf
  refine lv_aload_n hx hb dX18_lineOf_0 rfl (lv_at hl 0 rfl) ?_
  refine lv_iload_n hx hb dX18_lineOf_1 rfl (lv_at hl 1 rfl) ?_
  refine kq_V (q0 := 0) (As := [.int p0]) (rest := []) (wr := []) hx hb hml hown hgw hK hG hA hP hD hS (c_X18_failsPerson l hfl D dA tE tC h0 p0 h1 h2 h3 h4 h5 h6 h7 h8 h9 h10 h11 h12 h13 h14 h15 h16 h17 h18) m_12_6 m_12_8 m_s_84 m_1_15 m_12_9 hd_X18_failsPerson rfl rfl ⟨(Nat.le_of_ble_eq_true rfl), (Nat.le_of_ble_eq_true rfl)⟩ [0, 1] [] rfl rfl rfl rfl (by decide) rfl rfl rfl hl.1 rfl (Nat.le_of_ble_eq_true rfl) dX18_lineOf_2 ⟨(Nat.le_of_ble_eq_true rfl), (Nat.le_of_ble_eq_true rfl)⟩ (fun v w1 H locs hQ hP hD hS => ?_)
  rcases hQ with ⟨c_1, rfl, rfl⟩ | ⟨c_2, rfl, rfl⟩
  · skip
    refine W.eq (g2 := F0 m 5 ls [.int 1]) rfl ?_
    have hP : va_P D vwCl [(h2, .inr (3, [.int 0, .ref tE, .int 0])), (h0, .inr (22, [.int 1, .ref h1, .int 0, .ref h2, .ref h3, .ref h4, .int 0, .int 0, .int 0, .ref h5, .int 0, .ref h6, .int 0, .int 0, .ref h7, .ref h8, .ref h9, .ref h10, .ref h11, .ref h12, .int 0, .ref h13, .int 0, .ref h14, .ref h15, .ref h16, .ref h17, .ref h18]))] H := hP
    have hD : va_D A [(h2, .inr (3, [.int 0, .ref tE, .int 0])), (h0, .inr (22, [.int 1, .ref h1, .int 0, .ref h2, .ref h3, .ref h4, .int 0, .int 0, .int 0, .ref h5, .int 0, .ref h6, .int 0, .int 0, .ref h7, .ref h8, .ref h9, .ref h10, .ref h11, .ref h12, .int 0, .ref h13, .int 0, .ref h14, .ref h15, .ref h16, .ref h17, .ref h18]))] := hD
    refine lv_if_ne (tgt := 25) hx hb dX18_lineOf_5 (by decide) (fun _ => ?_) (fun h => absurd h (by decide +kernel))
    refine lv_iconst (v := 0) hx hb dX18_lineOf_25 (by decide) ?_
    refine lv_goto (tgt := 34) hx hb dX18_lineOf_26 (by decide) ?_
    have hP9 := hP.sub (ws' := [(h0, .inr (22, [.int 1, .ref h1, .int 0, .ref h2, .ref h3, .ref h4, .int 0, .int 0, .int 0, .ref h5, .int 0, .ref h6, .int 0, .int 0, .ref h7, .ref h8, .ref h9, .ref h10, .ref h11, .ref h12, .int 0, .ref h13, .int 0, .ref h14, .ref h15, .ref h16, .ref h17, .ref h18]))]) [1] rfl
    have hD9 := hD.sub (ws' := [(h0, .inr (22, [.int 1, .ref h1, .int 0, .ref h2, .ref h3, .ref h4, .int 0, .int 0, .int 0, .ref h5, .int 0, .ref h6, .int 0, .int 0, .ref h7, .ref h8, .ref h9, .ref h10, .ref h11, .ref h12, .int 0, .ref h13, .int 0, .ref h14, .ref h15, .ref h16, .ref h17, .ref h18]))]) [1] (by decide) rfl
    exact (kq_iret (v := 0) hx hb hr hlocks hS rfl (Or.inl ⟨c_1, rfl, rfl⟩) hP9 hD9 (Nat.le_of_ble_eq_true rfl) (Nat.le_of_ble_eq_true rfl) dX18_lineOf_34)
  · skip
    refine W.eq (g2 := F0 m 5 ls [.int 1]) rfl ?_
    have hP : va_P D vwCl [(h2, .inr (3, [.int 0, .ref tE, .int 0])), (h0, .inr (22, [.int 1, .ref h1, .int 0, .ref h2, .ref h3, .ref h4, .int 0, .int 0, .int 0, .ref h5, .int 0, .ref h6, .int 0, .int 0, .ref h7, .ref h8, .ref h9, .ref h10, .ref h11, .ref h12, .int 0, .ref h13, .int 0, .ref h14, .ref h15, .ref h16, .ref h17, .ref h18]))] H := hP
    have hD : va_D A [(h2, .inr (3, [.int 0, .ref tE, .int 0])), (h0, .inr (22, [.int 1, .ref h1, .int 0, .ref h2, .ref h3, .ref h4, .int 0, .int 0, .int 0, .ref h5, .int 0, .ref h6, .int 0, .int 0, .ref h7, .ref h8, .ref h9, .ref h10, .ref h11, .ref h12, .int 0, .ref h13, .int 0, .ref h14, .ref h15, .ref h16, .ref h17, .ref h18]))] := hD
    refine lv_if_ne (tgt := 25) hx hb dX18_lineOf_5 (by decide) (fun _ => ?_) (fun h => absurd h (by decide +kernel))
    refine lv_iconst (v := 0) hx hb dX18_lineOf_25 (by decide) ?_
    refine lv_goto (tgt := 34) hx hb dX18_lineOf_26 (by decide) ?_
    have hP9 := hP.sub (ws' := [(h0, .inr (22, [.int 1, .ref h1, .int 0, .ref h2, .ref h3, .ref h4, .int 0, .int 0, .int 0, .ref h5, .int 0, .ref h6, .int 0, .int 0, .ref h7, .ref h8, .ref h9, .ref h10, .ref h11, .ref h12, .int 0, .ref h13, .int 0, .ref h14, .ref h15, .ref h16, .ref h17, .ref h18]))]) [1] rfl
    have hD9 := hD.sub (ws' := [(h0, .inr (22, [.int 1, .ref h1, .int 0, .ref h2, .ref h3, .ref h4, .int 0, .int 0, .int 0, .ref h5, .int 0, .ref h6, .int 0, .int 0, .ref h7, .ref h8, .ref h9, .ref h10, .ref h11, .ref h12, .int 0, .ref h13, .int 0, .ref h14, .ref h15, .ref h16, .ref h17, .ref h18]))]) [1] (by decide) rfl
    exact (kq_iret (v := 0) hx hb hr hlocks hS rfl (Or.inr (⟨c_2, rfl, rfl⟩)) hP9 hD9 (Nat.le_of_ble_eq_true rfl) (Nat.le_of_ble_eq_true rfl) dX18_lineOf_34)
set_option maxHeartbeats 4000000 in
set_option maxRecDepth 100000 in
theorem c_X11_grant (l : Launch) (hfl : l.stackTraces = false) (D : va_G) (dA : Nat → ClassId) (tE tC : Nat) (h0 : Nat) (p0 : Int32) (p1 : Int32) (h1 : Nat) (h2 : Nat) (h3 : Nat) (h4 : Nat) (h5 : Nat) (h6 : Nat) (h7 : Nat) (h8 : Nat) (h9 : Nat) (h10 : Nat) (h11 : Nat) (h12 : Nat) (h13 : Nat) (h14 : Nat) (h15 : Nat) (h16 : Nat) (h17 : Nat) (h18 : Nat) : Cx l D dA tE tC yX11_grant (Cond.code yX11_grant cX11_grant 4 (some .int) :: gW) ({ frames := 7, cells := 1, slots := 6, locals := 103 } : Room) [.ref h0, .int p0, .int p1] [(h0, .inr (15, [.ref h1, .ref h2, .ref h3, .ref h4, .ref h5, .ref h6, .ref h7, .ref h8, .ref h9, .ref h10, .ref h11, .int 0, .int 0, .int 0])), (h6, .inr (9, [.ref h12, .ref h13, .ref h14, .ref h15, .ref h16, .ref h17, .ref h18, .int 0, .int 0]))] (fun v w1 => False) (fun E => (p0.toInt < 0 ∧ E = "java/lang/IndexOutOfBoundsException") ∨ (¬ p0.toInt < 0 ∧ E = "java/lang/IndexOutOfBoundsException")) 1 6 := by
  refine Cx_of (by decide) (Nat.le_of_ble_eq_true rfl) ?_
  intro p e s m below meth c hx hb hr hml hown hnm hlocks hgw hK A hG hA hP hD ls hl hxt
  have hl : lv_has ls 4 [(0, .ref h0), (1, .int p0), (2, .int p1)] := hl
  have hS : va_S A s.heap s.heap [] := va_S.rf
  refine lv_aload_n hx hb dX11_grant_0 rfl (lv_at hl 0 rfl) ?_
  refine lv_iload_n hx hb dX11_grant_1 rfl (lv_at hl 1 rfl) ?_
  refine kx_V (q0 := 0) (As := [.int p0]) (rest := []) (wr := []) hx hb hml hown hgw hK hG hA hP hD hS (c_X11_needPerson l hfl D dA tE tC h0 p0 h1 h2 h3 h4 h5 h6 h7 h8 h9 h10 h11 h12 h13 h14 h15 h16 h17 h18) m_6_99 m_6_101 m_s_34 m_1_1 m_6_102 hd_X11_needPerson rfl rfl ⟨(Nat.le_of_ble_eq_true rfl), (Nat.le_of_ble_eq_true rfl)⟩ [0, 1] [] rfl rfl rfl rfl (by decide) rfl rfl rfl hl.1 rfl (Nat.le_of_ble_eq_true rfl) dX11_grant_2 ⟨(Nat.le_of_ble_eq_true rfl), (Nat.le_of_ble_eq_true rfl)⟩ (fun v w1 H locs hQ hP hD hS => hQ.elim) (fun E ce q9 H locs hX hP hD hS hce hcv hcl => ?_)
  rcases hX with ⟨c_1, rfl⟩ | ⟨c_2, rfl⟩
  · skip
    exact kx_out hxt hlocks hS hce hcv hcl (Or.inl ⟨c_1, rfl⟩) (Nat.le_of_ble_eq_true rfl) (Nat.le_of_ble_eq_true rfl)
  · skip
    exact kx_out hxt hlocks hS hce hcv hcl (Or.inr (⟨c_2, rfl⟩)) (Nat.le_of_ble_eq_true rfl) (Nat.le_of_ble_eq_true rfl)
set_option maxHeartbeats 4000000 in
set_option maxRecDepth 100000 in
theorem c_L_grant (l : Launch) (hfl : l.stackTraces = false) (D : va_G) (dA : Nat → ClassId) (tE tC : Nat) (h0 : Nat) (p0 : Int32) (p1 : Int32) (h1 : Nat) (h2 : Nat) (h3 : Nat) (h4 : Nat) (h5 : Nat) (h6 : Nat) (h7 : Nat) (h8 : Nat) (h9 : Nat) (h10 : Nat) (h11 : Nat) (h12 : Nat) (h13 : Nat) (h14 : Nat) (h15 : Nat) (h16 : Nat) (h17 : Nat) (h18 : Nat) (h19 : Nat) : Cx l D dA tE tC yL_grant (Cond.codeWith yL_grant cL_grant 5 (some .int) [(0, 10, 13, 21), (0, 10, 17, 13), (0, 10, 21, 23), (0, 10, 25, 15)] :: gW) ({ frames := 8, cells := 1, slots := 6, locals := 126 } : Room) [.ref h0, .int p0, .int p1, .ref h1] [(h0, .inr (15, [.ref h2, .ref h3, .ref h4, .ref h5, .ref h6, .ref h7, .ref h8, .ref h9, .ref h10, .ref h11, .ref h12, .int 0, .int 0, .int 0])), (h7, .inr (9, [.ref h13, .ref h14, .ref h15, .ref h16, .ref h17, .ref h18, .ref h19, .int 0, .int 0]))] (fun v w1 => (p0.toInt < 0 ∧ v = some (.int 1) ∧ w1 = []) ∨ (¬ p0.toInt < 0 ∧ v = some (.int 1) ∧ w1 = [])) (fun E => False) 1 6 := by
  refine Ch_of (by decide) (Nat.le_of_ble_eq_true rfl) ?_
  intro p e s m below meth c hx hb hr hml hown hnm hlocks hgw hK A hG hA hP hD ls hl hxt
  have hl : lv_has ls 5 [(0, .ref h0), (1, .int p0), (2, .int p1), (3, .ref h1)] := hl
  have hS : va_S A s.heap s.heap [] := va_S.rf
  refine lv_aload_n hx hb dL_grant_0 rfl (lv_at hl 3 rfl) ?_
  refine lv_iconst (v := 0) hx hb dL_grant_1 (by decide) ?_
  refine lv_aload_n hx hb dL_grant_2 rfl (lv_at hl 0 rfl) ?_
  refine lv_iload_n hx hb dL_grant_3 rfl (lv_at hl 1 rfl) ?_
  refine lv_iload_n hx hb dL_grant_4 rfl (lv_at hl 2 rfl) ?_
  refine kx_V (q0 := 0) (As := [.int p0, .int p1]) (rest := [.int 0, .ref h1]) (wr := []) hx hb hml hown hgw hK hG hA hP hD hS (c_X11_grant l hfl D dA tE tC h0 p0 p1 h2 h3 h4 h5 h6 h7 h8 h9 h10 h11 h12 h13 h14 h15 h16 h17 h18 h19) m_7_67 m_7_68 m_7_69 m_1_1 m_7_70 hd_X11_grant rfl rfl ⟨(Nat.le_of_ble_eq_true rfl), (Nat.le_of_ble_eq_true rfl)⟩ [0, 1] [] rfl rfl rfl rfl (by decide) rfl rfl rfl hl.1 rfl (Nat.le_of_ble_eq_true rfl) dL_grant_5 ⟨(Nat.le_of_ble_eq_true rfl), (Nat.le_of_ble_eq_true rfl)⟩ (fun v w1 H locs hQ hP hD hS => hQ.elim) (fun E ce q9 H locs hX hP hD hS hce hcv hcl => ?_)
  rcases hX with ⟨c_1, rfl⟩ | ⟨c_2, rfl⟩
  · skip
    refine vx_catch (name := "java/lang/IndexOutOfBoundsException") hown (tableOf []) { startPc := 0, endPc := 10, handlerPc := 13, catchType := 21 } (tableOf [(0, 10, 17, 13), (0, 10, 21, 23), (0, 10, 25, 15)]) hxt kx_p0 rfl (by decide) (hgw _ m_5_117) (va_Nw.use rfl (hG.2.2.2.1 ("java/lang/IndexOutOfBoundsException", "java/lang/IndexOutOfBoundsException") n_c3)) hce hcv hcl ?_
    refine W.eq (g2 := F0 m 13 ls [.ref q9]) rfl ?_
    refine lv_astore (lv' := [(4, .ref q9), (0, .ref h0), (1, .int p0), (2, .int p1), (3, .ref h1)]) hx hb dL_grant_13 hl (by decide) rfl (fun ls hl => ?_)
    refine lv_iconst (v := 1) hx hb dL_grant_15 (by decide) ?_
    have hP9 := hP.sub (ws' := []) [] rfl
    have hD9 := hD.sub (ws' := []) [] (by decide) rfl
    exact vx_ret (kq_iret (v := 1) hx hb hr hlocks hS rfl (Or.inl ⟨c_1, rfl, rfl⟩) hP9 hD9 (Nat.le_of_ble_eq_true rfl) (Nat.le_of_ble_eq_true rfl) dL_grant_16)
  · skip
    refine vx_catch (name := "java/lang/IndexOutOfBoundsException") hown (tableOf []) { startPc := 0, endPc := 10, handlerPc := 13, catchType := 21 } (tableOf [(0, 10, 17, 13), (0, 10, 21, 23), (0, 10, 25, 15)]) hxt kx_p0 rfl (by decide) (hgw _ m_5_117) (va_Nw.use rfl (hG.2.2.2.1 ("java/lang/IndexOutOfBoundsException", "java/lang/IndexOutOfBoundsException") n_c3)) hce hcv hcl ?_
    refine W.eq (g2 := F0 m 13 ls [.ref q9]) rfl ?_
    refine lv_astore (lv' := [(4, .ref q9), (0, .ref h0), (1, .int p0), (2, .int p1), (3, .ref h1)]) hx hb dL_grant_13 hl (by decide) rfl (fun ls hl => ?_)
    refine lv_iconst (v := 1) hx hb dL_grant_15 (by decide) ?_
    have hP9 := hP.sub (ws' := []) [] rfl
    have hD9 := hD.sub (ws' := []) [] (by decide) rfl
    exact vx_ret (kq_iret (v := 1) hx hb hr hlocks hS rfl (Or.inr (⟨c_2, rfl, rfl⟩)) hP9 hD9 (Nat.le_of_ble_eq_true rfl) (Nat.le_of_ble_eq_true rfl) dL_grant_16)
set_option maxHeartbeats 4000000 in
set_option maxRecDepth 100000 in
theorem c_X18_grant (l : Launch) (hfl : l.stackTraces = false) (D : va_G) (dA : Nat → ClassId) (tE tC : Nat) (h0 : Nat) (p0 : Int32) (p1 : Int32) (h1 : Nat) (h2 : Nat) (h3 : Nat) (h4 : Nat) (h5 : Nat) (h6 : Nat) (h7 : Nat) (h8 : Nat) (h9 : Nat) (h10 : Nat) (h11 : Nat) (h12 : Nat) (h13 : Nat) (h14 : Nat) (h15 : Nat) (h16 : Nat) (h17 : Nat) (h18 : Nat) : Ct l D dA tE tC yX18_grant (Cond.code yX18_grant cX18_grant 4 (some .int) :: gW) ({ frames := 3, cells := 0, slots := 0, locals := 64 } : Room) [.ref h0, .int p0, .int p1] [(h0, .inr (22, [.int 0, .ref h1, .int 0, .ref h2, .ref h3, .ref h4, .int 0, .int 0, .int 0, .ref h5, .int 0, .ref h6, .int 0, .int 0, .ref h7, .ref h8, .ref h9, .ref h10, .ref h11, .ref h12, .int 0, .ref h13, .int 0, .ref h14, .ref h15, .ref h16, .ref h17, .ref h18])), (h2, .inr (3, [.int 0, .ref tE, .int 0]))] (fun v w1 => (p0.toInt < 0 ∧ v = some (.int 0) ∧ w1 = [(h0, .inr (22, [.int 1, .ref h1, .int 0, .ref h2, .ref h3, .ref h4, .int 0, .int 0, .int 0, .ref h5, .int 0, .ref h6, .int 0, .int 0, .ref h7, .ref h8, .ref h9, .ref h10, .ref h11, .ref h12, .int 0, .ref h13, .int 0, .ref h14, .ref h15, .ref h16, .ref h17, .ref h18]))]) ∨ (¬ p0.toInt < 0 ∧ v = some (.int 0) ∧ w1 = [(h0, .inr (22, [.int 1, .ref h1, .int 0, .ref h2, .ref h3, .ref h4, .int 0, .int 0, .int 0, .ref h5, .int 0, .ref h6, .int 0, .int 0, .ref h7, .ref h8, .ref h9, .ref h10, .ref h11, .ref h12, .int 0, .ref h13, .int 0, .ref h14, .ref h15, .ref h16, .ref h17, .ref h18]))])) 0 0 := by
  refine Ct_of (by decide) (Nat.le_of_ble_eq_true rfl) ?_
  intro p e s m below meth c hx hb hr hml hown hnm hlocks hgw hK A hG hA hP hD ls hl
  have hl : lv_has ls 4 [(0, .ref h0), (1, .int p0), (2, .int p1)] := hl
  have hS : va_S A s.heap s.heap [] := va_S.rf
  refine lv_aload_n hx hb dX18_grant_0 rfl (lv_at hl 0 rfl) ?_
  refine lv_iload_n hx hb dX18_grant_1 rfl (lv_at hl 1 rfl) ?_
  refine kq_V (q0 := 0) (As := [.int p0]) (rest := []) (wr := []) hx hb hml hown hgw hK hG hA hP hD hS (c_X18_failsPerson l hfl D dA tE tC h0 p0 h1 h2 h3 h4 h5 h6 h7 h8 h9 h10 h11 h12 h13 h14 h15 h16 h17 h18) m_12_6 m_12_8 m_s_84 m_1_15 m_12_9 hd_X18_failsPerson rfl rfl ⟨(Nat.le_of_ble_eq_true rfl), (Nat.le_of_ble_eq_true rfl)⟩ [0, 1] [] rfl rfl rfl rfl (by decide) rfl rfl rfl hl.1 rfl (Nat.le_of_ble_eq_true rfl) dX18_grant_2 ⟨(Nat.le_of_ble_eq_true rfl), (Nat.le_of_ble_eq_true rfl)⟩ (fun v w1 H locs hQ hP hD hS => ?_)
  rcases hQ with ⟨c_1, rfl, rfl⟩ | ⟨c_2, rfl, rfl⟩
  · skip
    refine W.eq (g2 := F0 m 5 ls [.int 1]) rfl ?_
    have hP : va_P D vwCl [(h2, .inr (3, [.int 0, .ref tE, .int 0])), (h0, .inr (22, [.int 1, .ref h1, .int 0, .ref h2, .ref h3, .ref h4, .int 0, .int 0, .int 0, .ref h5, .int 0, .ref h6, .int 0, .int 0, .ref h7, .ref h8, .ref h9, .ref h10, .ref h11, .ref h12, .int 0, .ref h13, .int 0, .ref h14, .ref h15, .ref h16, .ref h17, .ref h18]))] H := hP
    have hD : va_D A [(h2, .inr (3, [.int 0, .ref tE, .int 0])), (h0, .inr (22, [.int 1, .ref h1, .int 0, .ref h2, .ref h3, .ref h4, .int 0, .int 0, .int 0, .ref h5, .int 0, .ref h6, .int 0, .int 0, .ref h7, .ref h8, .ref h9, .ref h10, .ref h11, .ref h12, .int 0, .ref h13, .int 0, .ref h14, .ref h15, .ref h16, .ref h17, .ref h18]))] := hD
    refine lv_if_ne (tgt := 29) hx hb dX18_grant_5 (by decide) (fun _ => ?_) (fun h => absurd h (by decide +kernel))
    refine lv_iconst (v := 0) hx hb dX18_grant_29 (by decide) ?_
    have hP9 := hP.sub (ws' := [(h0, .inr (22, [.int 1, .ref h1, .int 0, .ref h2, .ref h3, .ref h4, .int 0, .int 0, .int 0, .ref h5, .int 0, .ref h6, .int 0, .int 0, .ref h7, .ref h8, .ref h9, .ref h10, .ref h11, .ref h12, .int 0, .ref h13, .int 0, .ref h14, .ref h15, .ref h16, .ref h17, .ref h18]))]) [1] rfl
    have hD9 := hD.sub (ws' := [(h0, .inr (22, [.int 1, .ref h1, .int 0, .ref h2, .ref h3, .ref h4, .int 0, .int 0, .int 0, .ref h5, .int 0, .ref h6, .int 0, .int 0, .ref h7, .ref h8, .ref h9, .ref h10, .ref h11, .ref h12, .int 0, .ref h13, .int 0, .ref h14, .ref h15, .ref h16, .ref h17, .ref h18]))]) [1] (by decide) rfl
    exact (kq_iret (v := 0) hx hb hr hlocks hS rfl (Or.inl ⟨c_1, rfl, rfl⟩) hP9 hD9 (Nat.le_of_ble_eq_true rfl) (Nat.le_of_ble_eq_true rfl) dX18_grant_30)
  · skip
    refine W.eq (g2 := F0 m 5 ls [.int 1]) rfl ?_
    have hP : va_P D vwCl [(h2, .inr (3, [.int 0, .ref tE, .int 0])), (h0, .inr (22, [.int 1, .ref h1, .int 0, .ref h2, .ref h3, .ref h4, .int 0, .int 0, .int 0, .ref h5, .int 0, .ref h6, .int 0, .int 0, .ref h7, .ref h8, .ref h9, .ref h10, .ref h11, .ref h12, .int 0, .ref h13, .int 0, .ref h14, .ref h15, .ref h16, .ref h17, .ref h18]))] H := hP
    have hD : va_D A [(h2, .inr (3, [.int 0, .ref tE, .int 0])), (h0, .inr (22, [.int 1, .ref h1, .int 0, .ref h2, .ref h3, .ref h4, .int 0, .int 0, .int 0, .ref h5, .int 0, .ref h6, .int 0, .int 0, .ref h7, .ref h8, .ref h9, .ref h10, .ref h11, .ref h12, .int 0, .ref h13, .int 0, .ref h14, .ref h15, .ref h16, .ref h17, .ref h18]))] := hD
    refine lv_if_ne (tgt := 29) hx hb dX18_grant_5 (by decide) (fun _ => ?_) (fun h => absurd h (by decide +kernel))
    refine lv_iconst (v := 0) hx hb dX18_grant_29 (by decide) ?_
    have hP9 := hP.sub (ws' := [(h0, .inr (22, [.int 1, .ref h1, .int 0, .ref h2, .ref h3, .ref h4, .int 0, .int 0, .int 0, .ref h5, .int 0, .ref h6, .int 0, .int 0, .ref h7, .ref h8, .ref h9, .ref h10, .ref h11, .ref h12, .int 0, .ref h13, .int 0, .ref h14, .ref h15, .ref h16, .ref h17, .ref h18]))]) [1] rfl
    have hD9 := hD.sub (ws' := [(h0, .inr (22, [.int 1, .ref h1, .int 0, .ref h2, .ref h3, .ref h4, .int 0, .int 0, .int 0, .ref h5, .int 0, .ref h6, .int 0, .int 0, .ref h7, .ref h8, .ref h9, .ref h10, .ref h11, .ref h12, .int 0, .ref h13, .int 0, .ref h14, .ref h15, .ref h16, .ref h17, .ref h18]))]) [1] (by decide) rfl
    exact (kq_iret (v := 0) hx hb hr hlocks hS rfl (Or.inr (⟨c_2, rfl, rfl⟩)) hP9 hD9 (Nat.le_of_ble_eq_true rfl) (Nat.le_of_ble_eq_true rfl) dX18_grant_30)
set_option maxHeartbeats 4000000 in
set_option maxRecDepth 100000 in
theorem c_X11_assume (l : Launch) (hfl : l.stackTraces = false) (D : va_G) (dA : Nat → ClassId) (tE tC : Nat) (h0 : Nat) (p0 : Int32) (p1 : Int32) (h1 : Nat) (h2 : Nat) (h3 : Nat) (h4 : Nat) (h5 : Nat) (h6 : Nat) (h7 : Nat) (h8 : Nat) (h9 : Nat) (h10 : Nat) (h11 : Nat) (h12 : Nat) (h13 : Nat) (h14 : Nat) (h15 : Nat) (h16 : Nat) (h17 : Nat) (h18 : Nat) : Cx l D dA tE tC yX11_assume (Cond.code yX11_assume cX11_assume 4 (some .int) :: gW) ({ frames := 7, cells := 1, slots := 6, locals := 103 } : Room) [.ref h0, .int p0, .int p1] [(h0, .inr (15, [.ref h1, .ref h2, .ref h3, .ref h4, .ref h5, .ref h6, .ref h7, .ref h8, .ref h9, .ref h10, .ref h11, .int 0, .int 0, .int 0])), (h6, .inr (9, [.ref h12, .ref h13, .ref h14, .ref h15, .ref h16, .ref h17, .ref h18, .int 0, .int 0]))] (fun v w1 => False) (fun E => (p0.toInt < 0 ∧ E = "java/lang/IndexOutOfBoundsException") ∨ (¬ p0.toInt < 0 ∧ E = "java/lang/IndexOutOfBoundsException")) 1 6 := by
  refine Cx_of (by decide) (Nat.le_of_ble_eq_true rfl) ?_
  intro p e s m below meth c hx hb hr hml hown hnm hlocks hgw hK A hG hA hP hD ls hl hxt
  have hl : lv_has ls 4 [(0, .ref h0), (1, .int p0), (2, .int p1)] := hl
  have hS : va_S A s.heap s.heap [] := va_S.rf
  refine lv_aload_n hx hb dX11_assume_0 rfl (lv_at hl 0 rfl) ?_
  refine lv_iload_n hx hb dX11_assume_1 rfl (lv_at hl 1 rfl) ?_
  refine kx_V (q0 := 0) (As := [.int p0]) (rest := []) (wr := []) hx hb hml hown hgw hK hG hA hP hD hS (c_X11_needPerson l hfl D dA tE tC h0 p0 h1 h2 h3 h4 h5 h6 h7 h8 h9 h10 h11 h12 h13 h14 h15 h16 h17 h18) m_6_99 m_6_101 m_s_34 m_1_1 m_6_102 hd_X11_needPerson rfl rfl ⟨(Nat.le_of_ble_eq_true rfl), (Nat.le_of_ble_eq_true rfl)⟩ [0, 1] [] rfl rfl rfl rfl (by decide) rfl rfl rfl hl.1 rfl (Nat.le_of_ble_eq_true rfl) dX11_assume_2 ⟨(Nat.le_of_ble_eq_true rfl), (Nat.le_of_ble_eq_true rfl)⟩ (fun v w1 H locs hQ hP hD hS => hQ.elim) (fun E ce q9 H locs hX hP hD hS hce hcv hcl => ?_)
  rcases hX with ⟨c_1, rfl⟩ | ⟨c_2, rfl⟩
  · skip
    exact kx_out hxt hlocks hS hce hcv hcl (Or.inl ⟨c_1, rfl⟩) (Nat.le_of_ble_eq_true rfl) (Nat.le_of_ble_eq_true rfl)
  · skip
    exact kx_out hxt hlocks hS hce hcv hcl (Or.inr (⟨c_2, rfl⟩)) (Nat.le_of_ble_eq_true rfl) (Nat.le_of_ble_eq_true rfl)
set_option maxHeartbeats 4000000 in
set_option maxRecDepth 100000 in
theorem c_L_assume (l : Launch) (hfl : l.stackTraces = false) (D : va_G) (dA : Nat → ClassId) (tE tC : Nat) (h0 : Nat) (p0 : Int32) (p1 : Int32) (h1 : Nat) (h2 : Nat) (h3 : Nat) (h4 : Nat) (h5 : Nat) (h6 : Nat) (h7 : Nat) (h8 : Nat) (h9 : Nat) (h10 : Nat) (h11 : Nat) (h12 : Nat) (h13 : Nat) (h14 : Nat) (h15 : Nat) (h16 : Nat) (h17 : Nat) (h18 : Nat) (h19 : Nat) : Cx l D dA tE tC yL_assume (Cond.codeWith yL_assume cL_assume 5 (some .int) [(0, 10, 13, 21), (0, 10, 17, 13), (0, 10, 21, 23), (0, 10, 25, 15)] :: gW) ({ frames := 8, cells := 1, slots := 6, locals := 126 } : Room) [.ref h0, .int p0, .int p1, .ref h1] [(h0, .inr (15, [.ref h2, .ref h3, .ref h4, .ref h5, .ref h6, .ref h7, .ref h8, .ref h9, .ref h10, .ref h11, .ref h12, .int 0, .int 0, .int 0])), (h7, .inr (9, [.ref h13, .ref h14, .ref h15, .ref h16, .ref h17, .ref h18, .ref h19, .int 0, .int 0]))] (fun v w1 => (p0.toInt < 0 ∧ v = some (.int 1) ∧ w1 = []) ∨ (¬ p0.toInt < 0 ∧ v = some (.int 1) ∧ w1 = [])) (fun E => False) 1 6 := by
  refine Ch_of (by decide) (Nat.le_of_ble_eq_true rfl) ?_
  intro p e s m below meth c hx hb hr hml hown hnm hlocks hgw hK A hG hA hP hD ls hl hxt
  have hl : lv_has ls 5 [(0, .ref h0), (1, .int p0), (2, .int p1), (3, .ref h1)] := hl
  have hS : va_S A s.heap s.heap [] := va_S.rf
  refine lv_aload_n hx hb dL_assume_0 rfl (lv_at hl 3 rfl) ?_
  refine lv_iconst (v := 0) hx hb dL_assume_1 (by decide) ?_
  refine lv_aload_n hx hb dL_assume_2 rfl (lv_at hl 0 rfl) ?_
  refine lv_iload_n hx hb dL_assume_3 rfl (lv_at hl 1 rfl) ?_
  refine lv_iload_n hx hb dL_assume_4 rfl (lv_at hl 2 rfl) ?_
  refine kx_V (q0 := 0) (As := [.int p0, .int p1]) (rest := [.int 0, .ref h1]) (wr := []) hx hb hml hown hgw hK hG hA hP hD hS (c_X11_assume l hfl D dA tE tC h0 p0 p1 h2 h3 h4 h5 h6 h7 h8 h9 h10 h11 h12 h13 h14 h15 h16 h17 h18 h19) m_7_122 m_7_123 m_7_124 m_1_1 m_7_125 hd_X11_assume rfl rfl ⟨(Nat.le_of_ble_eq_true rfl), (Nat.le_of_ble_eq_true rfl)⟩ [0, 1] [] rfl rfl rfl rfl (by decide) rfl rfl rfl hl.1 rfl (Nat.le_of_ble_eq_true rfl) dL_assume_5 ⟨(Nat.le_of_ble_eq_true rfl), (Nat.le_of_ble_eq_true rfl)⟩ (fun v w1 H locs hQ hP hD hS => hQ.elim) (fun E ce q9 H locs hX hP hD hS hce hcv hcl => ?_)
  rcases hX with ⟨c_1, rfl⟩ | ⟨c_2, rfl⟩
  · skip
    refine vx_catch (name := "java/lang/IndexOutOfBoundsException") hown (tableOf []) { startPc := 0, endPc := 10, handlerPc := 13, catchType := 21 } (tableOf [(0, 10, 17, 13), (0, 10, 21, 23), (0, 10, 25, 15)]) hxt kx_p0 rfl (by decide) (hgw _ m_5_117) (va_Nw.use rfl (hG.2.2.2.1 ("java/lang/IndexOutOfBoundsException", "java/lang/IndexOutOfBoundsException") n_c3)) hce hcv hcl ?_
    refine W.eq (g2 := F0 m 13 ls [.ref q9]) rfl ?_
    refine lv_astore (lv' := [(4, .ref q9), (0, .ref h0), (1, .int p0), (2, .int p1), (3, .ref h1)]) hx hb dL_assume_13 hl (by decide) rfl (fun ls hl => ?_)
    refine lv_iconst (v := 1) hx hb dL_assume_15 (by decide) ?_
    have hP9 := hP.sub (ws' := []) [] rfl
    have hD9 := hD.sub (ws' := []) [] (by decide) rfl
    exact vx_ret (kq_iret (v := 1) hx hb hr hlocks hS rfl (Or.inl ⟨c_1, rfl, rfl⟩) hP9 hD9 (Nat.le_of_ble_eq_true rfl) (Nat.le_of_ble_eq_true rfl) dL_assume_16)
  · skip
    refine vx_catch (name := "java/lang/IndexOutOfBoundsException") hown (tableOf []) { startPc := 0, endPc := 10, handlerPc := 13, catchType := 21 } (tableOf [(0, 10, 17, 13), (0, 10, 21, 23), (0, 10, 25, 15)]) hxt kx_p0 rfl (by decide) (hgw _ m_5_117) (va_Nw.use rfl (hG.2.2.2.1 ("java/lang/IndexOutOfBoundsException", "java/lang/IndexOutOfBoundsException") n_c3)) hce hcv hcl ?_
    refine W.eq (g2 := F0 m 13 ls [.ref q9]) rfl ?_
    refine lv_astore (lv' := [(4, .ref q9), (0, .ref h0), (1, .int p0), (2, .int p1), (3, .ref h1)]) hx hb dL_assume_13 hl (by decide) rfl (fun ls hl => ?_)
    refine lv_iconst (v := 1) hx hb dL_assume_15 (by decide) ?_
    have hP9 := hP.sub (ws' := []) [] rfl
    have hD9 := hD.sub (ws' := []) [] (by decide) rfl
    exact vx_ret (kq_iret (v := 1) hx hb hr hlocks hS rfl (Or.inr (⟨c_2, rfl, rfl⟩)) hP9 hD9 (Nat.le_of_ble_eq_true rfl) (Nat.le_of_ble_eq_true rfl) dL_assume_16)
set_option maxHeartbeats 4000000 in
set_option maxRecDepth 100000 in
theorem c_X18_assume (l : Launch) (hfl : l.stackTraces = false) (D : va_G) (dA : Nat → ClassId) (tE tC : Nat) (h0 : Nat) (p0 : Int32) (p1 : Int32) (h1 : Nat) (h2 : Nat) (h3 : Nat) (h4 : Nat) (h5 : Nat) (h6 : Nat) (h7 : Nat) (h8 : Nat) (h9 : Nat) (h10 : Nat) (h11 : Nat) (h12 : Nat) (h13 : Nat) (h14 : Nat) (h15 : Nat) (h16 : Nat) (h17 : Nat) (h18 : Nat) : Ct l D dA tE tC yX18_assume (Cond.code yX18_assume cX18_assume 5 (some .int) :: gW) ({ frames := 3, cells := 0, slots := 0, locals := 64 } : Room) [.ref h0, .int p0, .int p1] [(h0, .inr (22, [.int 0, .ref h1, .int 0, .ref h2, .ref h3, .ref h4, .int 0, .int 0, .int 0, .ref h5, .int 0, .ref h6, .int 0, .int 0, .ref h7, .ref h8, .ref h9, .ref h10, .ref h11, .ref h12, .int 0, .ref h13, .int 0, .ref h14, .ref h15, .ref h16, .ref h17, .ref h18])), (h2, .inr (3, [.int 0, .ref tE, .int 0]))] (fun v w1 => (p0.toInt < 0 ∧ v = some (.int 0) ∧ w1 = [(h0, .inr (22, [.int 1, .ref h1, .int 0, .ref h2, .ref h3, .ref h4, .int 0, .int 0, .int 0, .ref h5, .int 0, .ref h6, .int 0, .int 0, .ref h7, .ref h8, .ref h9, .ref h10, .ref h11, .ref h12, .int 0, .ref h13, .int 0, .ref h14, .ref h15, .ref h16, .ref h17, .ref h18]))]) ∨ (¬ p0.toInt < 0 ∧ v = some (.int 0) ∧ w1 = [(h0, .inr (22, [.int 1, .ref h1, .int 0, .ref h2, .ref h3, .ref h4, .int 0, .int 0, .int 0, .ref h5, .int 0, .ref h6, .int 0, .int 0, .ref h7, .ref h8, .ref h9, .ref h10, .ref h11, .ref h12, .int 0, .ref h13, .int 0, .ref h14, .ref h15, .ref h16, .ref h17, .ref h18]))])) 0 0 := by
  refine Ct_of (by decide) (Nat.le_of_ble_eq_true rfl) ?_
  intro p e s m below meth c hx hb hr hml hown hnm hlocks hgw hK A hG hA hP hD ls hl
  have hl : lv_has ls 5 [(0, .ref h0), (1, .int p0), (2, .int p1)] := hl
  have hS : va_S A s.heap s.heap [] := va_S.rf
  refine lv_aload_n hx hb dX18_assume_0 rfl (lv_at hl 0 rfl) ?_
  refine lv_iload_n hx hb dX18_assume_1 rfl (lv_at hl 1 rfl) ?_
  refine kq_V (q0 := 0) (As := [.int p0]) (rest := []) (wr := []) hx hb hml hown hgw hK hG hA hP hD hS (c_X18_failsPerson l hfl D dA tE tC h0 p0 h1 h2 h3 h4 h5 h6 h7 h8 h9 h10 h11 h12 h13 h14 h15 h16 h17 h18) m_12_6 m_12_8 m_s_84 m_1_15 m_12_9 hd_X18_failsPerson rfl rfl ⟨(Nat.le_of_ble_eq_true rfl), (Nat.le_of_ble_eq_true rfl)⟩ [0, 1] [] rfl rfl rfl rfl (by decide) rfl rfl rfl hl.1 rfl (Nat.le_of_ble_eq_true rfl) dX18_assume_2 ⟨(Nat.le_of_ble_eq_true rfl), (Nat.le_of_ble_eq_true rfl)⟩ (fun v w1 H locs hQ hP hD hS => ?_)
  rcases hQ with ⟨c_1, rfl, rfl⟩ | ⟨c_2, rfl, rfl⟩
  · skip
    refine W.eq (g2 := F0 m 5 ls [.int 1]) rfl ?_
    have hP : va_P D vwCl [(h2, .inr (3, [.int 0, .ref tE, .int 0])), (h0, .inr (22, [.int 1, .ref h1, .int 0, .ref h2, .ref h3, .ref h4, .int 0, .int 0, .int 0, .ref h5, .int 0, .ref h6, .int 0, .int 0, .ref h7, .ref h8, .ref h9, .ref h10, .ref h11, .ref h12, .int 0, .ref h13, .int 0, .ref h14, .ref h15, .ref h16, .ref h17, .ref h18]))] H := hP
    have hD : va_D A [(h2, .inr (3, [.int 0, .ref tE, .int 0])), (h0, .inr (22, [.int 1, .ref h1, .int 0, .ref h2, .ref h3, .ref h4, .int 0, .int 0, .int 0, .ref h5, .int 0, .ref h6, .int 0, .int 0, .ref h7, .ref h8, .ref h9, .ref h10, .ref h11, .ref h12, .int 0, .ref h13, .int 0, .ref h14, .ref h15, .ref h16, .ref h17, .ref h18]))] := hD
    refine lv_if_ne (tgt := 29) hx hb dX18_assume_5 (by decide) (fun _ => ?_) (fun h => absurd h (by decide +kernel))
    refine lv_iconst (v := 0) hx hb dX18_assume_29 (by decide) ?_
    have hP9 := hP.sub (ws' := [(h0, .inr (22, [.int 1, .ref h1, .int 0, .ref h2, .ref h3, .ref h4, .int 0, .int 0, .int 0, .ref h5, .int 0, .ref h6, .int 0, .int 0, .ref h7, .ref h8, .ref h9, .ref h10, .ref h11, .ref h12, .int 0, .ref h13, .int 0, .ref h14, .ref h15, .ref h16, .ref h17, .ref h18]))]) [1] rfl
    have hD9 := hD.sub (ws' := [(h0, .inr (22, [.int 1, .ref h1, .int 0, .ref h2, .ref h3, .ref h4, .int 0, .int 0, .int 0, .ref h5, .int 0, .ref h6, .int 0, .int 0, .ref h7, .ref h8, .ref h9, .ref h10, .ref h11, .ref h12, .int 0, .ref h13, .int 0, .ref h14, .ref h15, .ref h16, .ref h17, .ref h18]))]) [1] (by decide) rfl
    exact (kq_iret (v := 0) hx hb hr hlocks hS rfl (Or.inl ⟨c_1, rfl, rfl⟩) hP9 hD9 (Nat.le_of_ble_eq_true rfl) (Nat.le_of_ble_eq_true rfl) dX18_assume_30)
  · skip
    refine W.eq (g2 := F0 m 5 ls [.int 1]) rfl ?_
    have hP : va_P D vwCl [(h2, .inr (3, [.int 0, .ref tE, .int 0])), (h0, .inr (22, [.int 1, .ref h1, .int 0, .ref h2, .ref h3, .ref h4, .int 0, .int 0, .int 0, .ref h5, .int 0, .ref h6, .int 0, .int 0, .ref h7, .ref h8, .ref h9, .ref h10, .ref h11, .ref h12, .int 0, .ref h13, .int 0, .ref h14, .ref h15, .ref h16, .ref h17, .ref h18]))] H := hP
    have hD : va_D A [(h2, .inr (3, [.int 0, .ref tE, .int 0])), (h0, .inr (22, [.int 1, .ref h1, .int 0, .ref h2, .ref h3, .ref h4, .int 0, .int 0, .int 0, .ref h5, .int 0, .ref h6, .int 0, .int 0, .ref h7, .ref h8, .ref h9, .ref h10, .ref h11, .ref h12, .int 0, .ref h13, .int 0, .ref h14, .ref h15, .ref h16, .ref h17, .ref h18]))] := hD
    refine lv_if_ne (tgt := 29) hx hb dX18_assume_5 (by decide) (fun _ => ?_) (fun h => absurd h (by decide +kernel))
    refine lv_iconst (v := 0) hx hb dX18_assume_29 (by decide) ?_
    have hP9 := hP.sub (ws' := [(h0, .inr (22, [.int 1, .ref h1, .int 0, .ref h2, .ref h3, .ref h4, .int 0, .int 0, .int 0, .ref h5, .int 0, .ref h6, .int 0, .int 0, .ref h7, .ref h8, .ref h9, .ref h10, .ref h11, .ref h12, .int 0, .ref h13, .int 0, .ref h14, .ref h15, .ref h16, .ref h17, .ref h18]))]) [1] rfl
    have hD9 := hD.sub (ws' := [(h0, .inr (22, [.int 1, .ref h1, .int 0, .ref h2, .ref h3, .ref h4, .int 0, .int 0, .int 0, .ref h5, .int 0, .ref h6, .int 0, .int 0, .ref h7, .ref h8, .ref h9, .ref h10, .ref h11, .ref h12, .int 0, .ref h13, .int 0, .ref h14, .ref h15, .ref h16, .ref h17, .ref h18]))]) [1] (by decide) rfl
    exact (kq_iret (v := 0) hx hb hr hlocks hS rfl (Or.inr (⟨c_2, rfl, rfl⟩)) hP9 hD9 (Nat.le_of_ble_eq_true rfl) (Nat.le_of_ble_eq_true rfl) dX18_assume_30)
set_option maxHeartbeats 4000000 in
set_option maxRecDepth 100000 in
theorem c_X11_needArms (l : Launch) (hfl : l.stackTraces = false) (D : va_G) (dA : Nat → ClassId) (tE tC : Nat) (h0 : Nat) (p0 : Int32) (h1 : Nat) (h2 : Nat) (h3 : Nat) (h4 : Nat) (h5 : Nat) (h6 : Nat) (h7 : Nat) (h8 : Nat) (h9 : Nat) (h10 : Nat) (h11 : Nat) (h12 : Nat) (h13 : Nat) (h14 : Nat) (h15 : Nat) (h16 : Nat) (h17 : Nat) (h18 : Nat) (h19 : Nat) (h20 : Nat) (h21 : Nat) : Cx l D dA tE tC yX11_needArms (Cond.code yX11_needArms cX11_needArms 2 none :: gW) ({ frames := 6, cells := 1, slots := 6, locals := 82 } : Room) [.ref h0, .int p0] [(h0, .inr (15, [.ref h1, .ref h2, .ref h3, .ref h4, .ref h5, .ref h6, .ref h7, .ref h8, .ref h9, .ref h10, .ref h11, .int 0, .int 0, .int 0])), (h7, .inr (13, [.ref h1, .ref h12, .ref h13, .ref h14, .ref h15, .ref h16, .ref h17, .ref h18, .ref h19, .ref h20, .ref h21, .int 0]))] (fun v w1 => False) (fun E => (p0.toInt < 0 ∧ E = "java/lang/IndexOutOfBoundsException") ∨ (¬ p0.toInt < 0 ∧ E = "java/lang/IndexOutOfBoundsException")) 1 6 := by
  refine Cx_of (by decide) (Nat.le_of_ble_eq_true rfl) ?_
  intro p e s m below meth c hx hb hr hml hown hnm hlocks hgw hK A hG hA hP hD ls hl hxt
  have hl : lv_has ls 2 [(0, .ref h0), (1, .int p0)] := hl
  have hS : va_S A s.heap s.heap [] := va_S.rf
  refine lv_iload_n hx hb dX11_needArms_0 rfl (lv_at hl 1 rfl) ?_
  refine lv_if_lt (tgt := 15) hx hb dX11_needArms_1 (by decide) (fun c_1 => ?_) (fun c_1 => ?_)
  · have c_1 := (kq_lt (x := p0) (y := 0) (a := p0.toInt) (b := 0) (by rfl) (by decide +kernel)).mp c_1
    exact kx_throwW hx hb hfl hown hgw hG hS (hl.1.trans hml.symm) hxt hlocks m_5_150 m_1_26 n_s23 ta_X11_528 (by decide +kernel) (by decide +kernel) dX11_needArms_15 dX11_needArms_18 dX11_needArms_19 dX11_needArms_22 dX11_needArms_25 (Nat.le_of_ble_eq_true rfl) (Nat.le_of_ble_eq_true rfl) (Nat.le_of_ble_eq_true rfl) (Nat.le_of_ble_eq_true rfl) (Or.inl ⟨c_1, rfl⟩) (Nat.le_of_ble_eq_true rfl) (Nat.le_of_ble_eq_true rfl)
  · have c_1 := mt (kq_lt (x := p0) (y := 0) (a := p0.toInt) (b := 0) (by rfl) (by decide +kernel)).mpr c_1
    refine lv_iload_n hx hb dX11_needArms_4 rfl (lv_at hl 1 rfl) ?_
    refine lv_aload_n hx hb dX11_needArms_5 rfl (lv_at hl 0 rfl) ?_
    refine va_get (D := D) (ci := 15) (v := .ref h7) (C := RX11) (T := TX11) (N := 14) hx hb hgw in_X11 hown hK hP 0 rfl rfl 6 (by decide) (hgw _ m_3_164) (fun _ h9 => h9) rfl dX11_needArms_6 ?_
    refine va_get (D := D) (ci := 13) (v := .int 0) (C := RX9) (T := TX9) (N := 12) hx hb hgw in_X9 hown hK hP 1 rfl rfl 11 (by decide) (hgw _ m_2_168) (fun _ h9 => h9) rfl dX11_needArms_9 ?_
    refine lv_icmp_lt (tgt := 26) hx hb dX11_needArms_12 (by decide) (fun h => absurd h (mt (kq_lt (x := p0) (y := 0) (a := p0.toInt) (b := 0) (by rfl) (by decide +kernel)).mp (by omega))) (fun _ => ?_)
    exact kx_throwW hx hb hfl hown hgw hG hS (hl.1.trans hml.symm) hxt hlocks m_5_150 m_1_26 n_s23 ta_X11_528 (by decide +kernel) (by decide +kernel) dX11_needArms_15 dX11_needArms_18 dX11_needArms_19 dX11_needArms_22 dX11_needArms_25 (Nat.le_of_ble_eq_true rfl) (Nat.le_of_ble_eq_true rfl) (Nat.le_of_ble_eq_true rfl) (Nat.le_of_ble_eq_true rfl) (Or.inr (⟨c_1, rfl⟩)) (Nat.le_of_ble_eq_true rfl) (Nat.le_of_ble_eq_true rfl)
set_option maxHeartbeats 4000000 in
set_option maxRecDepth 100000 in
theorem c_X11_cameBy (l : Launch) (hfl : l.stackTraces = false) (D : va_G) (dA : Nat → ClassId) (tE tC : Nat) (h0 : Nat) (p0 : Int32) (h1 : Nat) (h2 : Nat) (h3 : Nat) (h4 : Nat) (h5 : Nat) (h6 : Nat) (h7 : Nat) (h8 : Nat) (h9 : Nat) (h10 : Nat) (h11 : Nat) (h12 : Nat) (h13 : Nat) (h14 : Nat) (h15 : Nat) (h16 : Nat) (h17 : Nat) (h18 : Nat) (h19 : Nat) (h20 : Nat) (h21 : Nat) : Cx l D dA tE tC yX11_cameBy (Cond.code yX11_cameBy cX11_cameBy 2 (some .char) :: gW) ({ frames := 7, cells := 1, slots := 6, locals := 103 } : Room) [.ref h0, .int p0] [(h0, .inr (15, [.ref h1, .ref h2, .ref h3, .ref h4, .ref h5, .ref h6, .ref h7, .ref h8, .ref h9, .ref h10, .ref h11, .int 0, .int 0, .int 0])), (h7, .inr (13, [.ref h1, .ref h12, .ref h13, .ref h14, .ref h15, .ref h16, .ref h17, .ref h18, .ref h19, .ref h20, .ref h21, .int 0]))] (fun v w1 => False) (fun E => (p0.toInt < 0 ∧ E = "java/lang/IndexOutOfBoundsException") ∨ (¬ p0.toInt < 0 ∧ E = "java/lang/IndexOutOfBoundsException")) 1 6 := by
  refine Cx_of (by decide) (Nat.le_of_ble_eq_true rfl) ?_
  intro p e s m below meth c hx hb hr hml hown hnm hlocks hgw hK A hG hA hP hD ls hl hxt
  have hl : lv_has ls 2 [(0, .ref h0), (1, .int p0)] := hl
  have hS : va_S A s.heap s.heap [] := va_S.rf
  refine lv_aload_n hx hb dX11_cameBy_0 rfl (lv_at hl 0 rfl) ?_
  refine lv_iload_n hx hb dX11_cameBy_1 rfl (lv_at hl 1 rfl) ?_
  refine kx_V (q0 := 0) (As := [.int p0]) (rest := []) (wr := []) hx hb hml hown hgw hK hG hA hP hD hS (c_X11_needArms l hfl D dA tE tC h0 p0 h1 h2 h3 h4 h5 h6 h7 h8 h9 h10 h11 h12 h13 h14 h15 h16 h17 h18 h19 h20 h21) m_7_136 m_7_138 m_s_49 m_1_1 m_7_139 hd_X11_needArms rfl rfl ⟨(Nat.le_of_ble_eq_true rfl), (Nat.le_of_ble_eq_true rfl)⟩ [0, 1] [] rfl rfl rfl rfl (by decide) rfl rfl rfl hl.1 rfl (Nat.le_of_ble_eq_true rfl) dX11_cameBy_2 ⟨(Nat.le_of_ble_eq_true rfl), (Nat.le_of_ble_eq_true rfl)⟩ (fun v w1 H locs hQ hP hD hS => hQ.elim) (fun E ce q9 H locs hX hP hD hS hce hcv hcl => ?_)
  rcases hX with ⟨c_1, rfl⟩ | ⟨c_2, rfl⟩
  · skip
    exact kx_out hxt hlocks hS hce hcv hcl (Or.inl ⟨c_1, rfl⟩) (Nat.le_of_ble_eq_true rfl) (Nat.le_of_ble_eq_true rfl)
  · skip
    exact kx_out hxt hlocks hS hce hcv hcl (Or.inr (⟨c_2, rfl⟩)) (Nat.le_of_ble_eq_true rfl) (Nat.le_of_ble_eq_true rfl)
set_option maxHeartbeats 4000000 in
set_option maxRecDepth 100000 in
theorem c_L_cameBy (l : Launch) (hfl : l.stackTraces = false) (D : va_G) (dA : Nat → ClassId) (tE tC : Nat) (h0 : Nat) (p0 : Int32) (h1 : Nat) (h2 : Nat) (h3 : Nat) (h4 : Nat) (h5 : Nat) (h6 : Nat) (h7 : Nat) (h8 : Nat) (h9 : Nat) (h10 : Nat) (h11 : Nat) (h12 : Nat) (h13 : Nat) (h14 : Nat) (h15 : Nat) (h16 : Nat) (h17 : Nat) (h18 : Nat) (h19 : Nat) (h20 : Nat) (h21 : Nat) (h22 : Nat) : Cx l D dA tE tC yL_cameBy (Cond.codeWith yL_cameBy cL_cameBy 4 (some .int) [(0, 9, 12, 21)] :: gW) ({ frames := 8, cells := 1, slots := 6, locals := 124 } : Room) [.ref h0, .int p0, .ref h1] [(h0, .inr (15, [.ref h2, .ref h3, .ref h4, .ref h5, .ref h6, .ref h7, .ref h8, .ref h9, .ref h10, .ref h11, .ref h12, .int 0, .int 0, .int 0])), (h8, .inr (13, [.ref h2, .ref h13, .ref h14, .ref h15, .ref h16, .ref h17, .ref h18, .ref h19, .ref h20, .ref h21, .ref h22, .int 0]))] (fun v w1 => (p0.toInt < 0 ∧ v = some (.int 1) ∧ w1 = []) ∨ (¬ p0.toInt < 0 ∧ v = some (.int 1) ∧ w1 = [])) (fun E => False) 1 6 := by
  refine Ch_of (by decide) (Nat.le_of_ble_eq_true rfl) ?_
  intro p e s m below meth c hx hb hr hml hown hnm hlocks hgw hK A hG hA hP hD ls hl hxt
  have hl : lv_has ls 4 [(0, .ref h0), (1, .int p0), (2, .ref h1)] := hl
  have hS : va_S A s.heap s.heap [] := va_S.rf
  refine lv_aload_n hx hb dL_cameBy_0 rfl (lv_at hl 2 rfl) ?_
  refine lv_iconst (v := 0) hx hb dL_cameBy_1 (by decide) ?_
  refine lv_aload_n hx hb dL_cameBy_2 rfl (lv_at hl 0 rfl) ?_
  refine lv_iload_n hx hb dL_cameBy_3 rfl (lv_at hl 1 rfl) ?_
  refine kx_V (q0 := 0) (As := [.int p0]) (rest := [.int 0, .ref h1]) (wr := []) hx hb hml hown hgw hK hG hA hP hD hS (c_X11_cameBy l hfl D dA tE tC h0 p0 h2 h3 h4 h5 h6 h7 h8 h9 h10 h11 h12 h13 h14 h15 h16 h17 h18 h19 h20 h21 h22) m_7_132 m_7_133 m_7_134 m_1_1 m_7_135 hd_X11_cameBy rfl rfl ⟨(Nat.le_of_ble_eq_true rfl), (Nat.le_of_ble_eq_true rfl)⟩ [0, 1] [] rfl rfl rfl rfl (by decide) rfl rfl rfl hl.1 rfl (Nat.le_of_ble_eq_true rfl) dL_cameBy_4 ⟨(Nat.le_of_ble_eq_true rfl), (Nat.le_of_ble_eq_true rfl)⟩ (fun v w1 H locs hQ hP hD hS => hQ.elim) (fun E ce q9 H locs hX hP hD hS hce hcv hcl => ?_)
  rcases hX with ⟨c_1, rfl⟩ | ⟨c_2, rfl⟩
  · skip
    refine vx_catch (name := "java/lang/IndexOutOfBoundsException") hown (tableOf []) { startPc := 0, endPc := 9, handlerPc := 12, catchType := 21 } (tableOf []) hxt kx_p0 rfl (by decide) (hgw _ m_5_117) (va_Nw.use rfl (hG.2.2.2.1 ("java/lang/IndexOutOfBoundsException", "java/lang/IndexOutOfBoundsException") n_c3)) hce hcv hcl ?_
    refine W.eq (g2 := F0 m 12 ls [.ref q9]) rfl ?_
    refine lv_astore_n (lv' := [(3, .ref q9), (0, .ref h0), (1, .int p0), (2, .ref h1)]) hx hb dL_cameBy_12 rfl hl (by decide) rfl (fun ls hl => ?_)
    refine lv_iconst (v := 1) hx hb dL_cameBy_13 (by decide) ?_
    have hP9 := hP.sub (ws' := []) [] rfl
    have hD9 := hD.sub (ws' := []) [] (by decide) rfl
    exact vx_ret (kq_iret (v := 1) hx hb hr hlocks hS rfl (Or.inl ⟨c_1, rfl, rfl⟩) hP9 hD9 (Nat.le_of_ble_eq_true rfl) (Nat.le_of_ble_eq_true rfl) dL_cameBy_14)
  · skip
    refine vx_catch (name := "java/lang/IndexOutOfBoundsException") hown (tableOf []) { startPc := 0, endPc := 9, handlerPc := 12, catchType := 21 } (tableOf []) hxt kx_p0 rfl (by decide) (hgw _ m_5_117) (va_Nw.use rfl (hG.2.2.2.1 ("java/lang/IndexOutOfBoundsException", "java/lang/IndexOutOfBoundsException") n_c3)) hce hcv hcl ?_
    refine W.eq (g2 := F0 m 12 ls [.ref q9]) rfl ?_
    refine lv_astore_n (lv' := [(3, .ref q9), (0, .ref h0), (1, .int p0), (2, .ref h1)]) hx hb dL_cameBy_12 rfl hl (by decide) rfl (fun ls hl => ?_)
    refine lv_iconst (v := 1) hx hb dL_cameBy_13 (by decide) ?_
    have hP9 := hP.sub (ws' := []) [] rfl
    have hD9 := hD.sub (ws' := []) [] (by decide) rfl
    exact vx_ret (kq_iret (v := 1) hx hb hr hlocks hS rfl (Or.inr (⟨c_2, rfl, rfl⟩)) hP9 hD9 (Nat.le_of_ble_eq_true rfl) (Nat.le_of_ble_eq_true rfl) dL_cameBy_14)
