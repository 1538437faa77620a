/-! THE CLAIM OUT OF ONE WALK OF THE LAW'S BODY. Your part is whole_start (and what it stands on); all else here is the same for every law, but numbers. -/
def R_law : String := "BlazonryLaw"
def lw_P (b : Addr) (xs : List Int32) (args : Array Value) (s : State) : Prop := args = #[.ref b] ∧ s.IntsAt b xs ∧ xs.length ≤ 5 ∧ (Jvm.Cond.and given_1 narrow_1).before args s = true
/-- what a walk over the start with the record d0 says of its end, said of the start itself -/
theorem lw_closed {s t : State} {o : Outcome} {d0 : Drawn} {L : List Loc} {k n : Nat} (hd0 : s.drawn.sameBut d0 lw_cs) (hv : ∃ v, o = .returned v) (hW : (s.setDrawn d0).WarmedH t.vm) (hs : (s.setDrawn d0).sameButNew ({ t with vm := s.vm } : State) L k n) : State.butDraws s t lw_cs (fun t1 => Framed s o t1 L k n) := by
  have h2 : t.drawn = d0 := congrArg State.drawn hs.1
  refine ⟨⟨hv, hW, State.sameButNew.setDrawn hs s.drawn⟩, ?_, by decide⟩
  rw [h2]
  exact hd0
def lw_Q (_ : Array Value) (s : State) (o : Outcome) (t : State) : Prop := o = .returned (some (.int 1)) ∧ State.butDraws s t lw_cs (fun t1 => Framed s o t1 [] 600006 7302048)
def lw_Z (below : List Frame) (a : Array Value) (s : State) : State → Prop := fun t => ∃ o, t.status = .running ∧ Ended t below o ∧ lw_Q a s o t
/-- the law's own end, with 1 on the stack, nothing written that was there before, its room as the claim has it; d0: the record of draws at this point (at the entry s.drawn: begin with 'refine W.base ?_' and 'have hd0 := Drawn.sameBut.refl s.drawn lw_cs') -/
theorem lw_ret {p : Program} {l : Launch} {e : Env} {s : State} {m : MethodId} {below : List Frame} {meth : Method} {c : Code} {b : Nat} {d0 : Drawn} (hd0 : s.drawn.sameBut d0 lw_cs) (hx : p.tables.exec = Jvm.exec) (hb : c.code = code) (hr : meth.sig.returnType = ret) (hlocks : meth.locks = false) {pc : Nat} {H : Heap} {ls : Array Slot} (hdg : decode code pc = .ok (.ireturn, 1)) : W p l e room_1 (s.setDrawn d0) m #[Value.ref b] below meth c H [] 600006 7302048 (lw_Z below #[Value.ref b] s) (F0 m pc ls [.int 1]) := by
  intro T hT X
  obtain ⟨fs, hret, hrun, hended, hW, hframe⟩ := X.leave (v := some (.int 1)) (hlocks := hlocks) (fun h => by rw [hr] at h; cases h)
  have hmeth' : T.vm.method? m = some meth := X.method'
  refine ⟨T.setFrames fs, ?_, .returned (some (.int 1)), hrun, hended, rfl, lw_closed hd0 ⟨_, rfl⟩ hW hframe⟩
  jvm_step X.here [X.here.top, hx, hb, hdg, hmeth', hr, ret, narrow_b1]
  (try refine ⟨rfl, ?_⟩); (try refine ⟨rfl, ?_⟩)
  first | (intro acts; rw [hret _ acts rfl rfl rfl]) | rw [hret _ _ rfl rfl rfl]
  exact Steps.refl _
/-- what holds at the law's entry: the machine, the code, the tables' words (any of lw_tbl by 'hts w (by decide +kernel)'), the script of L ints xs at the cell b, what the Statement gives of the start (any of its parts by flat_of_before) -/
def lw_At (p : Program) (s : State) (m : MethodId) (meth : Method) (c : Code) (b L : Nat) (xs : Nat → Int32) : Prop :=
  p.tables.exec = Jvm.exec ∧ c.code = code ∧ meth.sig.returnType = ret ∧ c.maxLocals = 9 ∧ s.vm.findClass R_law = some m.cls ∧ (∀ w ∈ lw_tbl, w.before #[Value.ref b] s = true) ∧ va_X b L xs s s.heap ∧ b < s.heap.size ∧ meth.locks = false ∧ (Jvm.Cond.and given_1 narrow_1).before #[Value.ref b] s = true

theorem law_D {s : State} {args : Array Value} (hgw : ∀ w ∈ gW, w.before args s = true) : ∃ D : va_G, ∀ (c : Nat) (q : vw_C), vwCl[c]? = some q → u_Kn s q.1 q.2.1 q.2.2 (D.1 c) (D.2 c) := by
  have h : ∀ q ∈ vwCl, ∃ (cC : ClassId) (iS : Nat → Nat), u_Kn s q.1 q.2.1 q.2.2 cC iS := List.forall_mem_cons.mpr ⟨u_known hgw in_J0 (hgw _ m_5_136), List.forall_mem_cons.mpr ⟨u_known hgw in_Jx00060 (hgw _ m_5_118), List.forall_mem_cons.mpr ⟨u_known hgw in_Jx35411 (hgw _ m_12_27), List.forall_mem_cons.mpr ⟨u_known hgw in_Jx4a65c (hgw _ m_9_176), List.forall_mem_cons.mpr ⟨u_known hgw in_X0 (hgw _ m_2_196), List.forall_mem_cons.mpr ⟨u_known hgw in_X1 (hgw _ m_1_229), List.forall_mem_cons.mpr ⟨u_known hgw in_X2 (hgw _ m_3_65), List.forall_mem_cons.mpr ⟨u_known hgw in_X3 (hgw _ m_1_60), List.forall_mem_cons.mpr ⟨u_known hgw in_X4 (hgw _ m_2_237), List.forall_mem_cons.mpr ⟨u_known hgw in_X5 (hgw _ m_2_104), List.forall_mem_cons.mpr ⟨u_known hgw in_X6 (hgw _ m_3_25), List.forall_mem_cons.mpr ⟨u_known hgw in_X7 (hgw _ m_1_52), List.forall_mem_cons.mpr ⟨u_known hgw in_X8 (hgw _ m_1_138), List.forall_mem_cons.mpr ⟨u_known hgw in_X9 (hgw _ m_2_142), List.forall_mem_cons.mpr ⟨u_known hgw in_X10 (hgw _ m_2_56), List.forall_mem_cons.mpr ⟨u_known hgw in_X11 (hgw _ m_1_44), List.forall_mem_cons.mpr ⟨u_known hgw in_X12 (hgw _ m_12_190), List.forall_mem_cons.mpr ⟨u_known hgw in_X13 (hgw _ m_12_109), List.forall_mem_cons.mpr ⟨u_known hgw in_X14 (hgw _ m_9_205), List.forall_mem_cons.mpr ⟨u_known hgw in_X15 (hgw _ m_10_133), List.forall_mem_cons.mpr ⟨u_known hgw in_X16 (hgw _ m_13_134), List.forall_mem_cons.mpr ⟨u_known hgw in_X17 (hgw _ m_11_116), List.forall_mem_cons.mpr ⟨u_known hgw in_X18 (hgw _ m_9_170), fun _ h => nomatch h⟩⟩⟩⟩⟩⟩⟩⟩⟩⟩⟩⟩⟩⟩⟩⟩⟩⟩⟩⟩⟩⟩⟩
  have h2 : ∀ c : Nat, ∃ d : ClassId × (Nat → Nat), ∀ q, vwCl[c]? = some q → u_Kn s q.1 q.2.1 q.2.2 d.1 d.2 := by
    intro c
    cases e : vwCl[c]? with
    | none => exact ⟨(0, fun _ => 0), fun q hq => by cases hq⟩
    | some q =>
      obtain ⟨cC, iS, hq⟩ := h q (List.mem_of_getElem? e)
      exact ⟨(cC, iS), fun q' h' => by cases h'; exact hq⟩
  exact ⟨(fun c => (h2 c).choose.1, fun c => (h2 c).choose.2), fun c q hq => (h2 c).choose_spec q hq⟩
theorem law_arr {s : State} {args : Array Value} {ty : FieldType} (h : (Cond.arrayClass ty).before args s = true) : ∃ c : ClassId, ArrOfT s c ty ∧ s.vm.findClass ("[" ++ ty.toString) = some c := by
  obtain ⟨c, k, comp, h1, h2, h3⟩ := Cond.arrayClass_spec h
  exact ⟨c, fun N z => ⟨(fun q hq => by cases hq), k, h2, comp, h3⟩, h1⟩
theorem law_arrA {s : State} {args : Array Value} {ty : FieldType} (h : (Cond.arrayOver (.array ty)).before args s = true) : ∃ c : ClassId, ArrOfT s c (.array ty) ∧ s.vm.findClass ("[" ++ (FieldType.array ty).toString) = some c := by
  obtain ⟨comp, c, k, h1, h2, h3, h4⟩ := Cond.arrayOver_specA h
  exact ⟨c, fun N z => ⟨(fun q hq => by cases hq), k, h2, comp, h3⟩, h4⟩
theorem law_arrO {s : State} {args : Array Value} {C : String} (h : (Cond.arrayOver (.object C)).before args s = true) : ∃ c : ClassId, ArrOfT s c (.object C) ∧ va_RA s c (.object C) := by
  obtain ⟨comp, c, k, h1, -, h2, h3, h4⟩ := Cond.arrayOver_spec h
  exact ⟨c, fun N z => ⟨(fun q hq => by cases hq), k, h2, comp, h3⟩, k, comp, h2, h3, h1, h4⟩
theorem law_str {s : State} {args : Array Value} {own tx : String} {k : Nat} (h : (Cond.stringRef own k tx).before args s = true) : ∃ a, vk_R own k tx a s := by
  cases hc : s.vm.findClass own with
  | none => simp [Cond.before, Cond.holds, Cond.value, hc] at h
  | some cur =>
    obtain ⟨_, _, _, a, _, _, _, _, _, hev⟩ := Cond.stringRef_spec hc h
    exact ⟨a, vk_R.of h hev⟩
theorem law_A {s : State} {args : Array Value} (hts : ∀ w ∈ lw_tbl, w.before args s = true) : ∃ dA : Nat → ClassId, ∀ (k : Nat) (q : ClassId × FieldType), (tyl dA)[k]? = some q → ArrOfT s q.1 q.2 ∧ va_RA s q.1 q.2 := by
  obtain ⟨d0, h0⟩ := law_arr (hts _ (tt_1 136 rfl))
  obtain ⟨d1, h1⟩ := law_arr (hts _ (tt_2 140 rfl))
  obtain ⟨d2, h2⟩ := law_arr (hts _ (tt_2 194 rfl))
  obtain ⟨d3, h3⟩ := law_arr (hts _ (tt_1 163 rfl))
  obtain ⟨d4, h4⟩ := law_arr (hts _ (tt_14 23 rfl))
  obtain ⟨d5, h5⟩ := law_arrA (hts _ (tt_1 58 rfl))
  obtain ⟨d6, h6⟩ := law_arrA (hts _ (tt_2 150 rfl))
  obtain ⟨d7, h7⟩ := law_arrO (hts _ (tt_1 235 rfl))
  obtain ⟨d8, h8⟩ := law_arrO (hts _ (tt_2 62 rfl))
  obtain ⟨d9, h9⟩ := law_arrO (hts _ (tt_2 148 rfl))
  obtain ⟨d10, h10⟩ := law_arrO (hts _ (tt_9 211 rfl))
  obtain ⟨d11, h11⟩ := law_arrO (hts _ (tt_11 236 rfl))
  refine ⟨fun i => ([d0, d1, d2, d3, d4, d5, d6, d7, d8, d9, d10, d11] : List ClassId).getD i 0, fun k q hk => ?_⟩
  have hm := List.mem_of_getElem? hk
  simp only [tyl, List.mem_cons, List.not_mem_nil, or_false] at hm
  rcases hm with rfl | rfl | rfl | rfl | rfl | rfl | rfl | rfl | rfl | rfl | rfl | rfl
  · exact h0
  · exact h1
  · exact h2
  · exact h3
  · exact h4
  · exact h5
  · exact h6
  · exact h7
  · exact h8
  · exact h9
  · exact h10
  · exact h11
theorem in_gStr : ∀ q ∈ gStr, Cond.stringRef q.1 q.2.1 q.2.2 ∈ lw_tbl := List.forall_mem_cons.mpr ⟨tt_5 70 rfl, List.forall_mem_cons.mpr ⟨tt_5 106 rfl, List.forall_mem_cons.mpr ⟨tt_5 159 rfl, List.forall_mem_cons.mpr ⟨tt_5 176 rfl, List.forall_mem_cons.mpr ⟨tt_5 204 rfl, List.forall_mem_cons.mpr ⟨tt_5 209 rfl, List.forall_mem_cons.mpr ⟨tt_6 9 rfl, List.forall_mem_cons.mpr ⟨tt_6 17 rfl, List.forall_mem_cons.mpr ⟨tt_6 29 rfl, List.forall_mem_cons.mpr ⟨tt_6 64 rfl, List.forall_mem_cons.mpr ⟨tt_6 90 rfl, List.forall_mem_cons.mpr ⟨tt_6 91 rfl, List.forall_mem_cons.mpr ⟨tt_6 103 rfl, List.forall_mem_cons.mpr ⟨tt_6 108 rfl, List.forall_mem_cons.mpr ⟨tt_6 109 rfl, List.forall_mem_cons.mpr ⟨tt_6 238 rfl, List.forall_mem_cons.mpr ⟨tt_7 23 rfl, List.forall_mem_cons.mpr ⟨tt_7 28 rfl, List.forall_mem_cons.mpr ⟨tt_7 48 rfl, List.forall_mem_cons.mpr ⟨tt_7 75 rfl, List.forall_mem_cons.mpr ⟨tt_7 93 rfl, List.forall_mem_cons.mpr ⟨tt_7 98 rfl, List.forall_mem_cons.mpr ⟨tt_7 128 rfl, List.forall_mem_cons.mpr ⟨tt_7 140 rfl, List.forall_mem_cons.mpr ⟨tt_7 167 rfl, List.forall_mem_cons.mpr ⟨tt_7 186 rfl, List.forall_mem_cons.mpr ⟨tt_7 210 rfl, List.forall_mem_cons.mpr ⟨tt_8 107 rfl, List.forall_mem_cons.mpr ⟨tt_8 191 rfl, List.forall_mem_cons.mpr ⟨tt_8 196 rfl, List.forall_mem_cons.mpr ⟨tt_8 229 rfl, List.forall_mem_cons.mpr ⟨tt_9 9 rfl, List.forall_mem_cons.mpr ⟨tt_9 11 rfl, List.forall_mem_cons.mpr ⟨tt_9 24 rfl, List.forall_mem_cons.mpr ⟨tt_9 36 rfl, List.forall_mem_cons.mpr ⟨tt_9 53 rfl, List.forall_mem_cons.mpr ⟨tt_9 75 rfl, List.forall_mem_cons.mpr ⟨tt_9 98 rfl, List.forall_mem_cons.mpr ⟨tt_9 107 rfl, List.forall_mem_cons.mpr ⟨tt_9 152 rfl, fun _ h => nomatch h⟩⟩⟩⟩⟩⟩⟩⟩⟩⟩⟩⟩⟩⟩⟩⟩⟩⟩⟩⟩⟩⟩⟩⟩⟩⟩⟩⟩⟩⟩⟩⟩⟩⟩⟩⟩⟩⟩⟩⟩
theorem in_gNM : ∀ q ∈ gNM, Cond.methodLinkNest q.1 q.2.1 q.2.2.1 q.2.2.2 ∈ lw_tbl := List.forall_mem_cons.mpr ⟨tt_1 61 rfl, List.forall_mem_cons.mpr ⟨tt_1 139 rfl, List.forall_mem_cons.mpr ⟨tt_1 236 rfl, List.forall_mem_cons.mpr ⟨tt_2 54 rfl, List.forall_mem_cons.mpr ⟨tt_2 64 rfl, List.forall_mem_cons.mpr ⟨tt_2 65 rfl, List.forall_mem_cons.mpr ⟨tt_2 105 rfl, List.forall_mem_cons.mpr ⟨tt_2 152 rfl, List.forall_mem_cons.mpr ⟨tt_3 32 rfl, List.forall_mem_cons.mpr ⟨tt_4 138 rfl, List.forall_mem_cons.mpr ⟨tt_9 206 rfl, List.forall_mem_cons.mpr ⟨tt_10 134 rfl, fun _ h => nomatch h⟩⟩⟩⟩⟩⟩⟩⟩⟩⟩⟩⟩
theorem in_gNF : ∀ q ∈ gNF, Cond.fieldLinkNest q.1 q.2.1 q.2.2.1 q.2.2.2.1 q.2.2.2.2.1 q.2.2.2.2.2 ∈ lw_tbl := List.forall_mem_cons.mpr ⟨tt_1 186 rfl, List.forall_mem_cons.mpr ⟨tt_1 238 rfl, List.forall_mem_cons.mpr ⟨tt_9 191 rfl, List.forall_mem_cons.mpr ⟨tt_9 213 rfl, List.forall_mem_cons.mpr ⟨tt_9 215 rfl, List.forall_mem_cons.mpr ⟨tt_9 217 rfl, List.forall_mem_cons.mpr ⟨tt_9 219 rfl, List.forall_mem_cons.mpr ⟨tt_9 221 rfl, List.forall_mem_cons.mpr ⟨tt_9 223 rfl, List.forall_mem_cons.mpr ⟨tt_10 139 rfl, List.forall_mem_cons.mpr ⟨tt_10 141 rfl, List.forall_mem_cons.mpr ⟨tt_10 143 rfl, List.forall_mem_cons.mpr ⟨tt_10 145 rfl, List.forall_mem_cons.mpr ⟨tt_10 147 rfl, List.forall_mem_cons.mpr ⟨tt_10 149 rfl, List.forall_mem_cons.mpr ⟨tt_10 151 rfl, List.forall_mem_cons.mpr ⟨tt_10 153 rfl, List.forall_mem_cons.mpr ⟨tt_10 155 rfl, List.forall_mem_cons.mpr ⟨tt_10 157 rfl, List.forall_mem_cons.mpr ⟨tt_10 159 rfl, List.forall_mem_cons.mpr ⟨tt_10 161 rfl, List.forall_mem_cons.mpr ⟨tt_10 163 rfl, List.forall_mem_cons.mpr ⟨tt_10 164 rfl, List.forall_mem_cons.mpr ⟨tt_10 165 rfl, List.forall_mem_cons.mpr ⟨tt_11 122 rfl, List.forall_mem_cons.mpr ⟨tt_11 124 rfl, List.forall_mem_cons.mpr ⟨tt_11 126 rfl, List.forall_mem_cons.mpr ⟨tt_11 128 rfl, List.forall_mem_cons.mpr ⟨tt_11 130 rfl, List.forall_mem_cons.mpr ⟨tt_11 131 rfl, List.forall_mem_cons.mpr ⟨tt_11 132 rfl, List.forall_mem_cons.mpr ⟨tt_11 133 rfl, List.forall_mem_cons.mpr ⟨tt_11 134 rfl, List.forall_mem_cons.mpr ⟨tt_11 136 rfl, List.forall_mem_cons.mpr ⟨tt_11 137 rfl, List.forall_mem_cons.mpr ⟨tt_11 138 rfl, List.forall_mem_cons.mpr ⟨tt_11 139 rfl, List.forall_mem_cons.mpr ⟨tt_11 140 rfl, List.forall_mem_cons.mpr ⟨tt_11 141 rfl, List.forall_mem_cons.mpr ⟨tt_12 115 rfl, List.forall_mem_cons.mpr ⟨tt_12 117 rfl, List.forall_mem_cons.mpr ⟨tt_12 196 rfl, List.forall_mem_cons.mpr ⟨tt_12 198 rfl, List.forall_mem_cons.mpr ⟨tt_12 200 rfl, List.forall_mem_cons.mpr ⟨tt_12 202 rfl, List.forall_mem_cons.mpr ⟨tt_12 204 rfl, List.forall_mem_cons.mpr ⟨tt_12 206 rfl, List.forall_mem_cons.mpr ⟨tt_12 207 rfl, List.forall_mem_cons.mpr ⟨tt_12 208 rfl, List.forall_mem_cons.mpr ⟨tt_12 209 rfl, List.forall_mem_cons.mpr ⟨tt_12 211 rfl, List.forall_mem_cons.mpr ⟨tt_13 140 rfl, List.forall_mem_cons.mpr ⟨tt_13 142 rfl, List.forall_mem_cons.mpr ⟨tt_13 144 rfl, List.forall_mem_cons.mpr ⟨tt_13 146 rfl, List.forall_mem_cons.mpr ⟨tt_13 148 rfl, List.forall_mem_cons.mpr ⟨tt_13 150 rfl, List.forall_mem_cons.mpr ⟨tt_13 152 rfl, List.forall_mem_cons.mpr ⟨tt_13 153 rfl, List.forall_mem_cons.mpr ⟨tt_13 155 rfl, fun _ h => nomatch h⟩⟩⟩⟩⟩⟩⟩⟩⟩⟩⟩⟩⟩⟩⟩⟩⟩⟩⟩⟩⟩⟩⟩⟩⟩⟩⟩⟩⟩⟩⟩⟩⟩⟩⟩⟩⟩⟩⟩⟩⟩⟩⟩⟩⟩⟩⟩⟩⟩⟩⟩⟩⟩⟩⟩⟩⟩⟩⟩⟩
theorem in_gCa : ∀ q ∈ gCa, Cond.castable q.1 q.2 ∈ lw_tbl := List.forall_mem_cons.mpr ⟨tt_5 27 rfl, List.forall_mem_cons.mpr ⟨tt_5 99 rfl, List.forall_mem_cons.mpr ⟨tt_5 132 rfl, List.forall_mem_cons.mpr ⟨tt_5 152 rfl, List.forall_mem_cons.mpr ⟨tt_5 169 rfl, List.forall_mem_cons.mpr ⟨tt_6 2 rfl, List.forall_mem_cons.mpr ⟨tt_9 141 rfl, List.forall_mem_cons.mpr ⟨tt_12 49 rfl, List.forall_mem_cons.mpr ⟨tt_14 25 rfl, List.forall_mem_cons.mpr ⟨tt_14 26 rfl, List.forall_mem_cons.mpr ⟨tt_14 27 rfl, List.forall_mem_cons.mpr ⟨tt_14 28 rfl, List.forall_mem_cons.mpr ⟨tt_14 29 rfl, List.forall_mem_cons.mpr ⟨tt_14 30 rfl, List.forall_mem_cons.mpr ⟨tt_14 31 rfl, List.forall_mem_cons.mpr ⟨tt_14 32 rfl, List.forall_mem_cons.mpr ⟨tt_14 33 rfl, List.forall_mem_cons.mpr ⟨tt_14 34 rfl, List.forall_mem_cons.mpr ⟨tt_14 35 rfl, List.forall_mem_cons.mpr ⟨tt_14 36 rfl, List.forall_mem_cons.mpr ⟨tt_14 37 rfl, List.forall_mem_cons.mpr ⟨tt_14 38 rfl, List.forall_mem_cons.mpr ⟨tt_14 39 rfl, List.forall_mem_cons.mpr ⟨tt_14 40 rfl, List.forall_mem_cons.mpr ⟨tt_14 41 rfl, List.forall_mem_cons.mpr ⟨tt_14 42 rfl, List.forall_mem_cons.mpr ⟨tt_14 43 rfl, List.forall_mem_cons.mpr ⟨tt_14 44 rfl, List.forall_mem_cons.mpr ⟨tt_14 45 rfl, List.forall_mem_cons.mpr ⟨tt_14 46 rfl, List.forall_mem_cons.mpr ⟨tt_14 47 rfl, List.forall_mem_cons.mpr ⟨tt_14 48 rfl, List.forall_mem_cons.mpr ⟨tt_14 49 rfl, List.forall_mem_cons.mpr ⟨tt_14 50 rfl, List.forall_mem_cons.mpr ⟨tt_14 51 rfl, List.forall_mem_cons.mpr ⟨tt_14 52 rfl, List.forall_mem_cons.mpr ⟨tt_14 53 rfl, List.forall_mem_cons.mpr ⟨tt_14 54 rfl, List.forall_mem_cons.mpr ⟨tt_14 55 rfl, List.forall_mem_cons.mpr ⟨tt_14 59 rfl, List.forall_mem_cons.mpr ⟨tt_14 60 rfl, List.forall_mem_cons.mpr ⟨tt_14 61 rfl, List.forall_mem_cons.mpr ⟨tt_14 62 rfl, List.forall_mem_cons.mpr ⟨tt_14 63 rfl, List.forall_mem_cons.mpr ⟨tt_14 64 rfl, List.forall_mem_cons.mpr ⟨tt_14 65 rfl, List.forall_mem_cons.mpr ⟨tt_14 66 rfl, List.forall_mem_cons.mpr ⟨tt_14 67 rfl, List.forall_mem_cons.mpr ⟨tt_14 68 rfl, List.forall_mem_cons.mpr ⟨tt_14 69 rfl, List.forall_mem_cons.mpr ⟨tt_14 70 rfl, List.forall_mem_cons.mpr ⟨tt_14 71 rfl, fun _ h => nomatch h⟩⟩⟩⟩⟩⟩⟩⟩⟩⟩⟩⟩⟩⟩⟩⟩⟩⟩⟩⟩⟩⟩⟩⟩⟩⟩⟩⟩⟩⟩⟩⟩⟩⟩⟩⟩⟩⟩⟩⟩⟩⟩⟩⟩⟩⟩⟩⟩⟩⟩⟩⟩
theorem in_gAO : ∀ q ∈ gAO, Cond.arrayOver (.object q) ∈ lw_tbl := List.forall_mem_cons.mpr ⟨tt_1 235 rfl, List.forall_mem_cons.mpr ⟨tt_2 62 rfl, List.forall_mem_cons.mpr ⟨tt_2 148 rfl, List.forall_mem_cons.mpr ⟨tt_9 211 rfl, List.forall_mem_cons.mpr ⟨tt_11 236 rfl, fun _ h => nomatch h⟩⟩⟩⟩⟩
theorem in_gDe : ∀ q ∈ gDe, Cond.declares q ∈ lw_tbl := List.forall_mem_cons.mpr ⟨tt_5 28 rfl, List.forall_mem_cons.mpr ⟨tt_5 29 rfl, List.forall_mem_cons.mpr ⟨tt_5 30 rfl, List.forall_mem_cons.mpr ⟨tt_5 31 rfl, List.forall_mem_cons.mpr ⟨tt_5 32 rfl, List.forall_mem_cons.mpr ⟨tt_5 33 rfl, List.forall_mem_cons.mpr ⟨tt_5 133 rfl, List.forall_mem_cons.mpr ⟨tt_5 134 rfl, List.forall_mem_cons.mpr ⟨tt_12 48 rfl, List.forall_mem_cons.mpr ⟨tt_12 58 rfl, List.forall_mem_cons.mpr ⟨tt_14 58 rfl, fun _ h => nomatch h⟩⟩⟩⟩⟩⟩⟩⟩⟩⟩⟩
theorem law_gs {s : State} {b : Nat} (hts : ∀ w ∈ lw_tbl, w.before #[Value.ref b] s = true) (hgv : (Jvm.Cond.and given_1 narrow_1).before #[Value.ref b] s = true) : ∃ tE tC : Nat, gs tE tC (fun q => s.heap.size ≤ q) s := by
  have hs := flat_of_before _ hgv
  have hN : ∀ a : Nat, a < s.heap.size → ¬ (fun q : Nat => s.heap.size ≤ q) a := fun a h => Nat.not_le.mpr h
  have e0 : (Cond.eq (.length (.static "java/util/ArrayList" "DEFAULTCAPACITY_EMPTY_ELEMENTDATA" "[Ljava/lang/Object;")) (.int 0)).before #[Value.ref b] s = true := hs _ (by decide +kernel)
  have e1 : (Cond.arrayOf (.static "java/util/ArrayList" "DEFAULTCAPACITY_EMPTY_ELEMENTDATA" "[Ljava/lang/Object;") (.object "java/lang/Object")).before #[Value.ref b] s = true := hs _ (by decide +kernel)
  obtain ⟨tE, eE, hE⟩ := va_Tof (N := 0) (f := fun _ => .null) (A := fun q => s.heap.size ≤ q) (by decide) e1 (va_eqt e0) (fun j h => absurd h (Nat.not_lt_zero j)) hN
  have e2 : (Cond.eq (.length (.static "Blazonry" "CHARGE_BITS" "[I")) (.int 8)).before #[Value.ref b] s = true := hs _ (by decide +kernel)
  have e3 : (Cond.arrayOf (.static "Blazonry" "CHARGE_BITS" "[I") .int).before #[Value.ref b] s = true := hs _ (by decide +kernel)
  have f0 : (Cond.eq (.elem (.static "Blazonry" "CHARGE_BITS" "[I") (.int 0)) (.int 186)).before #[Value.ref b] s = true := hs _ (by decide +kernel)
  have f1 : (Cond.eq (.elem (.static "Blazonry" "CHARGE_BITS" "[I") (.int 1)) (.int 341)).before #[Value.ref b] s = true := hs _ (by decide +kernel)
  have f2 : (Cond.eq (.elem (.static "Blazonry" "CHARGE_BITS" "[I") (.int 2)) (.int 146)).before #[Value.ref b] s = true := hs _ (by decide +kernel)
  have f3 : (Cond.eq (.elem (.static "Blazonry" "CHARGE_BITS" "[I") (.int 3)) (.int 56)).before #[Value.ref b] s = true := hs _ (by decide +kernel)
  have f4 : (Cond.eq (.elem (.static "Blazonry" "CHARGE_BITS" "[I") (.int 4)) (.int 495)).before #[Value.ref b] s = true := hs _ (by decide +kernel)
  have f5 : (Cond.eq (.elem (.static "Blazonry" "CHARGE_BITS" "[I") (.int 5)) (.int 511)).before #[Value.ref b] s = true := hs _ (by decide +kernel)
  have f6 : (Cond.eq (.elem (.static "Blazonry" "CHARGE_BITS" "[I") (.int 6)) (.int 434)).before #[Value.ref b] s = true := hs _ (by decide +kernel)
  have f7 : (Cond.eq (.elem (.static "Blazonry" "CHARGE_BITS" "[I") (.int 7)) (.int 244)).before #[Value.ref b] s = true := hs _ (by decide +kernel)
  obtain ⟨tC, eC, hC⟩ := va_Tof (N := 8) (f := fun k => .int (cBits k)) (A := fun q => s.heap.size ≤ q) (by decide) e3 (va_eqt e2) (fun j hj => by
    rcases (show j = 0 ∨ j = 1 ∨ j = 2 ∨ j = 3 ∨ j = 4 ∨ j = 5 ∨ j = 6 ∨ j = 7 by omega) with rfl | rfl | rfl | rfl | rfl | rfl | rfl | rfl
    · exact va_eqt f0
    · exact va_eqt f1
    · exact va_eqt f2
    · exact va_eqt f3
    · exact va_eqt f4
    · exact va_eqt f5
    · exact va_eqt f6
    · exact va_eqt f7) hN
  have h5 : ∀ q ∈ gNo, (Cond.not (.castable q.1 q.2)).before #[Value.ref b] s = true := List.forall_mem_cons.mpr ⟨hs _ (by decide +kernel), List.forall_mem_cons.mpr ⟨hs _ (by decide +kernel), List.forall_mem_cons.mpr ⟨hs _ (by decide +kernel), List.forall_mem_cons.mpr ⟨hs _ (by decide +kernel), List.forall_mem_cons.mpr ⟨hs _ (by decide +kernel), List.forall_mem_cons.mpr ⟨hs _ (by decide +kernel), List.forall_mem_cons.mpr ⟨hs _ (by decide +kernel), List.forall_mem_cons.mpr ⟨hs _ (by decide +kernel), List.forall_mem_cons.mpr ⟨hs _ (by decide +kernel), List.forall_mem_cons.mpr ⟨hs _ (by decide +kernel), List.forall_mem_cons.mpr ⟨hs _ (by decide +kernel), List.forall_mem_cons.mpr ⟨hs _ (by decide +kernel), List.forall_mem_cons.mpr ⟨hs _ (by decide +kernel), List.forall_mem_cons.mpr ⟨hs _ (by decide +kernel), List.forall_mem_cons.mpr ⟨hs _ (by decide +kernel), List.forall_mem_cons.mpr ⟨hs _ (by decide +kernel), List.forall_mem_cons.mpr ⟨hs _ (by decide +kernel), List.forall_mem_cons.mpr ⟨hs _ (by decide +kernel), List.forall_mem_cons.mpr ⟨hs _ (by decide +kernel), List.forall_mem_cons.mpr ⟨hs _ (by decide +kernel), List.forall_mem_cons.mpr ⟨hs _ (by decide +kernel), List.forall_mem_cons.mpr ⟨hs _ (by decide +kernel), List.forall_mem_cons.mpr ⟨hs _ (by decide +kernel), List.forall_mem_cons.mpr ⟨hs _ (by decide +kernel), List.forall_mem_cons.mpr ⟨hs _ (by decide +kernel), List.forall_mem_cons.mpr ⟨hs _ (by decide +kernel), List.forall_mem_cons.mpr ⟨hs _ (by decide +kernel), List.forall_mem_cons.mpr ⟨hs _ (by decide +kernel), List.forall_mem_cons.mpr ⟨hs _ (by decide +kernel), List.forall_mem_cons.mpr ⟨hs _ (by decide +kernel), List.forall_mem_cons.mpr ⟨hs _ (by decide +kernel), List.forall_mem_cons.mpr ⟨hs _ (by decide +kernel), List.forall_mem_cons.mpr ⟨hs _ (by decide +kernel), List.forall_mem_cons.mpr ⟨hs _ (by decide +kernel), List.forall_mem_cons.mpr ⟨hs _ (by decide +kernel), fun _ h => nomatch h⟩⟩⟩⟩⟩⟩⟩⟩⟩⟩⟩⟩⟩⟩⟩⟩⟩⟩⟩⟩⟩⟩⟩⟩⟩⟩⟩⟩⟩⟩⟩⟩⟩⟩⟩
  refine ⟨tE, tC, fun q hq => law_str (hts _ (in_gStr q hq)), fun q hq => va_Nw.of rfl (hts _ (in_gNM q hq)), fun q hq => va_Nw.of rfl (hts _ (in_gNF q hq)), fun q hq => va_Nw.of rfl (hts _ (in_gCa q hq)), fun q hq => va_Nc.of (h5 q hq), fun q hq => va_AO.of (hts _ (in_gAO q hq)), hts _ (tt_1 58 rfl), hts _ (tt_2 150 rfl), ?_, ?_, ?_, ?_, hE, ?_, hC, fun q hq => va_Nw.of rfl (hts _ (in_gDe q hq))⟩
  · exact va_Fw.of (hts _ (tt_12 48 rfl)) (hts _ (tt_12 47 rfl)) (hts _ (tt_12 53 rfl)) (hts _ (tt_12 51 rfl)) (hts _ (tt_12 49 rfl))
  · exact vx_Zqof (hts _ (tt_5 52 rfl)) (hts _ (tt_1 20 rfl)) (hs _ (by decide +kernel)) hN
  · exact vx_Zqof (hts _ (tt_5 54 rfl)) (hts _ (tt_1 20 rfl)) (hs _ (by decide +kernel)) hN
  · exact va_Zof (hts _ (tt_9 188 rfl)) (hts _ (tt_1 18 rfl)) eE hN
  · exact va_Zof (hts _ (tt_1 187 rfl)) (hts _ (tt_1 1 rfl)) eC hN
set_option maxHeartbeats 4000000 in
set_option maxRecDepth 100000 in
theorem law_tail (l : Launch) (hfl : l.stackTraces = false) (D : va_G) (dA : Nat → ClassId) (tE tC : Nat) (b : Nat) {xs : Nat → Int32} {p : Program} {e : Env} {s : State} {m : MethodId} {below : List Frame} {meth : Method} {c : Code} {Qw : State → Prop} (hx : p.tables.exec = Jvm.exec) (hb : c.code = code) (hml : c.maxLocals = 9) (hown : s.vm.findClass RL = some m.cls) (hgw : ∀ w ∈ gW, w.before #[Value.ref b] s = true) (hK : va_K D vwCl (tyl dA) s) {A : Nat → Prop} (hG : gs tE tC A s) (hA : ∀ q, s.heap.size ≤ q → A q) (hX : va_X b 5 xs s s.heap) (hbl : b < s.heap.size) (hbA : ¬ A b) {H : Heap} {locs : List Loc} {ls : Array Slot} {cells slots : Nat} (hS : va_S A s.heap H locs) (hl : lv_has ls 9 [(5, .int 0), (0, .ref b)]) (K : ∀ ls : Array Slot, W p l e ({ frames := 2048, cells := 600006, slots := 7302048, locals := 94400 } : Room) s m #[Value.ref b] below meth c H locs cells slots Qw (F0 m 3907 ls [.int 1])) : W p l e ({ frames := 2048, cells := 600006, slots := 7302048, locals := 94400 } : Room) s m #[Value.ref b] below meth c H locs cells slots Qw (F0 m 3900 ls []) := by
  refine lv_iinc (v := 5) (lv' := [(5, .int 5), (0, .ref b)]) hx hb dL_law_3900 hl (k := 0) rfl (by decide +kernel) (by decide) rfl (fun ls hl => ?_)
  refine lv_goto (tgt := 28) hx hb dL_law_3903 (by decide) ?_
  refine lv_iload hx hb dL_law_28 (lv_at hl 0 rfl) ?_
  refine lv_aload_n hx hb dL_law_30 rfl (lv_at hl 1 rfl) ?_
  refine va_slen hx hb hX hbl hbA hS dL_law_31 ?_
  refine kq_topi (y := 5) (by decide +kernel) ?_
  refine lv_iconst (v := 5) hx hb dL_law_32 (by decide) ?_
  refine lv_isub hx hb dL_law_33 ?_
  refine kq_topi (y := 0) (by decide +kernel) ?_
  refine lv_icmp_gt (tgt := 3906) hx hb dL_law_34 (by decide) (fun _ => ?_) (fun h => absurd (by decide +kernel) h)
  refine lv_iconst (v := 1) hx hb dL_law_3906 (by decide) ?_
  exact K ls
set_option maxHeartbeats 4000000 in
set_option maxRecDepth 100000 in
theorem law_short_0 (l : Launch) (hfl : l.stackTraces = false) (D : va_G) (dA : Nat → ClassId) (tE tC : Nat) (b : Nat) {xs : Nat → Int32} {p : Program} {e : Env} {s : State} {m : MethodId} {below : List Frame} {meth : Method} {c : Code} {Qw : State → Prop} (hx : p.tables.exec = Jvm.exec) (hb : c.code = code) (hml : c.maxLocals = 9) (hown : s.vm.findClass RL = some m.cls) (hgw : ∀ w ∈ gW, w.before #[Value.ref b] s = true) (hK : va_K D vwCl (tyl dA) s) {A : Nat → Prop} (hG : gs tE tC A s) (hA : ∀ q, s.heap.size ≤ q → A q) (hX : va_X b 0 xs s s.heap) (hbl : b < s.heap.size) (hbA : ¬ A b) {H : Heap} {locs : List Loc} {ls : Array Slot} {cells slots : Nat} (hS : va_S A s.heap H locs) (hl : lv_has ls 9 [(5, .int 0), (0, .ref b)]) (K : ∀ ls : Array Slot, W p l e ({ frames := 2048, cells := 600006, slots := 7302048, locals := 94400 } : Room) s m #[Value.ref b] below meth c H locs cells slots Qw (F0 m 3907 ls [.int 1])) : W p l e ({ frames := 2048, cells := 600006, slots := 7302048, locals := 94400 } : Room) s m #[Value.ref b] below meth c H locs cells slots Qw (F0 m 28 ls []) := by
  refine lv_iload hx hb dL_law_28 (lv_at hl 0 rfl) ?_
  refine lv_aload_n hx hb dL_law_30 rfl (lv_at hl 1 rfl) ?_
  refine va_slen hx hb hX hbl hbA hS dL_law_31 ?_
  refine kq_topi (y := 0) (by decide +kernel) ?_
  refine lv_iconst (v := 5) hx hb dL_law_32 (by decide) ?_
  refine lv_isub hx hb dL_law_33 ?_
  refine kq_topi (y := (-5)) (by decide +kernel) ?_
  refine lv_icmp_gt (tgt := 3906) hx hb dL_law_34 (by decide) (fun _ => ?_) (fun h => absurd (by decide +kernel) h)
  refine lv_iconst (v := 1) hx hb dL_law_3906 (by decide) ?_
  exact K ls
set_option maxHeartbeats 4000000 in
set_option maxRecDepth 100000 in
theorem law_short_1 (l : Launch) (hfl : l.stackTraces = false) (D : va_G) (dA : Nat → ClassId) (tE tC : Nat) (b : Nat) {xs : Nat → Int32} {p : Program} {e : Env} {s : State} {m : MethodId} {below : List Frame} {meth : Method} {c : Code} {Qw : State → Prop} (hx : p.tables.exec = Jvm.exec) (hb : c.code = code) (hml : c.maxLocals = 9) (hown : s.vm.findClass RL = some m.cls) (hgw : ∀ w ∈ gW, w.before #[Value.ref b] s = true) (hK : va_K D vwCl (tyl dA) s) {A : Nat → Prop} (hG : gs tE tC A s) (hA : ∀ q, s.heap.size ≤ q → A q) (hX : va_X b 1 xs s s.heap) (hbl : b < s.heap.size) (hbA : ¬ A b) {H : Heap} {locs : List Loc} {ls : Array Slot} {cells slots : Nat} (hS : va_S A s.heap H locs) (hl : lv_has ls 9 [(5, .int 0), (0, .ref b)]) (K : ∀ ls : Array Slot, W p l e ({ frames := 2048, cells := 600006, slots := 7302048, locals := 94400 } : Room) s m #[Value.ref b] below meth c H locs cells slots Qw (F0 m 3907 ls [.int 1])) : W p l e ({ frames := 2048, cells := 600006, slots := 7302048, locals := 94400 } : Room) s m #[Value.ref b] below meth c H locs cells slots Qw (F0 m 28 ls []) := by
  refine lv_iload hx hb dL_law_28 (lv_at hl 0 rfl) ?_
  refine lv_aload_n hx hb dL_law_30 rfl (lv_at hl 1 rfl) ?_
  refine va_slen hx hb hX hbl hbA hS dL_law_31 ?_
  refine kq_topi (y := 1) (by decide +kernel) ?_
  refine lv_iconst (v := 5) hx hb dL_law_32 (by decide) ?_
  refine lv_isub hx hb dL_law_33 ?_
  refine kq_topi (y := (-4)) (by decide +kernel) ?_
  refine lv_icmp_gt (tgt := 3906) hx hb dL_law_34 (by decide) (fun _ => ?_) (fun h => absurd (by decide +kernel) h)
  refine lv_iconst (v := 1) hx hb dL_law_3906 (by decide) ?_
  exact K ls
set_option maxHeartbeats 4000000 in
set_option maxRecDepth 100000 in
theorem law_short_2 (l : Launch) (hfl : l.stackTraces = false) (D : va_G) (dA : Nat → ClassId) (tE tC : Nat) (b : Nat) {xs : Nat → Int32} {p : Program} {e : Env} {s : State} {m : MethodId} {below : List Frame} {meth : Method} {c : Code} {Qw : State → Prop} (hx : p.tables.exec = Jvm.exec) (hb : c.code = code) (hml : c.maxLocals = 9) (hown : s.vm.findClass RL = some m.cls) (hgw : ∀ w ∈ gW, w.before #[Value.ref b] s = true) (hK : va_K D vwCl (tyl dA) s) {A : Nat → Prop} (hG : gs tE tC A s) (hA : ∀ q, s.heap.size ≤ q → A q) (hX : va_X b 2 xs s s.heap) (hbl : b < s.heap.size) (hbA : ¬ A b) {H : Heap} {locs : List Loc} {ls : Array Slot} {cells slots : Nat} (hS : va_S A s.heap H locs) (hl : lv_has ls 9 [(5, .int 0), (0, .ref b)]) (K : ∀ ls : Array Slot, W p l e ({ frames := 2048, cells := 600006, slots := 7302048, locals := 94400 } : Room) s m #[Value.ref b] below meth c H locs cells slots Qw (F0 m 3907 ls [.int 1])) : W p l e ({ frames := 2048, cells := 600006, slots := 7302048, locals := 94400 } : Room) s m #[Value.ref b] below meth c H locs cells slots Qw (F0 m 28 ls []) := by
  refine lv_iload hx hb dL_law_28 (lv_at hl 0 rfl) ?_
  refine lv_aload_n hx hb dL_law_30 rfl (lv_at hl 1 rfl) ?_
  refine va_slen hx hb hX hbl hbA hS dL_law_31 ?_
  refine kq_topi (y := 2) (by decide +kernel) ?_
  refine lv_iconst (v := 5) hx hb dL_law_32 (by decide) ?_
  refine lv_isub hx hb dL_law_33 ?_
  refine kq_topi (y := (-3)) (by decide +kernel) ?_
  refine lv_icmp_gt (tgt := 3906) hx hb dL_law_34 (by decide) (fun _ => ?_) (fun h => absurd (by decide +kernel) h)
  refine lv_iconst (v := 1) hx hb dL_law_3906 (by decide) ?_
  exact K ls
set_option maxHeartbeats 4000000 in
set_option maxRecDepth 100000 in
theorem law_short_3 (l : Launch) (hfl : l.stackTraces = false) (D : va_G) (dA : Nat → ClassId) (tE tC : Nat) (b : Nat) {xs : Nat → Int32} {p : Program} {e : Env} {s : State} {m : MethodId} {below : List Frame} {meth : Method} {c : Code} {Qw : State → Prop} (hx : p.tables.exec = Jvm.exec) (hb : c.code = code) (hml : c.maxLocals = 9) (hown : s.vm.findClass RL = some m.cls) (hgw : ∀ w ∈ gW, w.before #[Value.ref b] s = true) (hK : va_K D vwCl (tyl dA) s) {A : Nat → Prop} (hG : gs tE tC A s) (hA : ∀ q, s.heap.size ≤ q → A q) (hX : va_X b 3 xs s s.heap) (hbl : b < s.heap.size) (hbA : ¬ A b) {H : Heap} {locs : List Loc} {ls : Array Slot} {cells slots : Nat} (hS : va_S A s.heap H locs) (hl : lv_has ls 9 [(5, .int 0), (0, .ref b)]) (K : ∀ ls : Array Slot, W p l e ({ frames := 2048, cells := 600006, slots := 7302048, locals := 94400 } : Room) s m #[Value.ref b] below meth c H locs cells slots Qw (F0 m 3907 ls [.int 1])) : W p l e ({ frames := 2048, cells := 600006, slots := 7302048, locals := 94400 } : Room) s m #[Value.ref b] below meth c H locs cells slots Qw (F0 m 28 ls []) := by
  refine lv_iload hx hb dL_law_28 (lv_at hl 0 rfl) ?_
  refine lv_aload_n hx hb dL_law_30 rfl (lv_at hl 1 rfl) ?_
  refine va_slen hx hb hX hbl hbA hS dL_law_31 ?_
  refine kq_topi (y := 3) (by decide +kernel) ?_
  refine lv_iconst (v := 5) hx hb dL_law_32 (by decide) ?_
  refine lv_isub hx hb dL_law_33 ?_
  refine kq_topi (y := (-2)) (by decide +kernel) ?_
  refine lv_icmp_gt (tgt := 3906) hx hb dL_law_34 (by decide) (fun _ => ?_) (fun h => absurd (by decide +kernel) h)
  refine lv_iconst (v := 1) hx hb dL_law_3906 (by decide) ?_
  exact K ls
set_option maxHeartbeats 4000000 in
set_option maxRecDepth 100000 in
theorem law_short_4 (l : Launch) (hfl : l.stackTraces = false) (D : va_G) (dA : Nat → ClassId) (tE tC : Nat) (b : Nat) {xs : Nat → Int32} {p : Program} {e : Env} {s : State} {m : MethodId} {below : List Frame} {meth : Method} {c : Code} {Qw : State → Prop} (hx : p.tables.exec = Jvm.exec) (hb : c.code = code) (hml : c.maxLocals = 9) (hown : s.vm.findClass RL = some m.cls) (hgw : ∀ w ∈ gW, w.before #[Value.ref b] s = true) (hK : va_K D vwCl (tyl dA) s) {A : Nat → Prop} (hG : gs tE tC A s) (hA : ∀ q, s.heap.size ≤ q → A q) (hX : va_X b 4 xs s s.heap) (hbl : b < s.heap.size) (hbA : ¬ A b) {H : Heap} {locs : List Loc} {ls : Array Slot} {cells slots : Nat} (hS : va_S A s.heap H locs) (hl : lv_has ls 9 [(5, .int 0), (0, .ref b)]) (K : ∀ ls : Array Slot, W p l e ({ frames := 2048, cells := 600006, slots := 7302048, locals := 94400 } : Room) s m #[Value.ref b] below meth c H locs cells slots Qw (F0 m 3907 ls [.int 1])) : W p l e ({ frames := 2048, cells := 600006, slots := 7302048, locals := 94400 } : Room) s m #[Value.ref b] below meth c H locs cells slots Qw (F0 m 28 ls []) := by
  refine lv_iload hx hb dL_law_28 (lv_at hl 0 rfl) ?_
  refine lv_aload_n hx hb dL_law_30 rfl (lv_at hl 1 rfl) ?_
  refine va_slen hx hb hX hbl hbA hS dL_law_31 ?_
  refine kq_topi (y := 4) (by decide +kernel) ?_
  refine lv_iconst (v := 5) hx hb dL_law_32 (by decide) ?_
  refine lv_isub hx hb dL_law_33 ?_
  refine kq_topi (y := (-1)) (by decide +kernel) ?_
  refine lv_icmp_gt (tgt := 3906) hx hb dL_law_34 (by decide) (fun _ => ?_) (fun h => absurd (by decide +kernel) h)
  refine lv_iconst (v := 1) hx hb dL_law_3906 (by decide) ?_
  exact K ls
theorem law_end {p : Program} {l : Launch} {e : Env} {s : State} {m : MethodId} {below : List Frame} {meth : Method} {c : Code} {b : Nat} (hx : p.tables.exec = Jvm.exec) (hb : c.code = code) (hr : meth.sig.returnType = ret) (hlocks : meth.locks = false) {H : Heap} {locs : List Loc} {cells slots : Nat} (hS : va_S (fun q => s.heap.size ≤ q) s.heap H locs) (h1 : cells ≤ 600006) (h2 : slots ≤ 7302048) (ls : Array Slot) : W p l e room_1 s m #[Value.ref b] below meth c H locs cells slots (lw_Z below #[Value.ref b] s) (F0 m 3907 ls [.int 1]) := by
  refine va_forget hS.2.2 ?_
  refine W.widen h1 h2 ?_
  exact W.base (lw_ret (d0 := s.drawn) (Drawn.sameBut.refl s.drawn lw_cs) hx hb hr hlocks dL_law_3907)
