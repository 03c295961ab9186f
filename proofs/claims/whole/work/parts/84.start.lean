/-! the law from its entry -/
theorem arr_prim {args : Array Value} {s : State} {ty : FieldType} (h : (Cond.arrayClass ty).before args s = true) (hty : ∀ C, ty ≠ .object C) : ∃ cA, ArrOfT s cA ty ∧ va_RA s cA ty := by
  obtain ⟨cA, kA, comp, h1, h2, h3⟩ := Cond.arrayClass_spec h
  refine ⟨cA, fun n z => ⟨fun k h => (by cases h), kA, h2, comp, h3⟩, ?_⟩
  cases ty with
  | object C => exact absurd rfl (hty C)
  | _ => exact h1
theorem arr_obj {args : Array Value} {s : State} {C : String} (h : (Cond.arrayOver (.object C)).before args s = true) : ∃ cA, ArrOfT s cA (.object C) ∧ va_RA s cA (.object C) := by
  obtain ⟨comp, cA, kA, h1, h2, h3, h4, h5⟩ := Cond.arrayOver_spec h
  exact ⟨cA, fun n z => ⟨fun k h => (by cases h), kA, h3, comp, h4⟩, kA, comp, h3, h4, h1, h5⟩
theorem lw_known {s : State} {args : Array Value} (hts : ∀ w ∈ zm_tb, w.before args s = true) (hN : ∀ w ∈ zm_nw, w.before args s = true) : ∃ (D : va_G) (dA : Nat → ClassId), va_K D vwCl (zm_tys dA) s := by
  obtain ⟨c0, i0, k0⟩ := u_known (C := RX0) (T := TX0) (N := 4) (n := 4) hts zm_in0 (hts _ kn_X0)
  obtain ⟨c1, i1, k1⟩ := u_known (C := RX1) (T := TX1) (N := 9) (n := 9) hts zm_in1 (hts _ kn_X1)
  obtain ⟨c2, i2, k2⟩ := u_known (C := RX2) (T := TX2) (N := 18) (n := 18) hts zm_in2 (hts _ kn_X2)
  obtain ⟨c3, i3, k3⟩ := u_known (C := RX3) (T := TX3) (N := 8) (n := 8) hts zm_in3 (hts _ kn_X3)
  obtain ⟨c4, i4, k4⟩ := u_known (C := RX4) (T := TX4) (N := 29) (n := 29) hts zm_in4 (hts _ kn_X4)
  obtain ⟨b0, a0⟩ := arr_prim (hts _ ka_int) (fun C z => by cases z)
  obtain ⟨b1, a1⟩ := arr_prim (hts _ ka_long) (fun C z => by cases z)
  obtain ⟨b2, a2⟩ := arr_obj (hN (.arrayOver (.object RX2)) (by simp [zm_nw]))
  obtain ⟨b3, a3⟩ := arr_obj (hN (.arrayOver (.object RX1)) (by simp [zm_nw]))
  refine ⟨(fun k => if k = 0 then c0 else if k = 1 then c1 else if k = 2 then c2 else if k = 3 then c3 else c4, fun k => if k = 0 then i0 else if k = 1 then i1 else if k = 2 then i2 else if k = 3 then i3 else i4), fun k => if k = 0 then b0 else if k = 1 then b1 else if k = 2 then b2 else b3, ?_, ?_⟩
  · intro k q hq
    match k, hq with
    | 0, hq => cases hq; exact k0
    | 1, hq => cases hq; exact k1
    | 2, hq => cases hq; exact k2
    | 3, hq => cases hq; exact k3
    | 4, hq => cases hq; exact k4
    | k + 5, hq => simp [vwCl] at hq
  · intro k q hq
    match k, hq with
    | 0, hq => cases hq; exact a0
    | 1, hq => cases hq; exact a1
    | 2, hq => cases hq; exact a2
    | 3, hq => cases hq; exact a3
    | k + 4, hq => simp [zm_tys] at hq
def R_law : String := "StemBeamsLaw"
def lw_P (b : Addr) (xs : List Int32) (args : Array Value) (s : State) : Prop := args = #[.ref b] ∧ s.IntsAt b xs ∧ xs.length ≤ 2560 ∧ (Jvm.Cond.and given_1 narrow_1).before args s = true
def lw_Q (_ : Array Value) (s : State) (o : Outcome) (t : State) : Prop := o = .returned (some (.int 1)) ∧ Framed s o t [] 601024 7293034
def lw_Z (below : List Frame) (a : Array Value) (s : State) : State → Prop := fun t => ∃ o, t.status = .running ∧ Ended t below o ∧ lw_Q a s o t
/-- the law's own end, with 1 on the stack, nothing written that was there before, its room as the claim has it -/
theorem lw_ret {p : Program} {l : Launch} {e : Env} {s : State} {m : MethodId} {below : List Frame} {meth : Method} {c : Code} {b : Nat} (hx : p.tables.exec = Jvm.exec) (hb : c.code = code) (hr : meth.sig.returnType = ret) (hlocks : meth.locks = false) {pc : Nat} {H : Heap} {ls : Array Slot} (hdg : decode code pc = .ok (.ireturn, 1)) : W p l e room_1 s m #[Value.ref b] below meth c H [] 601024 7293034 (lw_Z below #[Value.ref b] s) (F0 m pc ls [.int 1]) := by
  intro T hT X
  obtain ⟨fs, hret, hrun, hended, hW, hframe⟩ := X.leave (v := some (.int 1)) (hlocks := hlocks) (fun h => by rw [hr] at h; cases h)
  have hmeth' : T.vm.method? m = some meth := X.method'
  refine ⟨T.setFrames fs, ?_, .returned (some (.int 1)), hrun, hended, rfl, ⟨_, rfl⟩, hW, hframe⟩
  jvm_step X.here [X.here.top, hx, hb, hdg, hmeth', hr, ret, narrow_b1]
  (try refine ⟨rfl, ?_⟩); (try refine ⟨rfl, ?_⟩)
  first | (intro acts; rw [hret _ acts rfl rfl rfl]) | rw [hret _ _ rfl rfl rfl]
  exact Steps.refl _
def lw_At (p : Program) (s : State) (m : MethodId) (meth : Method) (c : Code) (b L : Nat) (xs : Nat → Int32) : Prop :=
  p.tables.exec = Jvm.exec ∧ c.code = code ∧ meth.sig.returnType = ret ∧ c.maxLocals = 8 ∧ s.vm.findClass R_law = some m.cls ∧ (∀ w ∈ lw_tbl, w.before #[Value.ref b] s = true) ∧ va_X b L xs s s.heap ∧ b < s.heap.size ∧ meth.locks = false ∧ (Jvm.Cond.and given_1 narrow_1).before #[Value.ref b] s = true
theorem lw_made (o : Nat) (C : cS) (M : mS) (F : Nat → Int64) : zm_up (mH (cH (fun _ => none) o C) (o + 137) M) (o + 159) (.inl (1, 1, .inr (.inl F))) = lw_h o C M F := by
  funext a
  by_cases ha : a = o + 159
  · subst ha
    rw [zm_up_self]
    unfold lw_h
    rw [lw_out2]
  · rw [zm_up_ne _ _ ha]
    unfold lw_h mH cH lw_F
    rw [zm_up_ne _ _ ha]
theorem lw_enter {w : zW} {Γ : zC} {N S : Nat} {Rt : zR} {b L : Nat} {xs : Nat → Int32} {a1 a2 o : Nat} (hl : w.1.stackTraces = false) (X : zm_X w Γ mLw N S Rt) (Z : zm_Z w Γ b L xs a1 a2) (hL : L ≤ 2560) (hN : o + 3000 ≤ N) (hS : 30000 ≤ S) (hRt : ∀ h : zH, h.2.1 ≤ N → h.2.2 ≤ S → Rt (some (.int 1)) h) : zm_V w Γ 0 [some (.ref b), none, none, none, none, none, none, none] [] ((fun _ => none), o, 0) := by
  have t1 : Int32.toNatClampNeg 1 = 1 := by decide
  refine bkLw_0 X Z _ _ _ ?_
  simp only [zi_push, zi_ldi, zi_ldl, zi_lda, zi_sti, zi_stl, zi_sta, zi_inc, zi_b, zi_d, zi_u, zi_bl, zi_dl, zi_ul, zi_lcmp, zi_i2l, zi_l2i, zi_if, zi_ic, zi_nul, zi_dup, zi_pop, zi_dup_x1, zi_dup2, zi_gf, zi_pf, zi_ia, zi_is, zi_la, zi_lst, zi_aa, zi_as, zi_len, zi_new, zi_na, zi_mx, zi_mn, zi_sw, zi_swx, zi_cv, zi_cs, zi_ci, zi_obj, zi_iret, zi_lret, zi_zret, zi_aret, zi_vret, zm_s1, zm_s2, zm_k, zm_tk, zm_Rt, zm_is, List.getElem?_cons_zero, List.getElem?_cons_succ, List.set_cons_zero, List.set_cons_succ, List.length_cons, List.length_nil, List.map_cons, List.map_nil, List.sum_cons, List.sum_nil, List.nil_append, List.cons_append, Option.toList, Value.category, reduceIte, Nat.reduceAdd, Nat.reduceLeDiff, Nat.reduceLT, Nat.reduceEqDiff, Nat.reduceMul, and_true, true_and, and_self, Nat.zero_add, Nat.add_zero, Nat.le_refl, true_or, or_true, not_true_eq_false, not_false_eq_true, zm_ft_int, zm_ft_long, zm_ft_ref, zm_ft_null, zm_ft_b0, zm_ft_b1, i_2, i_3, i_4, i_10, io_16, io_64, io_33, io_2, cF_ev, cF_bm, va_rf, cH_0, cH_1, cH_2, cH_3, cH_4, cH_5, uT4, uT5, uT6, uT7, uB1, uB2, uB3, uG, uV]
  refine ⟨by omega, by omega, ?_⟩
  refine zm_call.of (ctS_init (g := fun _ => none) (o := o) (s := 8)) (by show o + 137 ≤ N; omega) (by show 8 + 2114 ≤ S; omega) ?_
  simp only [zi_push, zi_ldi, zi_ldl, zi_lda, zi_sti, zi_stl, zi_sta, zi_inc, zi_b, zi_d, zi_u, zi_bl, zi_dl, zi_ul, zi_lcmp, zi_i2l, zi_l2i, zi_if, zi_ic, zi_nul, zi_dup, zi_pop, zi_dup_x1, zi_dup2, zi_gf, zi_pf, zi_ia, zi_is, zi_la, zi_lst, zi_aa, zi_as, zi_len, zi_new, zi_na, zi_mx, zi_mn, zi_sw, zi_swx, zi_cv, zi_cs, zi_ci, zi_obj, zi_iret, zi_lret, zi_zret, zi_aret, zi_vret, zm_s1, zm_s2, zm_k, zm_tk, zm_Rt, zm_is, List.getElem?_cons_zero, List.getElem?_cons_succ, List.set_cons_zero, List.set_cons_succ, List.length_cons, List.length_nil, List.map_cons, List.map_nil, List.sum_cons, List.sum_nil, List.nil_append, List.cons_append, Option.toList, Value.category, reduceIte, Nat.reduceAdd, Nat.reduceLeDiff, Nat.reduceLT, Nat.reduceEqDiff, Nat.reduceMul, and_true, true_and, and_self, Nat.zero_add, Nat.add_zero, Nat.le_refl, true_or, or_true, not_true_eq_false, not_false_eq_true, zm_ft_int, zm_ft_long, zm_ft_ref, zm_ft_null, zm_ft_b0, zm_ft_b1, i_2, i_3, i_4, i_10, io_16, io_64, io_33, io_2, cF_ev, cF_bm, va_rf, cH_0, cH_1, cH_2, cH_3, cH_4, cH_5, uT4, uT5, uT6, uT7, uB1, uB2, uB3, uG, uV]
  refine ⟨by omega, by omega, ?_⟩
  refine zm_call.of (ctR_init (g := cH (fun _ => none) o C00) (q := o + 137) (s := 2151)) (by show o + 137 + 22 ≤ N; omega) (by show 2151 + 2387 ≤ S; omega) ?_
  simp only [zi_push, zi_ldi, zi_ldl, zi_lda, zi_sti, zi_stl, zi_sta, zi_inc, zi_b, zi_d, zi_u, zi_bl, zi_dl, zi_ul, zi_lcmp, zi_i2l, zi_l2i, zi_if, zi_ic, zi_nul, zi_dup, zi_pop, zi_dup_x1, zi_dup2, zi_gf, zi_pf, zi_ia, zi_is, zi_la, zi_lst, zi_aa, zi_as, zi_len, zi_new, zi_na, zi_mx, zi_mn, zi_sw, zi_swx, zi_cv, zi_cs, zi_ci, zi_obj, zi_iret, zi_lret, zi_zret, zi_aret, zi_vret, zm_s1, zm_s2, zm_k, zm_tk, zm_Rt, zm_is, List.getElem?_cons_zero, List.getElem?_cons_succ, List.set_cons_zero, List.set_cons_succ, List.length_cons, List.length_nil, List.map_cons, List.map_nil, List.sum_cons, List.sum_nil, List.nil_append, List.cons_append, Option.toList, Value.category, reduceIte, Nat.reduceAdd, Nat.reduceLeDiff, Nat.reduceLT, Nat.reduceEqDiff, Nat.reduceMul, and_true, true_and, and_self, Nat.zero_add, Nat.add_zero, Nat.le_refl, true_or, or_true, not_true_eq_false, not_false_eq_true, zm_ft_int, zm_ft_long, zm_ft_ref, zm_ft_null, zm_ft_b0, zm_ft_b1, i_2, i_3, i_4, i_10, io_16, io_64, io_33, io_2, cF_ev, cF_bm, va_rf, cH_0, cH_1, cH_2, cH_3, cH_4, cH_5, uT4, uT5, uT6, uT7, uB1, uB2, uB3, uG, uV, t1]
  refine ⟨by decide, by omega, by omega, ?_⟩
  rw [show o + 137 + 22 = o + 159 from rfl, lw_made]
  exact lw_loop hl X Z hL hN hS hRt 512 0 C00 (r_begin M00) (fun _ => 0) (o + 160, 4539) none none none 0 0 4 (by omega) (by omega) RR_00 (Nat.le_refl _) (Nat.le_refl _)
theorem nw_of {args : Array Value} {s : State} (h : ∀ w ∈ zm_nw, w.before args s = true) : ∀ q ∈ zm_nw, va_Nw q s := by
  intro q hq
  have hs := h q hq
  simp only [zm_nw, List.mem_cons, List.not_mem_nil, or_false] at hq
  rcases hq with rfl | rfl | rfl | rfl
  · exact va_Nw.of rfl hs
  · exact va_Nw.of rfl hs
  · exact hs
  · exact hs
set_option maxHeartbeats 4000000 in
set_option maxRecDepth 100000 in
/-- from the entry, for every script of at most 2560 ints, the law comes to its end with true -/
theorem whole_start {p : Program} {e : Env} {s : State} {m : MethodId} {below : List Frame} {meth : Method} {c : Code} (l : Launch) (hst : l.stackTraces = false) (hnm : meth.name = "law") {b L : Nat} {xs : Nat → Int32} (hL : L ≤ 2560) (C0 : lw_At p s m meth c b L xs) : W p l e room_1 s m #[Value.ref b] below meth c s.heap [] 0 0 (lw_Z below #[Value.ref b] s) (entryFrame m ([Value.ref b] : List Value).toArray 8) := by
  obtain ⟨hx, hb, hr, hml, hown, hts, hX, hbl, hlocks, hgv⟩ := C0
  have htb : ∀ q ∈ zm_tb, q.before #[Value.ref b] s = true := fun q h => hts q (tb_all q h)
  have hnw : ∀ q ∈ zm_nw, q.before #[Value.ref b] s = true := fun q h => hts q (nw_tbl q h)
  obtain ⟨D, dA, hK⟩ := lw_known htb hnw
  have hs := flat_of_before _ hgv
  have hU0 : (Cond.isRef (.static Bundle.tN "UNASSIGNED_STACK" Bundle.steD)).before #[Value.ref b] s = true := hs _ (by decide +kernel)
  have hN0 : (Cond.isRef (.static Bundle.tN "SUPPRESSED_SENTINEL" Bundle.listD)).before #[Value.ref b] s = true := hs _ (by decide +kernel)
  have hs1 : (Cond.exactly (.string RX3 220) "java/lang/String").before #[Value.ref b] s = true := hs _ (by decide +kernel)
  have hs2 : (Cond.exactly (.string RX3 228) "java/lang/String").before #[Value.ref b] s = true := hs _ (by decide +kernel)
  obtain ⟨a1, -, -, -, e1, -⟩ := Cond.exactly_spec hs1
  obtain ⟨a2, -, -, -, e2, -⟩ := Cond.exactly_spec hs2
  have hA : ∀ a : Nat, a < s.heap.size → ¬ (fun q => s.heap.size ≤ q) a := fun a ha => by
    show ¬ s.heap.size ≤ a
    omega
  have hY : zm_Y (l, D, dA, s.heap.size, s.heap) a1 a2 s := ⟨fun q hq => va_Nw.of (xn_ot q hq) (hts q (xn_tbl q hq)), vx_Zqof (hts _ (st_tbl _ (by simp))) (hts _ (st_tbl _ (by simp))) hU0 hA, vx_Zqof (hts _ (st_tbl _ (by simp))) (hts _ (st_tbl _ (by simp))) hN0 hA, vk_R.of (hts _ (st_tbl _ (by simp))) e1, vk_R.of (hts _ (st_tbl _ (by simp))) e2⟩
  have X : zm_X (l, D, dA, s.heap.size, s.heap) (p, e, room_1, s, m, #[Value.ref b], below, meth, c, ((fun _ => none), s.heap.size, 0), lw_Z below #[Value.ref b] s, 8) mLw (s.heap.size + 601024) 7293034 (fun v h => v = some (.int 1) ∧ h.2.1 ≤ s.heap.size + 601024 ∧ h.2.2 ≤ 7293034) := by
    refine ⟨hx, hb, hml, rfl, hown, htb, hK, nw_of hnw, Nat.le_refl _, Nat.le_refl _, Nat.le_refl _, by show 7293034 ≤ 0 + 7293034; omega, hnm, ?_⟩
    rintro v h pc lv ⟨rfl, r1, r2⟩ hrt
    intro H locs ls cells slots hP hLo hl2 g1 g2
    have g1' : h.2.1 = s.heap.size + cells := g1
    have g2' : h.2.2 = 0 + slots := g2
    have hd : decode code pc = .ok (.ireturn, 1) := by
      rcases hrt with ⟨z, -⟩ | ⟨x, -, z, -⟩ | ⟨x, -, -, -, z⟩ | ⟨x, z, -⟩ | ⟨q, rt, -, z1, z3, -⟩
      · cases z
      · cases z
      · exact z
      · cases z
      · rcases z3 with ⟨y, rfl⟩ | ⟨y, rfl⟩
        · cases z1
        · cases z1
    refine va_forget hLo ?_
    refine W.widen (k := 601024) (n := 7293034) (by omega) (by omega) ?_
    exact lw_ret hx hb hr hlocks hd
  have Z : zm_Z (l, D, dA, s.heap.size, s.heap) (p, e, room_1, s, m, #[Value.ref b], below, meth, c, ((fun _ => none), s.heap.size, 0), lw_Z below #[Value.ref b] s, 8) b L xs a1 a2 := by
    refine ⟨hX, hbl, rfl, hY, fun q hq => ?_⟩
    rcases List.mem_append.mp hq with h | h
    · exact htb q h
    · exact hts q (xw_tbl q (List.mem_filter.mp h).1)
  have hen := lv_entry ([.ref b]) (n := 8) (Nat.le_of_ble_eq_true rfl)
  rw [lg_entry_eq]
  refine lw_enter (o := s.heap.size) hst X Z hL (by omega) (by omega) (fun h g1 g2 => ⟨rfl, g1, g2⟩) s.heap [] _ 0 0 ⟨rfl, Nat.le_refl _, fun q _ => rfl, fun a o ha => by cases ha⟩ (fun q hq => by cases hq) (zm_lv.of hen (fun j v hj => zm_en_at (n := 8) (As := [.ref b]) hj)) rfl rfl
