def sBG (C : cS) (BG : (Nat → Int32) × (Nat → Int32)) : cS := (C.1, BG.1, BG.2, C.2.2.2)
theorem cH_bHs (f : Nat → Option zO) (o : Nat) (C : cS) (B G : Nat → Int32) : bH (cH f o C) (o + 1) (o + 2) B G = cH f o (sBG C (B, G)) := by
  have h1 : zm_up (cH f o C) (o + 2) (.inl (0, 16, .inl G)) = cH f o (C.1, C.2.1, G, C.2.2.2) := cH_put 2 (by decide) rfl (fun e h1 h2 => by unfold c_cell; rw [if_neg h2, if_neg h2]; rfl)
  unfold bH
  rw [h1]
  exact cH_put 1 (by decide) rfl (fun e h1 h2 => by unfold c_cell; rw [if_neg h2, if_neg h2]; rfl)
theorem sBG_self (C : cS) : sBG C (cB C, cG C) = C := rfl
theorem cH_bH (f : Nat → Option zO) (o : Nat) (C : cS) : bH (cH f o C) (o + 1) (o + 2) (cB C) (cG C) = cH f o C := by rw [cH_bHs, sBG_self]
theorem ctS_barAt {w : zW} {f : Nat → Option zO} {o : Nat} {C : cS} {n : Nat × Nat} (t : Int32) : zm_C w mX0_barAt [.ref (o + 1), .int t] (cH f o C, n) (some (.int (if cB C 2 ≤ 0 then 0 else t / cB C 2))) (cH f o C, n) := by
  have h := ctB_barAt (w := w) (f := cH f o C) (b := o + 1) (a := o + 2) (B := cB C) (G := cG C) (n := n) t
  rw [cH_bH] at h
  exact h
theorem ctS_offsetAt {w : zW} {f : Nat → Option zO} {o : Nat} {C : cS} {n : Nat × Nat} (t : Int32) : zm_C w mX0_offsetAt [.ref (o + 1), .int t] (cH f o C, n) (some (.int (b_off (cB C) t))) (cH f o C, n) := by
  have h := ctB_offsetAt (w := w) (f := cH f o C) (b := o + 1) (a := o + 2) (B := cB C) (G := cG C) (n := n) t
  rw [cH_bH] at h
  exact h
theorem ctS_groupAt {w : zW} {f : Nat → Option zO} {o : Nat} {C : cS} {n : Nat × Nat} {c : Nat} (hc1 : 1 ≤ c) (hc : c ≤ 16) (hB : cB C 1 = nI c) (t : Int32) : zm_C w mX0_groupAt [.ref (o + 1), .int t] (cH f o C, n) (some (.int (nI (b_ga (cG C) (b_off (cB C) t) (c - 1) 0)))) (cH f o C, n) := by
  have h := ctB_groupAt (w := w) (f := cH f o C) (b := o + 1) (a := o + 2) (n := n) (by omega) (B := cB C) (G := cG C) hc1 hc hB t
  rw [cH_bH] at h
  exact h
theorem ctS_setUsual {w : zW} {f : Nat → Option zO} {o : Nat} {C : cS} {n : Nat × Nat} {U d : Nat} (hU1 : 1 ≤ U) (hU : U ≤ 16) (hd : d ≤ 16) : zm_C w mX0_set [.ref (o + 1), .int (nI U), .int (nI d), .int 0] (cH f o C, n) none (cH f o (sBG C (b_us U d (b_base (cB C) (nI U) (nI d), cG C))), n) := by
  have h := ctB_setUsual (w := w) (f := cH f o C) (b := o + 1) (a := o + 2) (n := n) (by omega) (B := cB C) (G := cG C) hU1 hU hd
  rw [cH_bH, cH_bHs] at h
  exact h
theorem ctS_setTold {w : zW} {f : Nat → Option zO} {o : Nat} {C : cS} {n : Nat × Nat} {U d : Int32} {D k : Nat} (hD : D < 2 ^ 31) (hk1 : 10 ^ k ≤ D) (hk2 : D < 10 ^ (k + 1)) (hk9 : k ≤ 9) : zm_C w mX0_set [.ref (o + 1), .int U, .int d, .int (nI D)] (cH f o C, n) none (cH f o (sBG C (b_td D k (b_base (cB C) U d, cG C))), n) := by
  have h := ctB_setTold (w := w) (f := cH f o C) (b := o + 1) (a := o + 2) (n := n) (by omega) (B := cB C) (G := cG C) (U := U) (d := d) hD hk1 hk2 hk9
  rw [cH_bH, cH_bHs] at h
  exact h
/-- how many notes row j has -/
def csz (C : cS) (j : Nat) : Nat := (cM C j 1).toNatClampNeg
def cRows (C : cS) : Prop := ∀ j, j < 33 → bOK C j (csz C j)
/-- ec events, bc beams, gc groups -/
def cOK (C : cS) (ec bc gc : Nat) : Prop := ec ≤ 64 ∧ bc ≤ 32 ∧ cT C 4 = nI ec ∧ cT C 5 = nI bc ∧ 1 ≤ gc ∧ gc ≤ 16 ∧ cB C 1 = nI gc ∧ cRows C
def c_pl (p : Int32) : Int32 := if p < -12 then 0 else if 12 < p then 0 else 1
theorem ctS_isPlace {w : zW} {h : zH} (p : Int32) : zm_C w mX3_isPlace [.int p] h (some (.int (c_pl p))) h := by
  refine zm_C.of (mc := 0) (ms := 0) rfl rfl (by decide) (Nat.le_of_ble_eq_true rfl) ?_
  intro Γ X
  refine bkX3_isPlace_0 X [some (.int p)] [] _ ?_
  simp only [zi_push, zi_ldi, zi_ldl, zi_lda, zi_sti, zi_stl, zi_sta, zi_inc, zi_b, zi_d, zi_u, zi_bl, zi_dl, zi_ul, zi_lcmp, zi_i2l, zi_l2i, zi_if, zi_ic, zi_nul, zi_dup, zi_pop, zi_dup_x1, zi_dup2, zi_gf, zi_pf, zi_ia, zi_is, zi_la, zi_lst, zi_aa, zi_as, zi_len, zi_new, zi_na, zi_mx, zi_mn, zi_sw, zi_swx, zi_cv, zi_cs, zi_ci, zi_obj, zi_iret, zi_lret, zi_zret, zi_aret, zi_vret, zm_s1, zm_s2, zm_k, zm_tk, zm_Rt, zm_is, List.getElem?_cons_zero, List.getElem?_cons_succ, List.set_cons_zero, List.set_cons_succ, List.length_cons, List.length_nil, List.map_cons, List.map_nil, List.sum_cons, List.sum_nil, List.nil_append, List.cons_append, Option.toList, Value.category, reduceIte, Nat.reduceAdd, Nat.reduceLeDiff, Nat.reduceLT, Nat.reduceEqDiff, Nat.reduceMul, and_true, true_and, and_self, Nat.zero_add, Nat.add_zero, Nat.le_refl, true_or, or_true, not_true_eq_false, not_false_eq_true, zm_ft_int, zm_ft_long, zm_ft_ref, zm_ft_null, zm_ft_b0, zm_ft_b1, i_2, i_3, i_4, i_10, io_16, io_64, io_33, io_2, cF_ev, cF_bm, va_rf, cH_0, cH_1, cH_2, cH_3, cH_4, cH_5, uT4, uT5, uT6, uT7, uB1, uB2, uB3, uG, uV]
  exact ⟨fun a => by rw [c_pl, if_pos a], fun a => ⟨fun b => by rw [c_pl, if_neg a, if_pos b], fun b => by rw [c_pl, if_neg a, if_neg b]⟩⟩
def c_tm (v a d : Int32) : Int32 := if v < 0 then 0 else if 1 < v then 0 else if a < 0 then 0 else if 6 < a then 0 else if d < 0 then 0 else if 2 < d then 0 else 1
theorem ctS_isTiming {w : zW} {h : zH} (v a d : Int32) : zm_C w mX3_isTiming [.int v, .int a, .int d] h (some (.int (c_tm v a d))) h := by
  refine zm_C.of (mc := 0) (ms := 0) rfl rfl (by decide) (Nat.le_of_ble_eq_true rfl) ?_
  intro Γ X
  refine bkX3_isTiming_0 X [some (.int v), some (.int a), some (.int d)] [] _ ?_
  simp only [zi_push, zi_ldi, zi_ldl, zi_lda, zi_sti, zi_stl, zi_sta, zi_inc, zi_b, zi_d, zi_u, zi_bl, zi_dl, zi_ul, zi_lcmp, zi_i2l, zi_l2i, zi_if, zi_ic, zi_nul, zi_dup, zi_pop, zi_dup_x1, zi_dup2, zi_gf, zi_pf, zi_ia, zi_is, zi_la, zi_lst, zi_aa, zi_as, zi_len, zi_new, zi_na, zi_mx, zi_mn, zi_sw, zi_swx, zi_cv, zi_cs, zi_ci, zi_obj, zi_iret, zi_lret, zi_zret, zi_aret, zi_vret, zm_s1, zm_s2, zm_k, zm_tk, zm_Rt, zm_is, List.getElem?_cons_zero, List.getElem?_cons_succ, List.set_cons_zero, List.set_cons_succ, List.length_cons, List.length_nil, List.map_cons, List.map_nil, List.sum_cons, List.sum_nil, List.nil_append, List.cons_append, Option.toList, Value.category, reduceIte, Nat.reduceAdd, Nat.reduceLeDiff, Nat.reduceLT, Nat.reduceEqDiff, Nat.reduceMul, and_true, true_and, and_self, Nat.zero_add, Nat.add_zero, Nat.le_refl, true_or, or_true, not_true_eq_false, not_false_eq_true, zm_ft_int, zm_ft_long, zm_ft_ref, zm_ft_null, zm_ft_b0, zm_ft_b1, i_2, i_3, i_4, i_10, io_16, io_64, io_33, io_2, cF_ev, cF_bm, va_rf, cH_0, cH_1, cH_2, cH_3, cH_4, cH_5, uT4, uT5, uT6, uT7, uB1, uB2, uB3, uG, uV]
  refine ⟨fun p => by rw [c_tm, if_pos p], fun p => ⟨fun q => by rw [c_tm, if_neg p, if_pos q], fun q => ⟨fun r => by rw [c_tm, if_neg p, if_neg q, if_pos r], fun r => ⟨fun s => by rw [c_tm, if_neg p, if_neg q, if_neg r, if_pos s], fun s => ⟨fun t => by rw [c_tm, if_neg p, if_neg q, if_neg r, if_neg s, if_pos t], fun t => ⟨fun u => by rw [c_tm, if_neg p, if_neg q, if_neg r, if_neg s, if_neg t, if_pos u], fun u => by rw [c_tm, if_neg p, if_neg q, if_neg r, if_neg s, if_neg t, if_neg u]⟩⟩⟩⟩⟩⟩
/-- a number of something that there isn't -/
def noN (x : Int32) (n : Nat) : Prop := x < 0 ∨ nI n ≤ x
theorem noN_or (x : Int32) {n : Nat} (hn : n < 2 ^ 31) : noN x n ∨ ∃ k : Nat, k < n ∧ x = nI k := by
  rcases pk_ix x hn with h | h | h
  · exact Or.inl (Or.inl h)
  · exact Or.inl (Or.inr h)
  · exact Or.inr h
theorem ctS_eventNo {w : zW} {f : Nat → Option zO} {o : Nat} {C : cS} {n : Nat × Nat} {ec : Nat} (hT : cT C 4 = nI ec) {x : Int32} (hx : noN x ec) : zm_C w mX3_eventAt [.ref o, .int x] (cH f o C, n) (some .null) (cH f o C, n) := by
  refine zm_C.of (mc := 0) (ms := 0) rfl rfl (by decide) (Nat.le_of_ble_eq_true rfl) ?_
  intro Γ X
  refine bkX3_eventAt_0 X [some (.ref o), some (.int x)] [] _ ?_
  simp only [zi_push, zi_ldi, zi_ldl, zi_lda, zi_sti, zi_stl, zi_sta, zi_inc, zi_b, zi_d, zi_u, zi_bl, zi_dl, zi_ul, zi_lcmp, zi_i2l, zi_l2i, zi_if, zi_ic, zi_nul, zi_dup, zi_pop, zi_dup_x1, zi_dup2, zi_gf, zi_pf, zi_ia, zi_is, zi_la, zi_lst, zi_aa, zi_as, zi_len, zi_new, zi_na, zi_mx, zi_mn, zi_sw, zi_swx, zi_cv, zi_cs, zi_ci, zi_obj, zi_iret, zi_lret, zi_zret, zi_aret, zi_vret, zm_s1, zm_s2, zm_k, zm_tk, zm_Rt, zm_is, List.getElem?_cons_zero, List.getElem?_cons_succ, List.set_cons_zero, List.set_cons_succ, List.length_cons, List.length_nil, List.map_cons, List.map_nil, List.sum_cons, List.sum_nil, List.nil_append, List.cons_append, Option.toList, Value.category, reduceIte, Nat.reduceAdd, Nat.reduceLeDiff, Nat.reduceLT, Nat.reduceEqDiff, Nat.reduceMul, and_true, true_and, and_self, Nat.zero_add, Nat.add_zero, Nat.le_refl, true_or, or_true, not_true_eq_false, not_false_eq_true, zm_ft_int, zm_ft_long, zm_ft_ref, zm_ft_null, zm_ft_b0, zm_ft_b1, i_2, i_3, i_4, i_10, io_16, io_64, io_33, io_2, cF_ev, cF_bm, va_rf, cH_0, cH_1, cH_2, cH_3, cH_4, cH_5, uT4, uT5, uT6, uT7, uB1, uB2, uB3, uG, uV, hT]
  refine ⟨fun _ => trivial, fun a => ⟨fun _ => trivial, fun b => ?_⟩⟩
  rcases hx with h | h
  · exact absurd h a
  · exact absurd h b
theorem ctS_eventAt {w : zW} {f : Nat → Option zO} {o : Nat} {C : cS} {n : Nat × Nat} {ec k : Nat} (hec : ec ≤ 64) (hT : cT C 4 = nI ec) (hk : k < ec) : zm_C w mX3_eventAt [.ref o, .int (nI k)] (cH f o C, n) (some (.ref (o + 6 + k))) (cH f o C, n) := by
  refine zm_C.of (mc := 0) (ms := 0) rfl rfl (by decide) (Nat.le_of_ble_eq_true rfl) ?_
  intro Γ X
  refine bkX3_eventAt_0 X [some (.ref o), some (.int (nI k))] [] _ ?_
  simp only [zi_push, zi_ldi, zi_ldl, zi_lda, zi_sti, zi_stl, zi_sta, zi_inc, zi_b, zi_d, zi_u, zi_bl, zi_dl, zi_ul, zi_lcmp, zi_i2l, zi_l2i, zi_if, zi_ic, zi_nul, zi_dup, zi_pop, zi_dup_x1, zi_dup2, zi_gf, zi_pf, zi_ia, zi_is, zi_la, zi_lst, zi_aa, zi_as, zi_len, zi_new, zi_na, zi_mx, zi_mn, zi_sw, zi_swx, zi_cv, zi_cs, zi_ci, zi_obj, zi_iret, zi_lret, zi_zret, zi_aret, zi_vret, zm_s1, zm_s2, zm_k, zm_tk, zm_Rt, zm_is, List.getElem?_cons_zero, List.getElem?_cons_succ, List.set_cons_zero, List.set_cons_succ, List.length_cons, List.length_nil, List.map_cons, List.map_nil, List.sum_cons, List.sum_nil, List.nil_append, List.cons_append, Option.toList, Value.category, reduceIte, Nat.reduceAdd, Nat.reduceLeDiff, Nat.reduceLT, Nat.reduceEqDiff, Nat.reduceMul, and_true, true_and, and_self, Nat.zero_add, Nat.add_zero, Nat.le_refl, true_or, or_true, not_true_eq_false, not_false_eq_true, zm_ft_int, zm_ft_long, zm_ft_ref, zm_ft_null, zm_ft_b0, zm_ft_b1, i_2, i_3, i_4, i_10, io_16, io_64, io_33, io_2, cF_ev, cF_bm, va_rf, cH_0, cH_1, cH_2, cH_3, cH_4, cH_5, uT4, uT5, uT6, uT7, uB1, uB2, uB3, uG, uV, hT, nI_clamp (show k < 2 ^ 31 by omega), if_pos (show k < 64 by omega)]
  refine ⟨fun a => absurd a (nI_pos (by omega)), fun a => ⟨fun b => absurd b (nI_ge hk (by omega)), fun b => ?_⟩⟩
  exact vp_in_nI (by omega) (by decide)
theorem ctS_beamNo {w : zW} {f : Nat → Option zO} {o : Nat} {C : cS} {n : Nat × Nat} {bc : Nat} (hT : cT C 5 = nI bc) {x : Int32} (hx : noN x bc) : zm_C w mX3_beamAt [.ref o, .int x] (cH f o C, n) (some .null) (cH f o C, n) := by
  refine zm_C.of (mc := 0) (ms := 0) rfl rfl (by decide) (Nat.le_of_ble_eq_true rfl) ?_
  intro Γ X
  refine bkX3_beamAt_0 X [some (.ref o), some (.int x)] [] _ ?_
  simp only [zi_push, zi_ldi, zi_ldl, zi_lda, zi_sti, zi_stl, zi_sta, zi_inc, zi_b, zi_d, zi_u, zi_bl, zi_dl, zi_ul, zi_lcmp, zi_i2l, zi_l2i, zi_if, zi_ic, zi_nul, zi_dup, zi_pop, zi_dup_x1, zi_dup2, zi_gf, zi_pf, zi_ia, zi_is, zi_la, zi_lst, zi_aa, zi_as, zi_len, zi_new, zi_na, zi_mx, zi_mn, zi_sw, zi_swx, zi_cv, zi_cs, zi_ci, zi_obj, zi_iret, zi_lret, zi_zret, zi_aret, zi_vret, zm_s1, zm_s2, zm_k, zm_tk, zm_Rt, zm_is, List.getElem?_cons_zero, List.getElem?_cons_succ, List.set_cons_zero, List.set_cons_succ, List.length_cons, List.length_nil, List.map_cons, List.map_nil, List.sum_cons, List.sum_nil, List.nil_append, List.cons_append, Option.toList, Value.category, reduceIte, Nat.reduceAdd, Nat.reduceLeDiff, Nat.reduceLT, Nat.reduceEqDiff, Nat.reduceMul, and_true, true_and, and_self, Nat.zero_add, Nat.add_zero, Nat.le_refl, true_or, or_true, not_true_eq_false, not_false_eq_true, zm_ft_int, zm_ft_long, zm_ft_ref, zm_ft_null, zm_ft_b0, zm_ft_b1, i_2, i_3, i_4, i_10, io_16, io_64, io_33, io_2, cF_ev, cF_bm, va_rf, cH_0, cH_1, cH_2, cH_3, cH_4, cH_5, uT4, uT5, uT6, uT7, uB1, uB2, uB3, uG, uV, hT]
  refine ⟨fun _ => trivial, fun a => ⟨fun _ => trivial, fun b => ?_⟩⟩
  rcases hx with h | h
  · exact absurd h a
  · exact absurd h b
theorem ctS_beamAt {w : zW} {f : Nat → Option zO} {o : Nat} {C : cS} {n : Nat × Nat} {bc k : Nat} (hbc : bc ≤ 32) (hT : cT C 5 = nI bc) (hk : k < bc) : zm_C w mX3_beamAt [.ref o, .int (nI k)] (cH f o C, n) (some (.ref (o + 71 + 2 * k))) (cH f o C, n) := by
  refine zm_C.of (mc := 0) (ms := 0) rfl rfl (by decide) (Nat.le_of_ble_eq_true rfl) ?_
  intro Γ X
  refine bkX3_beamAt_0 X [some (.ref o), some (.int (nI k))] [] _ ?_
  simp only [zi_push, zi_ldi, zi_ldl, zi_lda, zi_sti, zi_stl, zi_sta, zi_inc, zi_b, zi_d, zi_u, zi_bl, zi_dl, zi_ul, zi_lcmp, zi_i2l, zi_l2i, zi_if, zi_ic, zi_nul, zi_dup, zi_pop, zi_dup_x1, zi_dup2, zi_gf, zi_pf, zi_ia, zi_is, zi_la, zi_lst, zi_aa, zi_as, zi_len, zi_new, zi_na, zi_mx, zi_mn, zi_sw, zi_swx, zi_cv, zi_cs, zi_ci, zi_obj, zi_iret, zi_lret, zi_zret, zi_aret, zi_vret, zm_s1, zm_s2, zm_k, zm_tk, zm_Rt, zm_is, List.getElem?_cons_zero, List.getElem?_cons_succ, List.set_cons_zero, List.set_cons_succ, List.length_cons, List.length_nil, List.map_cons, List.map_nil, List.sum_cons, List.sum_nil, List.nil_append, List.cons_append, Option.toList, Value.category, reduceIte, Nat.reduceAdd, Nat.reduceLeDiff, Nat.reduceLT, Nat.reduceEqDiff, Nat.reduceMul, and_true, true_and, and_self, Nat.zero_add, Nat.add_zero, Nat.le_refl, true_or, or_true, not_true_eq_false, not_false_eq_true, zm_ft_int, zm_ft_long, zm_ft_ref, zm_ft_null, zm_ft_b0, zm_ft_b1, i_2, i_3, i_4, i_10, io_16, io_64, io_33, io_2, cF_ev, cF_bm, va_rf, cH_0, cH_1, cH_2, cH_3, cH_4, cH_5, uT4, uT5, uT6, uT7, uB1, uB2, uB3, uG, uV, hT, nI_clamp (show k < 2 ^ 31 by omega), if_pos (show k < 33 by omega)]
  refine ⟨fun a => absurd a (nI_pos (by omega)), fun a => ⟨fun b => absurd b (nI_ge hk (by omega)), fun b => ?_⟩⟩
  exact vp_in_nI (by omega) (by decide)
theorem ctS_refuseNo {w : zW} {h : zH} (b : Int32) : zm_C w mX3_refusalOf [.null, .int b] h (some (.int (-1002))) h := by
  refine zm_C.of (mc := 0) (ms := 0) rfl rfl (by decide) (Nat.le_of_ble_eq_true rfl) ?_
  intro Γ X
  refine bkX3_refusalOf_0 X [some .null, some (.int b)] [] _ ?_
  simp only [zi_push, zi_ldi, zi_ldl, zi_lda, zi_sti, zi_stl, zi_sta, zi_inc, zi_b, zi_d, zi_u, zi_bl, zi_dl, zi_ul, zi_lcmp, zi_i2l, zi_l2i, zi_if, zi_ic, zi_nul, zi_dup, zi_pop, zi_dup_x1, zi_dup2, zi_gf, zi_pf, zi_ia, zi_is, zi_la, zi_lst, zi_aa, zi_as, zi_len, zi_new, zi_na, zi_mx, zi_mn, zi_sw, zi_swx, zi_cv, zi_cs, zi_ci, zi_obj, zi_iret, zi_lret, zi_zret, zi_aret, zi_vret, zm_s1, zm_s2, zm_k, zm_tk, zm_Rt, zm_is, List.getElem?_cons_zero, List.getElem?_cons_succ, List.set_cons_zero, List.set_cons_succ, List.length_cons, List.length_nil, List.map_cons, List.map_nil, List.sum_cons, List.sum_nil, List.nil_append, List.cons_append, Option.toList, Value.category, reduceIte, Nat.reduceAdd, Nat.reduceLeDiff, Nat.reduceLT, Nat.reduceEqDiff, Nat.reduceMul, and_true, true_and, and_self, Nat.zero_add, Nat.add_zero, Nat.le_refl, true_or, or_true, not_true_eq_false, not_false_eq_true, zm_ft_int, zm_ft_long, zm_ft_ref, zm_ft_null, zm_ft_b0, zm_ft_b1, i_2, i_3, i_4, i_10, io_16, io_64, io_33, io_2, cF_ev, cF_bm, va_rf, cH_0, cH_1, cH_2, cH_3, cH_4, cH_5, uT4, uT5, uT6, uT7, uB1, uB2, uB3, uG, uV]
def c_ref (C : cS) (i : Nat) (b : Int32) : Int32 := if b = 0 then -1003 else if cE C i 5 = 0 then -1004 else 0
theorem ctS_refusalOf {w : zW} {f : Nat → Option zO} {o : Nat} {C : cS} {n : Nat × Nat} {i : Nat} (hi : i ≤ 64) (b : Int32) : zm_C w mX3_refusalOf [.ref (o + 6 + i), .int b] (cH f o C, n) (some (.int (c_ref C i b))) (cH f o C, n) := by
  refine zm_C.of (mc := 0) (ms := 0) rfl rfl (by decide) (Nat.le_of_ble_eq_true rfl) ?_
  intro Γ X
  refine bkX3_refusalOf_0 X [some (.ref (o + 6 + i)), some (.int b)] [] _ ?_
  simp only [zi_push, zi_ldi, zi_ldl, zi_lda, zi_sti, zi_stl, zi_sta, zi_inc, zi_b, zi_d, zi_u, zi_bl, zi_dl, zi_ul, zi_lcmp, zi_i2l, zi_l2i, zi_if, zi_ic, zi_nul, zi_dup, zi_pop, zi_dup_x1, zi_dup2, zi_gf, zi_pf, zi_ia, zi_is, zi_la, zi_lst, zi_aa, zi_as, zi_len, zi_new, zi_na, zi_mx, zi_mn, zi_sw, zi_swx, zi_cv, zi_cs, zi_ci, zi_obj, zi_iret, zi_lret, zi_zret, zi_aret, zi_vret, zm_s1, zm_s2, zm_k, zm_tk, zm_Rt, zm_is, List.getElem?_cons_zero, List.getElem?_cons_succ, List.set_cons_zero, List.set_cons_succ, List.length_cons, List.length_nil, List.map_cons, List.map_nil, List.sum_cons, List.sum_nil, List.nil_append, List.cons_append, Option.toList, Value.category, reduceIte, Nat.reduceAdd, Nat.reduceLeDiff, Nat.reduceLT, Nat.reduceEqDiff, Nat.reduceMul, and_true, true_and, and_self, Nat.zero_add, Nat.add_zero, Nat.le_refl, true_or, or_true, not_true_eq_false, not_false_eq_true, zm_ft_int, zm_ft_long, zm_ft_ref, zm_ft_null, zm_ft_b0, zm_ft_b1, i_2, i_3, i_4, i_10, io_16, io_64, io_33, io_2, cF_ev, cF_bm, va_rf, cH_0, cH_1, cH_2, cH_3, cH_4, cH_5, uT4, uT5, uT6, uT7, uB1, uB2, uB3, uG, uV, cH_ev hi]
  refine ⟨fun p => by rw [c_ref, if_pos p], fun p => ?_⟩
  refine zm_call.of (ctE_isRest hi) (Nat.le_refl _) (Nat.le_refl _) ?_
  simp only [zi_push, zi_ldi, zi_ldl, zi_lda, zi_sti, zi_stl, zi_sta, zi_inc, zi_b, zi_d, zi_u, zi_bl, zi_dl, zi_ul, zi_lcmp, zi_i2l, zi_l2i, zi_if, zi_ic, zi_nul, zi_dup, zi_pop, zi_dup_x1, zi_dup2, zi_gf, zi_pf, zi_ia, zi_is, zi_la, zi_lst, zi_aa, zi_as, zi_len, zi_new, zi_na, zi_mx, zi_mn, zi_sw, zi_swx, zi_cv, zi_cs, zi_ci, zi_obj, zi_iret, zi_lret, zi_zret, zi_aret, zi_vret, zm_s1, zm_s2, zm_k, zm_tk, zm_Rt, zm_is, List.getElem?_cons_zero, List.getElem?_cons_succ, List.set_cons_zero, List.set_cons_succ, List.length_cons, List.length_nil, List.map_cons, List.map_nil, List.sum_cons, List.sum_nil, List.nil_append, List.cons_append, Option.toList, Value.category, reduceIte, Nat.reduceAdd, Nat.reduceLeDiff, Nat.reduceLT, Nat.reduceEqDiff, Nat.reduceMul, and_true, true_and, and_self, Nat.zero_add, Nat.add_zero, Nat.le_refl, true_or, or_true, not_true_eq_false, not_false_eq_true, zm_ft_int, zm_ft_long, zm_ft_ref, zm_ft_null, zm_ft_b0, zm_ft_b1, i_2, i_3, i_4, i_10, io_16, io_64, io_33, io_2, cF_ev, cF_bm, va_rf, cH_0, cH_1, cH_2, cH_3, cH_4, cH_5, uT4, uT5, uT6, uT7, uB1, uB2, uB3, uG, uV]
  simp only [zb_eq0]
  exact ⟨fun q => by rw [c_ref, if_neg p, if_neg q], fun q => by rw [c_ref, if_neg p, if_pos (Classical.not_not.mp q)]⟩
theorem vp1_2 : vp_in 1 2 ↔ True := iff_of_true (vp_in_nI (n := 1) (N := 2) (by decide) (by decide)) trivial
theorem vp0_2 : vp_in 0 2 ↔ True := iff_of_true (vp_in_nI (n := 0) (N := 2) (by decide) (by decide)) trivial
theorem cl_1 : (1 : Int32).toNatClampNeg = 1 := by decide
def c_two (C : cS) : Int32 := if cV C 1 ≤ 0 then 0 else 1
theorem ctS_isTwoVoiced {w : zW} {f : Nat → Option zO} {o : Nat} {C : cS} {n : Nat × Nat} : zm_C w mX3_isTwoVoiced [.ref o] (cH f o C, n) (some (.int (c_two C))) (cH f o C, n) := by
  refine zm_C.of (mc := 0) (ms := 0) rfl rfl (by decide) (Nat.le_of_ble_eq_true rfl) ?_
  intro Γ X
  refine bkX3_isTwoVoiced_0 X [some (.ref o)] [] _ ?_
  simp only [zi_push, zi_ldi, zi_ldl, zi_lda, zi_sti, zi_stl, zi_sta, zi_inc, zi_b, zi_d, zi_u, zi_bl, zi_dl, zi_ul, zi_lcmp, zi_i2l, zi_l2i, zi_if, zi_ic, zi_nul, zi_dup, zi_pop, zi_dup_x1, zi_dup2, zi_gf, zi_pf, zi_ia, zi_is, zi_la, zi_lst, zi_aa, zi_as, zi_len, zi_new, zi_na, zi_mx, zi_mn, zi_sw, zi_swx, zi_cv, zi_cs, zi_ci, zi_obj, zi_iret, zi_lret, zi_zret, zi_aret, zi_vret, zm_s1, zm_s2, zm_k, zm_tk, zm_Rt, zm_is, List.getElem?_cons_zero, List.getElem?_cons_succ, List.set_cons_zero, List.set_cons_succ, List.length_cons, List.length_nil, List.map_cons, List.map_nil, List.sum_cons, List.sum_nil, List.nil_append, List.cons_append, Option.toList, Value.category, reduceIte, Nat.reduceAdd, Nat.reduceLeDiff, Nat.reduceLT, Nat.reduceEqDiff, Nat.reduceMul, and_true, true_and, and_self, Nat.zero_add, Nat.add_zero, Nat.le_refl, true_or, or_true, not_true_eq_false, not_false_eq_true, zm_ft_int, zm_ft_long, zm_ft_ref, zm_ft_null, zm_ft_b0, zm_ft_b1, i_2, i_3, i_4, i_10, io_16, io_64, io_33, io_2, cF_ev, cF_bm, va_rf, cH_0, cH_1, cH_2, cH_3, cH_4, cH_5, uT4, uT5, uT6, uT7, uB1, uB2, uB3, uG, uV, vp1_2, cl_1]
  exact ⟨fun p => by rw [c_two, if_pos p], fun p => by rw [c_two, if_neg p]⟩
def c_relJ (j : Nat) (D : cS) : cS := itr (m_rel D j) (csz D j) 0 D
def c_take (C : cS) (bc : Nat) : cS := sT (itr c_relJ bc 0 C) 5 0
theorem itr_keep {α β : Type} (g : α → β) (F : Nat → α → α) (h : ∀ k D, g (F k D) = g D) : ∀ (m i : Nat) (D : α), g (itr F m i D) = g D
  | 0, _, _ => rfl
  | m + 1, i, D => by
    rw [itr, itr_keep g F h m, h]
theorem c_relJ_T (j : Nat) (D : cS) : cT (c_relJ j D) = cT D := itr_keep cT (m_rel D j) (fun _ _ => rfl) _ _ _
theorem c_relJ_B (j : Nat) (D : cS) : cB (c_relJ j D) = cB D := itr_keep cB (m_rel D j) (fun _ _ => rfl) _ _ _
theorem c_relJ_G (j : Nat) (D : cS) : cG (c_relJ j D) = cG D := itr_keep cG (m_rel D j) (fun _ _ => rfl) _ _ _
theorem c_relJ_V (j : Nat) (D : cS) : cV (c_relJ j D) = cV D := itr_keep cV (m_rel D j) (fun _ _ => rfl) _ _ _
theorem c_relJ_M (j : Nat) (D : cS) : cM (c_relJ j D) = cM D := itr_keep cM (m_rel D j) (fun _ _ => rfl) _ _ _
theorem c_relJ_D (j : Nat) (D : cS) : cD (c_relJ j D) = cD D := itr_keep cD (m_rel D j) (fun _ _ => rfl) _ _ _
theorem c_relJ_N (j : Nat) (D : cS) : cN (c_relJ j D) = cN D := itr_keep cN (m_rel D j) (fun _ _ => rfl) _ _ _
theorem bOK_of {C D : cS} (hM : cM D = cM C) (hN : cN D = cN C) {j s : Nat} (h : bOK C j s) : bOK D j s := ⟨h.1, h.2.1, by rw [hM]; exact h.2.2.1, by rw [hN]; exact h.2.2.2⟩
theorem cRows_of {C D : cS} (hM : cM D = cM C) (hN : cN D = cN C) (h : cRows C) : cRows D := fun j hj => by
  have := bOK_of hM hN (h j hj)
  unfold csz at this ⊢
  rw [hM]
  exact this
theorem ctS_takeBeamsAway {w : zW} {f : Nat → Option zO} {o : Nat} {C : cS} {n : Nat × Nat} {bc : Nat} (hbc : bc ≤ 32) (hT : cT C 5 = nI bc) (hr : cRows C) : zm_C w mX3_takeBeamsAway [.ref o] (cH f o C, n) none (cH f o (c_take C bc), n) := by
  refine zm_C.of (mc := 0) (ms := 0) rfl rfl (by decide) (Nat.le_of_ble_eq_true rfl) ?_
  intro Γ X
  have key : ∀ (m i : Nat) (D : cS), i + m = bc → cT D = cT C → cM D = cM C → cN D = cN C → itr c_relJ m i D = itr c_relJ bc 0 C → zm_V w Γ 2 [some (.ref o), some (.int (nI i))] [] (cH f o D, n) := by
    intro m
    induction m with
    | zero =>
      intro i D h1 h2 h3 h4 h5
      refine bkX3_takeBeamsAway_2 X _ _ _ ?_
      simp only [zi_push, zi_ldi, zi_ldl, zi_lda, zi_sti, zi_stl, zi_sta, zi_inc, zi_b, zi_d, zi_u, zi_bl, zi_dl, zi_ul, zi_lcmp, zi_i2l, zi_l2i, zi_if, zi_ic, zi_nul, zi_dup, zi_pop, zi_dup_x1, zi_dup2, zi_gf, zi_pf, zi_ia, zi_is, zi_la, zi_lst, zi_aa, zi_as, zi_len, zi_new, zi_na, zi_mx, zi_mn, zi_sw, zi_swx, zi_cv, zi_cs, zi_ci, zi_obj, zi_iret, zi_lret, zi_zret, zi_aret, zi_vret, zm_s1, zm_s2, zm_k, zm_tk, zm_Rt, zm_is, List.getElem?_cons_zero, List.getElem?_cons_succ, List.set_cons_zero, List.set_cons_succ, List.length_cons, List.length_nil, List.map_cons, List.map_nil, List.sum_cons, List.sum_nil, List.nil_append, List.cons_append, Option.toList, Value.category, reduceIte, Nat.reduceAdd, Nat.reduceLeDiff, Nat.reduceLT, Nat.reduceEqDiff, Nat.reduceMul, and_true, true_and, and_self, Nat.zero_add, Nat.add_zero, Nat.le_refl, true_or, or_true, not_true_eq_false, not_false_eq_true, zm_ft_int, zm_ft_long, zm_ft_ref, zm_ft_null, zm_ft_b0, zm_ft_b1, i_2, i_3, i_4, i_10, io_16, io_64, io_33, io_2, cF_ev, cF_bm, va_rf, cH_0, cH_1, cH_2, cH_3, cH_4, cH_5, uT4, uT5, uT6, uT7, uB1, uB2, uB3, uG, uV]
      simp only [h2, hT]
      refine ⟨fun _ => by rw [c_take, ← h5]; rfl, fun q => absurd (nI_le (by omega) (by omega)) q⟩
    | succ m ih =>
      intro i D h1 h2 h3 h4 h5
      rw [itr] at h5
      have hD : bOK D i (csz D i) := cRows_of h3 h4 hr i (by omega)
      refine bkX3_takeBeamsAway_2 X _ _ _ ?_
      simp only [zi_push, zi_ldi, zi_ldl, zi_lda, zi_sti, zi_stl, zi_sta, zi_inc, zi_b, zi_d, zi_u, zi_bl, zi_dl, zi_ul, zi_lcmp, zi_i2l, zi_l2i, zi_if, zi_ic, zi_nul, zi_dup, zi_pop, zi_dup_x1, zi_dup2, zi_gf, zi_pf, zi_ia, zi_is, zi_la, zi_lst, zi_aa, zi_as, zi_len, zi_new, zi_na, zi_mx, zi_mn, zi_sw, zi_swx, zi_cv, zi_cs, zi_ci, zi_obj, zi_iret, zi_lret, zi_zret, zi_aret, zi_vret, zm_s1, zm_s2, zm_k, zm_tk, zm_Rt, zm_is, List.getElem?_cons_zero, List.getElem?_cons_succ, List.set_cons_zero, List.set_cons_succ, List.length_cons, List.length_nil, List.map_cons, List.map_nil, List.sum_cons, List.sum_nil, List.nil_append, List.cons_append, Option.toList, Value.category, reduceIte, Nat.reduceAdd, Nat.reduceLeDiff, Nat.reduceLT, Nat.reduceEqDiff, Nat.reduceMul, and_true, true_and, and_self, Nat.zero_add, Nat.add_zero, Nat.le_refl, true_or, or_true, not_true_eq_false, not_false_eq_true, zm_ft_int, zm_ft_long, zm_ft_ref, zm_ft_null, zm_ft_b0, zm_ft_b1, i_2, i_3, i_4, i_10, io_16, io_64, io_33, io_2, cF_ev, cF_bm, va_rf, cH_0, cH_1, cH_2, cH_3, cH_4, cH_5, uT4, uT5, uT6, uT7, uB1, uB2, uB3, uG, uV, nI_clamp (show i < 2 ^ 31 by omega), if_pos (show i < 33 by omega), cH_bm (show i < 33 by omega)]
      simp only [h2, hT]
      refine ⟨fun q => absurd q (nI_ge (by omega) (by omega)), fun _ => ⟨vp_in_nI (by omega) (by decide), ?_⟩⟩
      refine zm_call.of (ctM_release hD) (Nat.le_refl _) (Nat.le_refl _) ?_
      simp only [zi_push, zi_ldi, zi_ldl, zi_lda, zi_sti, zi_stl, zi_sta, zi_inc, zi_b, zi_d, zi_u, zi_bl, zi_dl, zi_ul, zi_lcmp, zi_i2l, zi_l2i, zi_if, zi_ic, zi_nul, zi_dup, zi_pop, zi_dup_x1, zi_dup2, zi_gf, zi_pf, zi_ia, zi_is, zi_la, zi_lst, zi_aa, zi_as, zi_len, zi_new, zi_na, zi_mx, zi_mn, zi_sw, zi_swx, zi_cv, zi_cs, zi_ci, zi_obj, zi_iret, zi_lret, zi_zret, zi_aret, zi_vret, zm_s1, zm_s2, zm_k, zm_tk, zm_Rt, zm_is, List.getElem?_cons_zero, List.getElem?_cons_succ, List.set_cons_zero, List.set_cons_succ, List.length_cons, List.length_nil, List.map_cons, List.map_nil, List.sum_cons, List.sum_nil, List.nil_append, List.cons_append, Option.toList, Value.category, reduceIte, Nat.reduceAdd, Nat.reduceLeDiff, Nat.reduceLT, Nat.reduceEqDiff, Nat.reduceMul, and_true, true_and, and_self, Nat.zero_add, Nat.add_zero, Nat.le_refl, true_or, or_true, not_true_eq_false, not_false_eq_true, zm_ft_int, zm_ft_long, zm_ft_ref, zm_ft_null, zm_ft_b0, zm_ft_b1, i_2, i_3, i_4, i_10, io_16, io_64, io_33, io_2, cF_ev, cF_bm, va_rf, cH_0, cH_1, cH_2, cH_3, cH_4, cH_5, uT4, uT5, uT6, uT7, uB1, uB2, uB3, uG, uV, nI_1]
      exact ih (i + 1) (c_relJ i D) (by omega) (by rw [c_relJ_T, h2]) (by rw [c_relJ_M, h3]) (by rw [c_relJ_N, h4]) h5
  refine bkX3_takeBeamsAway_0 X [some (.ref o), none] [] _ ?_
  simp only [zi_push, zi_ldi, zi_ldl, zi_lda, zi_sti, zi_stl, zi_sta, zi_inc, zi_b, zi_d, zi_u, zi_bl, zi_dl, zi_ul, zi_lcmp, zi_i2l, zi_l2i, zi_if, zi_ic, zi_nul, zi_dup, zi_pop, zi_dup_x1, zi_dup2, zi_gf, zi_pf, zi_ia, zi_is, zi_la, zi_lst, zi_aa, zi_as, zi_len, zi_new, zi_na, zi_mx, zi_mn, zi_sw, zi_swx, zi_cv, zi_cs, zi_ci, zi_obj, zi_iret, zi_lret, zi_zret, zi_aret, zi_vret, zm_s1, zm_s2, zm_k, zm_tk, zm_Rt, zm_is, List.getElem?_cons_zero, List.getElem?_cons_succ, List.set_cons_zero, List.set_cons_succ, List.length_cons, List.length_nil, List.map_cons, List.map_nil, List.sum_cons, List.sum_nil, List.nil_append, List.cons_append, Option.toList, Value.category, reduceIte, Nat.reduceAdd, Nat.reduceLeDiff, Nat.reduceLT, Nat.reduceEqDiff, Nat.reduceMul, and_true, true_and, and_self, Nat.zero_add, Nat.add_zero, Nat.le_refl, true_or, or_true, not_true_eq_false, not_false_eq_true, zm_ft_int, zm_ft_long, zm_ft_ref, zm_ft_null, zm_ft_b0, zm_ft_b1, i_2, i_3, i_4, i_10, io_16, io_64, io_33, io_2, cF_ev, cF_bm, va_rf, cH_0, cH_1, cH_2, cH_3, cH_4, cH_5, uT4, uT5, uT6, uT7, uB1, uB2, uB3, uG, uV]
  exact key bc 0 C (by omega) rfl rfl rfl rfl
