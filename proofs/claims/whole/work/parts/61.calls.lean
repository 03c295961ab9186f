/-! calls on both sides -/
def vB (C : cS) (ec : Nat) : Prop := inR (cV C 0) 0 (448 * (ec : Int)) ∧ inR (cV C 1) 0 (448 * (ec : Int))
/-- where the beams lie is bounded -/
def bB (C : cS) (bc : Nat) : Prop := ∀ b, b < bc → inR (cM C b 3) (-300) 300 ∧ inR (cM C b 4) (-6) 6
def RR (C : cS) (M : mS) (ec bc gc : Nat) : Prop := rR C M ec bc gc ∧ vB C ec ∧ bB C bc
theorem bB_0 (C : cS) : bB C 0 := fun b hb => absurd hb (by omega)
def jI (w : zW) (o q : Nat) (m3 m4 : zM) (As : List Value) (C : cS) (M : mS) : Prop := ∃ (x : Int32) (C' : cS) (M' : mS) (ec bc gc : Nat), (∀ (f : Nat → Option zO) (n : Nat × Nat), zm_C w m3 (.ref o :: As) (cH f o C, n) (some (.int x)) (cH f o C', n)) ∧ (∀ (f : Nat → Option zO) (n : Nat × Nat), zm_C w m4 (.ref q :: As) (mH f q M, n) (some (.int x)) (mH f q M', n)) ∧ RR C' M' ec bc gc
def jL (w : zW) (o q : Nat) (m3 m4 : zM) (As : List Value) (C : cS) (M : mS) : Prop := ∃ (x : Int64) (C' : cS) (M' : mS) (ec bc gc : Nat), (∀ (f : Nat → Option zO) (n : Nat × Nat), zm_C w m3 (.ref o :: As) (cH f o C, n) (some (.long x)) (cH f o C', n)) ∧ (∀ (f : Nat → Option zO) (n : Nat × Nat), zm_C w m4 (.ref q :: As) (mH f q M, n) (some (.long x)) (mH f q M', n)) ∧ RR C' M' ec bc gc
/-- the same numbers but for thrown and the like -/
theorem rR_I {C : cS} {M M' : mS} {ec bc gc : Nat} (h : rR C M ec bc gc) (hA : mA M' = mA M) (hD : mD M' = mD M) (h5 : mI M' 5 = mI M 5) (h3 : mI M' 3 = mI M 3) (h2 : mI M' 2 = mI M 2) (h17 : mI M' 17 = mI M 17) (h19 : mI M' 19 = mI M 19) (h18 : mI M' 18 = mI M 18) : rR C M' ec bc gc := by
  obtain ⟨r1, r2, r3, r4, r5, r6, r7, r8, r9, r10⟩ := h
  refine ⟨r1, r2, r3, by rw [h18]; exact r4, r5, eR_of (M := M) h5 (fun k _ _ => by rw [hA]) r6, gR_keep (C := C) (M := M) rfl rfl h3 h2 (by rw [hA]) r7, ?_, fun b hb => ?_, r10⟩
  · unfold vR
    rw [hA, h17, h19]
    exact r8
  · exact bW_keep (C := C) (M := M) (fun k => rfl) (fun k => rfl) rfl (fun a k _ => rfl) (fun k _ x => rfl) (fun k _ _ _ => by rw [hA]) (fun k _ => by rw [hA]) (by rw [hD]) (r9 b hb)
theorem RR_th {C : cS} {M : mS} {ec bc gc : Nat} (h : RR C M ec bc gc) (x : Int32) : RR C (tI M 0 x) ec bc gc := ⟨rR_I h.1 rfl rfl rfl rfl rfl rfl rfl rfl, h.2⟩
theorem pr_lt {ec : Nat} (h : ec < 2 ^ 30) (x : Int32) : nI ec - 1 < x ↔ nI ec ≤ x := by
  have b1 := x.le_toInt
  have b2 := x.toInt_lt
  rw [← zI_self x, nI_zI, show (1 : Int32) = zI 1 from rfl, zI_sub, zI_lt (by omega) (by omega) (by omega) (by omega), zI_le (by omega) (by omega) (by omega) (by omega)]
  omega
theorem ctR_in32 {w : zW} {h : zH} (x : Int32) {a b : Int32} {A B : Int64} (hA : A = a.toInt64) (hB : B = b.toInt64) : zm_C w mX4_in [.long x.toInt64, .long A, .long B] h (some (.int (c_in x a b))) h := by
  subst hA
  subst hB
  have ct := ctR_in (w := w) (h := h) x.toInt64 a.toInt64 b.toInt64
  have e : zb (¬ x.toInt64 < a.toInt64 ∧ ¬ b.toInt64 < x.toInt64) = c_in x a b := by
    unfold zb c_in
    by_cases p : x < a
    · rw [if_pos p, if_neg (fun z => z.1 ((i64_lt x a).mpr p))]
    · rw [if_neg p]
      by_cases r : b < x
      · rw [if_pos r, if_neg (fun z => z.2 ((i64_lt b x).mpr r))]
      · rw [if_neg r, if_pos ⟨fun z => p ((i64_lt x a).mp z), fun z => r ((i64_lt b x).mp z)⟩]
  rw [e] at ct
  exact ct
theorem noN_in {x : Int32} {m : Nat} (hm : m < 2 ^ 30) : c_in x 0 (nI m - 1) = 0 ↔ noN x m := by
  unfold c_in noN
  simp only [pr_lt hm]
  by_cases p : x < 0
  · rw [if_pos p]
    exact iff_of_true rfl (Or.inl p)
  · rw [if_neg p]
    by_cases r : nI m ≤ x
    · rw [if_pos r]
      exact iff_of_true rfl (Or.inr r)
    · rw [if_neg r]
      refine iff_of_false (by decide) ?_
      rintro (z | z)
      · exact p z
      · exact r z
theorem noN_not {x : Int32} {m : Nat} (hm : m < 2 ^ 30) (h : ¬ noN x m) : ∃ k, k < m ∧ x = nI k := by
  have h1 : ¬ x < 0 := fun z => h (Or.inl z)
  obtain ⟨k, k1, k2⟩ := nI_of h1
  refine ⟨k, ?_, k2⟩
  rcases Nat.lt_or_ge k m with z | z
  · exact z
  · exact absurd (Or.inr (by rw [k2]; exact nI_le z (by omega))) h
theorem noN_nI {k m : Nat} (hm : m < 2 ^ 30) (hk : k < m) : ¬ noN (nI k) m := by
  rintro (z | z)
  · exact nI_pos (by omega) z
  · exact nI_ge hk (by omega) z
section
variable {w : zW} {f : Nat → Option zO} {o q : Nat} {n : Nat × Nat} {C : cS} {M : mS} {ec bc gc : Nat}
theorem ctR_isEvent (h5 : mI M 5 = nI ec) (x : Int32) : zm_C w mX4_isEvent [.ref q, .int x] (mH f q M, n) (some (.int (c_in x 0 (nI ec - 1)))) (mH f q M, n) := by
  refine zm_C.of (mc := 0) (ms := 0) rfl rfl (by decide) (Nat.le_of_ble_eq_true rfl) ?_
  intro Γ X
  refine bkX4_isEvent_0 X [some (.ref q), some (.int x)] [] _ ?_
  simp only [zi_push, zi_ldi, zi_ldl, zi_lda, zi_sti, zi_stl, zi_sta, zi_inc, zi_b, zi_d, zi_u, zi_bl, zi_dl, zi_ul, zi_lcmp, zi_i2l, zi_l2i, zi_if, zi_ic, zi_nul, zi_dup, zi_pop, zi_dup_x1, zi_dup2, zi_gf, zi_pf, zi_ia, zi_is, zi_la, zi_lst, zi_aa, zi_as, zi_len, zi_new, zi_na, zi_mx, zi_mn, zi_sw, zi_swx, zi_cv, zi_cs, zi_ci, zi_obj, zi_iret, zi_lret, zi_zret, zi_aret, zi_vret, zm_s1, zm_s2, zm_k, zm_tk, zm_Rt, zm_is, List.getElem?_cons_zero, List.getElem?_cons_succ, List.set_cons_zero, List.set_cons_succ, List.length_cons, List.length_nil, List.map_cons, List.map_nil, List.sum_cons, List.sum_nil, List.nil_append, List.cons_append, Option.toList, Value.category, reduceIte, Nat.reduceAdd, Nat.reduceLeDiff, Nat.reduceLT, Nat.reduceEqDiff, Nat.reduceMul, and_true, true_and, and_self, Nat.zero_add, Nat.add_zero, Nat.le_refl, true_or, or_true, not_true_eq_false, not_false_eq_true, zm_ft_int, zm_ft_long, zm_ft_ref, zm_ft_null, zm_ft_b0, zm_ft_b1, i_2, i_3, i_4, i_10, io_16, io_64, io_33, io_2, cF_ev, cF_bm, va_rf, cH_0, cH_1, cH_2, cH_3, cH_4, cH_5, uT4, uT5, uT6, uT7, uB1, uB2, uB3, uG, uV, mH_0, mH_1, mH_2, mH_3, mH_4, mH_5, mH_6, mH_7, mH_8, mH_9, mH_10, mH_11, mH_12, mH_13, mH_14, mH_15, mH_16, mH_17, mH_18, mH_19, mH_20, mH_21, vI0, vI1, vI2, vI3, vI5, vI17, vI18, vI19, vA4, vA6, vA7, vA8, vA9, vA10, vA11, vA12, vA13, vA14, vA15, vA16, vA20, vA21, vA22, vA23, vA24, vA25, vA26, vA27, vD, h5]
  refine zm_call.of (ctR_in32 x (a := 0) (b := nI ec - 1) (by decide) rfl) (Nat.le_refl _) (Nat.le_refl _) ?_
  simp only [zi_push, zi_ldi, zi_ldl, zi_lda, zi_sti, zi_stl, zi_sta, zi_inc, zi_b, zi_d, zi_u, zi_bl, zi_dl, zi_ul, zi_lcmp, zi_i2l, zi_l2i, zi_if, zi_ic, zi_nul, zi_dup, zi_pop, zi_dup_x1, zi_dup2, zi_gf, zi_pf, zi_ia, zi_is, zi_la, zi_lst, zi_aa, zi_as, zi_len, zi_new, zi_na, zi_mx, zi_mn, zi_sw, zi_swx, zi_cv, zi_cs, zi_ci, zi_obj, zi_iret, zi_lret, zi_zret, zi_aret, zi_vret, zm_s1, zm_s2, zm_k, zm_tk, zm_Rt, zm_is, List.getElem?_cons_zero, List.getElem?_cons_succ, List.set_cons_zero, List.set_cons_succ, List.length_cons, List.length_nil, List.map_cons, List.map_nil, List.sum_cons, List.sum_nil, List.nil_append, List.cons_append, Option.toList, Value.category, reduceIte, Nat.reduceAdd, Nat.reduceLeDiff, Nat.reduceLT, Nat.reduceEqDiff, Nat.reduceMul, and_true, true_and, and_self, Nat.zero_add, Nat.add_zero, Nat.le_refl, true_or, or_true, not_true_eq_false, not_false_eq_true, zm_ft_int, zm_ft_long, zm_ft_ref, zm_ft_null, zm_ft_b0, zm_ft_b1, i_2, i_3, i_4, i_10, io_16, io_64, io_33, io_2, cF_ev, cF_bm, va_rf, cH_0, cH_1, cH_2, cH_3, cH_4, cH_5, uT4, uT5, uT6, uT7, uB1, uB2, uB3, uG, uV, mH_0, mH_1, mH_2, mH_3, mH_4, mH_5, mH_6, mH_7, mH_8, mH_9, mH_10, mH_11, mH_12, mH_13, mH_14, mH_15, mH_16, mH_17, mH_18, mH_19, mH_20, mH_21, vI0, vI1, vI2, vI3, vI5, vI17, vI18, vI19, vA4, vA6, vA7, vA8, vA9, vA10, vA11, vA12, vA13, vA14, vA15, vA16, vA20, vA21, vA22, vA23, vA24, vA25, vA26, vA27, vD]
  unfold c_in
  split
  · exact Or.inl rfl
  · split
    · exact Or.inl rfl
    · exact Or.inr rfl
theorem ctR_isBeam (h5 : mI M 18 = nI bc) (x : Int32) : zm_C w mX4_isBeam [.ref q, .int x] (mH f q M, n) (some (.int (c_in x 0 (nI bc - 1)))) (mH f q M, n) := by
  refine zm_C.of (mc := 0) (ms := 0) rfl rfl (by decide) (Nat.le_of_ble_eq_true rfl) ?_
  intro Γ X
  refine bkX4_isBeam_0 X [some (.ref q), some (.int x)] [] _ ?_
  simp only [zi_push, zi_ldi, zi_ldl, zi_lda, zi_sti, zi_stl, zi_sta, zi_inc, zi_b, zi_d, zi_u, zi_bl, zi_dl, zi_ul, zi_lcmp, zi_i2l, zi_l2i, zi_if, zi_ic, zi_nul, zi_dup, zi_pop, zi_dup_x1, zi_dup2, zi_gf, zi_pf, zi_ia, zi_is, zi_la, zi_lst, zi_aa, zi_as, zi_len, zi_new, zi_na, zi_mx, zi_mn, zi_sw, zi_swx, zi_cv, zi_cs, zi_ci, zi_obj, zi_iret, zi_lret, zi_zret, zi_aret, zi_vret, zm_s1, zm_s2, zm_k, zm_tk, zm_Rt, zm_is, List.getElem?_cons_zero, List.getElem?_cons_succ, List.set_cons_zero, List.set_cons_succ, List.length_cons, List.length_nil, List.map_cons, List.map_nil, List.sum_cons, List.sum_nil, List.nil_append, List.cons_append, Option.toList, Value.category, reduceIte, Nat.reduceAdd, Nat.reduceLeDiff, Nat.reduceLT, Nat.reduceEqDiff, Nat.reduceMul, and_true, true_and, and_self, Nat.zero_add, Nat.add_zero, Nat.le_refl, true_or, or_true, not_true_eq_false, not_false_eq_true, zm_ft_int, zm_ft_long, zm_ft_ref, zm_ft_null, zm_ft_b0, zm_ft_b1, i_2, i_3, i_4, i_10, io_16, io_64, io_33, io_2, cF_ev, cF_bm, va_rf, cH_0, cH_1, cH_2, cH_3, cH_4, cH_5, uT4, uT5, uT6, uT7, uB1, uB2, uB3, uG, uV, mH_0, mH_1, mH_2, mH_3, mH_4, mH_5, mH_6, mH_7, mH_8, mH_9, mH_10, mH_11, mH_12, mH_13, mH_14, mH_15, mH_16, mH_17, mH_18, mH_19, mH_20, mH_21, vI0, vI1, vI2, vI3, vI5, vI17, vI18, vI19, vA4, vA6, vA7, vA8, vA9, vA10, vA11, vA12, vA13, vA14, vA15, vA16, vA20, vA21, vA22, vA23, vA24, vA25, vA26, vA27, vD, h5]
  refine zm_call.of (ctR_in32 x (a := 0) (b := nI bc - 1) (by decide) rfl) (Nat.le_refl _) (Nat.le_refl _) ?_
  simp only [zi_push, zi_ldi, zi_ldl, zi_lda, zi_sti, zi_stl, zi_sta, zi_inc, zi_b, zi_d, zi_u, zi_bl, zi_dl, zi_ul, zi_lcmp, zi_i2l, zi_l2i, zi_if, zi_ic, zi_nul, zi_dup, zi_pop, zi_dup_x1, zi_dup2, zi_gf, zi_pf, zi_ia, zi_is, zi_la, zi_lst, zi_aa, zi_as, zi_len, zi_new, zi_na, zi_mx, zi_mn, zi_sw, zi_swx, zi_cv, zi_cs, zi_ci, zi_obj, zi_iret, zi_lret, zi_zret, zi_aret, zi_vret, zm_s1, zm_s2, zm_k, zm_tk, zm_Rt, zm_is, List.getElem?_cons_zero, List.getElem?_cons_succ, List.set_cons_zero, List.set_cons_succ, List.length_cons, List.length_nil, List.map_cons, List.map_nil, List.sum_cons, List.sum_nil, List.nil_append, List.cons_append, Option.toList, Value.category, reduceIte, Nat.reduceAdd, Nat.reduceLeDiff, Nat.reduceLT, Nat.reduceEqDiff, Nat.reduceMul, and_true, true_and, and_self, Nat.zero_add, Nat.add_zero, Nat.le_refl, true_or, or_true, not_true_eq_false, not_false_eq_true, zm_ft_int, zm_ft_long, zm_ft_ref, zm_ft_null, zm_ft_b0, zm_ft_b1, i_2, i_3, i_4, i_10, io_16, io_64, io_33, io_2, cF_ev, cF_bm, va_rf, cH_0, cH_1, cH_2, cH_3, cH_4, cH_5, uT4, uT5, uT6, uT7, uB1, uB2, uB3, uG, uV, mH_0, mH_1, mH_2, mH_3, mH_4, mH_5, mH_6, mH_7, mH_8, mH_9, mH_10, mH_11, mH_12, mH_13, mH_14, mH_15, mH_16, mH_17, mH_18, mH_19, mH_20, mH_21, vI0, vI1, vI2, vI3, vI5, vI17, vI18, vI19, vA4, vA6, vA7, vA8, vA9, vA10, vA11, vA12, vA13, vA14, vA15, vA16, vA20, vA21, vA22, vA23, vA24, vA25, vA26, vA27, vD]
  unfold c_in
  split
  · exact Or.inl rfl
  · split
    · exact Or.inl rfl
    · exact Or.inr rfl
theorem rest_iff {i : Nat} (h : eOK C M i) : mA M 6 i = 1 ↔ cE C i 5 = 0 := by
  rw [h.1.2.2.2.2.2.2.2.2.1]
  by_cases h : cE C i 5 = 0
  · rw [if_pos h]; exact iff_of_true rfl h
  · rw [if_neg h]; exact iff_of_false (by decide) h
/-- beams gone, one event changed -/
theorem rR_ev {C' : cS} {M' : mS} (h : rR C M ec 0 gc) (hT4 : cT C' 4 = cT C 4) (hT5 : cT C' 5 = cT C 5) (hT6 : cT C' 6 = cT C 6) (hT7 : cT C' 7 = cT C 7) (hB : cB C' = cB C) (hG : cG C' = cG C) (hV : cV C' = cV C) (hM : cM C' = cM C) (hN : cN C' = cN C) (h10 : ∀ e, e < ec → cE C' e 10 = cE C e 10) (he : eR C' M' ec) (g4 : mA M' 4 = mA M 4) (g16 : mA M' 16 = mA M 16) (h3 : mI M' 3 = mI M 3) (h2 : mI M' 2 = mI M 2) (h17 : mI M' 17 = mI M 17) (h19 : mI M' 19 = mI M 19) (h18 : mI M' 18 = mI M 18) : rR C' M' ec 0 gc := by
  obtain ⟨r1, r2, r3, r4, r5, r6, r7, r8, r9, r10⟩ := h
  refine ⟨cRows_of hM hN r1, by rw [hT4]; exact r2, by rw [hT5]; exact r3, by rw [h18]; exact r4, r5, he, gR_keep (C := C) (M := M) hB hG h3 h2 g4 r7, ?_, fun b hb => absurd hb (by omega), fun e hh => ?_⟩
  · unfold vR
    rw [g16, hV, h17, hT7, h19, hT6]
    exact r8
  · rw [h10 e hh]
    rcases r10 e hh with h | ⟨b, k, h1, -⟩
    · exact Or.inl h
    · omega
/-- an event that is not touched -/
theorem eOK_same {C' : cS} {M' : mS} {i : Nat} (hE : ∀ x, (x < 10 ∨ 15 < x) → cE C' i x = cE C i x) (hA : ∀ y, 6 ≤ y → y ≤ 15 → y ≠ 14 → mA M' y i = mA M y i) (hH : ∀ k, k < 4 → r_hd M' i k = r_hd M i k) (h : eOK C M i) : eOK C' M' i := by
  obtain ⟨h1, h2, hm, h3, h4, h5, h6⟩ := h
  refine ⟨?_, ?_, hm, h3, ?_, ?_, ?_⟩
  · unfold eO1 at h1 ⊢
    rw [hA 7 (by omega) (by omega) (by omega), hA 8 (by omega) (by omega) (by omega), hA 9 (by omega) (by omega) (by omega), hA 10 (by omega) (by omega) (by omega), hA 11 (by omega) (by omega) (by omega), hA 12 (by omega) (by omega) (by omega), hA 13 (by omega) (by omega) (by omega), hA 15 (by omega) (by omega) (by omega), hA 6 (by omega) (by omega) (by omega), hE 0 (by omega), hE 1 (by omega), hE 2 (by omega), hE 3 (by omega), hE 4 (by omega), hE 5 (by omega), hE 8 (by omega), hE 9 (by omega), hE 17 (by omega)]
    exact h1
  · unfold eO2 at h2 ⊢
    rw [hE 1 (by omega), hE 2 (by omega), hE 5 (by omega), hE 6 (by omega), hE 7 (by omega), hE 8 (by omega)]
    exact h2
  · rw [hE 5 (by omega)]
    exact h4
  · intro h1'
    rw [hE 7 (by omega), hE 6 (by omega), (h5 h1').1, (h5 h1').2]
    have e0 : r_hd M' i 0 = r_hd M i 0 := hH 0 (by omega)
    refine ⟨?_, ?_⟩
    · unfold r_hi
      rw [e0]
      refine itr_rel (fun a b : Int32 => a = b) _ _ 4 (fun k hk a b e => ?_) _ _ _ _ (by omega) rfl
      subst e
      unfold r_hiF
      rw [hH k hk]
    · unfold r_lo
      rw [e0]
      refine itr_rel (fun a b : Int32 => a = b) _ _ 4 (fun k hk a b e => ?_) _ _ _ _ (by omega) rfl
      subst e
      unfold r_loF
      rw [hH k hk]
  · intro p p1 p2
    rw [hE 16 (by omega), h6 p p1 p2]
    constructor
    · rintro ⟨k, k1, k2⟩
      exact ⟨k, k1, by rw [hH k (by omega)]; exact k2⟩
    · rintro ⟨k, k1, k2⟩
      exact ⟨k, k1, by rw [← hH k (by omega)]; exact k2⟩
end
