/-- how many of the events before k are of voice v -/
def cvN (E : Nat → Nat → Int32) (v : Int32) : Nat → Nat
  | 0 => 0
  | k + 1 => cvN E v k + (if E k 1 = v then 1 else 0)
theorem cvN_congr {E E' : Nat → Nat → Int32} (h : ∀ k, E' k 1 = E k 1) (v : Int32) : ∀ k, cvN E' v k = cvN E v k
  | 0 => rfl
  | k + 1 => by
    unfold cvN
    rw [cvN_congr h v k, h]
def c_nextB (D : cS) : Nat := (cT D 5).toNatClampNeg
def c_next (D : cS) : cS := sM (sM D (c_nextB D) 1 0) (c_nextB D) 6 0
def c_add (D : cS) (j i : Nat) : cS := if csz D j < 16 then sM (sN D j (csz D j) i) j 1 (nI (csz D j + 1)) else D
def c_gvT (v : Int32) (gc i : Nat) (t : cS × Nat × Int32) : cS × Nat := if t.2.2 = 0 then (c_next (c_fin t.1 t.2.1), c_nextB (c_fin t.1 t.2.1)) else if c_goes t.1 gc t.2.1 (csz t.1 t.2.1) i = 0 then (c_next (c_fin t.1 t.2.1), c_nextB (c_fin t.1 t.2.1)) else (t.1, t.2.1)
/-- event i of voice v: the state, the row that is being filled, whether the next may go on -/
def c_gvK (v : Int32) (gc i : Nat) (t : cS × Nat × Int32) : cS × Nat × Int32 :=
  if cE t.1 i 1 = v then (if cE t.1 i 5 = 0 then (t.1, t.2.1, if t.2.2 = 0 then 0 else if cT t.1 7 = 0 then 0 else if cE t.1 i 2 < 3 then 0 else 1)
    else ((if cE (c_gvT v gc i t).1 i 2 < 3 then (c_gvT v gc i t).1 else c_add (c_gvT v gc i t).1 (c_gvT v gc i t).2 i), (c_gvT v gc i t).2, 1))
  else t
/-- what holds while a voice is grouped -/
def gI (D : cS) (j ec gc cnt : Nat) : Prop := cT D 4 = nI ec ∧ cB D 1 = nI gc ∧ cRows D ∧ j < 33 ∧ ∃ b, cT D 5 = nI b ∧ 2 * b + csz D j ≤ cnt
theorem csz_of {D : cS} {j s : Nat} (h : cM D j 1 = nI s) (hs : s < 2 ^ 31) : csz D j = s := by
  unfold csz
  rw [h, nI_clamp hs]
theorem fin_I {D : cS} {j ec gc cnt : Nat} (h : gI D j ec gc cnt) (hc : cnt ≤ 64) : cT (c_fin D j) 4 = nI ec ∧ cB (c_fin D j) 1 = nI gc ∧ cRows (c_fin D j) ∧ ∃ b, b ≤ 32 ∧ cT (c_fin D j) 5 = nI b ∧ 2 * b ≤ cnt := by
  obtain ⟨h1, h2, h3, h4, b, h5, h6⟩ := h
  refine ⟨by rw [c_fin_T _ _ (by decide) (by decide)]; exact h1, by rw [c_fin_B]; exact h2, cRows_M (c_fin_M1 D j) (c_fin_N D j) h3, ?_⟩
  rcases c_fin_T5 D j with q | ⟨q1, q2⟩
  · exact ⟨b, by omega, by rw [q]; exact h5, by omega⟩
  · exact ⟨b + 1, by omega, by rw [q2, h5, nI_1], by omega⟩
theorem next_I {D : cS} {b ec gc cnt : Nat} (h4 : cT D 4 = nI ec) (hB : cB D 1 = nI gc) (hr : cRows D) (hb : b ≤ 32) (h5 : cT D 5 = nI b) (hc : 2 * b ≤ cnt) : c_nextB D = b ∧ csz (c_next D) b = 0 ∧ gI (c_next D) b ec gc cnt := by
  have e : c_nextB D = b := by
    unfold c_nextB
    rw [h5, nI_clamp (by omega)]
  have hM : ∀ i, cM (c_next D) i 1 = if i = b then 0 else cM D i 1 := by
    intro i
    unfold c_next
    rw [e, cM_sM, up2_k _ _ (by decide), cM_sM]
    by_cases hi : i = b <;> simp [up2, hi]
  have hz : csz (c_next D) b = 0 := csz_of (s := 0) (by rw [hM, if_pos rfl]; rfl) (by decide)
  refine ⟨e, hz, h4, hB, fun i hi => ?_, by omega, b, h5, by omega⟩
  by_cases hib : i = b
  · subst hib
    rw [hz]
    exact ⟨hi, by omega, by rw [hM, if_pos rfl]; rfl, (hr i hi).2.2.2⟩
  · have hs : csz (c_next D) i = csz D i := by
      unfold csz
      rw [hM, if_neg hib]
    rw [hs]
    exact ⟨hi, (hr i hi).2.1, by rw [hM, if_neg hib]; exact (hr i hi).2.2.1, (hr i hi).2.2.2⟩
theorem add_I {D : cS} {j i ec gc cnt : Nat} (h : gI D j ec gc cnt) (hi : i ≤ 64) : gI (c_add D j i) j ec gc (cnt + 1) := by
  obtain ⟨h1, h2, h3, h4, b, h5, h6⟩ := h
  unfold c_add
  split
  · rename_i hs
    have hM : ∀ a, cM (sM (sN D j (csz D j) i) j 1 (nI (csz D j + 1))) a 1 = if a = j then nI (csz D j + 1) else cM D a 1 := by
      intro a
      rw [cM_sM, cM_sN]
      by_cases ha : a = j <;> simp [up2, ha]
    have hz : csz (sM (sN D j (csz D j) i) j 1 (nI (csz D j + 1))) j = csz D j + 1 := csz_of (by rw [hM, if_pos rfl]) (by omega)
    have hN : ∀ a k, k < 16 → a < 33 → cN (sM (sN D j (csz D j) i) j 1 (nI (csz D j + 1))) a k ≤ 64 := by
      intro a k hk ha
      rw [cN_sM, cN_sN]
      unfold up2
      split
      · exact hi
      · exact (h3 a ha).2.2.2 k hk
    refine ⟨h1, h2, fun a ha => ?_, h4, b, h5, by omega⟩
    by_cases haj : a = j
    · subst haj
      rw [hz]
      exact ⟨ha, by omega, by rw [hM, if_pos rfl], fun k hk => hN a k hk ha⟩
    · have hs2 : csz (sM (sN D j (csz D j) i) j 1 (nI (csz D j + 1))) a = csz D a := by
        show (cM (sM (sN D j (csz D j) i) j 1 (nI (csz D j + 1))) a 1).toNatClampNeg = (cM D a 1).toNatClampNeg
        rw [hM, if_neg haj]
      rw [hs2]
      exact ⟨ha, (h3 a ha).2.1, by rw [hM, if_neg haj]; exact (h3 a ha).2.2.1, fun k hk => hN a k hk ha⟩
  · exact ⟨h1, h2, h3, h4, b, h5, by omega⟩
theorem c_next_E (D : cS) : cE (c_next D) = cE D := rfl
theorem c_add_E (D : cS) (j i : Nat) : cE (c_add D j i) = cE D := by
  unfold c_add
  split <;> rfl
theorem gI_mono {D : cS} {j ec gc a b : Nat} (h : gI D j ec gc a) (hab : a ≤ b) : gI D j ec gc b := by
  obtain ⟨h1, h2, h3, h4, c, h5, h6⟩ := h
  exact ⟨h1, h2, h3, h4, c, h5, by omega⟩
section
variable {w : zW} {f : Nat → Option zO} {o : Nat} {n : Nat × Nat} {ec gc : Nat}
def c_gv (C : cS) (v : Int32) (gc ec : Nat) : cS := c_fin (itr (c_gvK v gc) ec 0 (c_next C, c_nextB C, 1)).1 (itr (c_gvK v gc) ec 0 (c_next C, c_nextB C, 1)).2.1
theorem ctS_groupVoice {C : cS} {v : Int32} {b0 c0 : Nat} (hec : ec ≤ 64) (hg1 : 1 ≤ gc) (hg : gc ≤ 16) (h4 : cT C 4 = nI ec) (hB : cB C 1 = nI gc) (hr : cRows C) (h5 : cT C 5 = nI b0) (hb0 : 2 * b0 ≤ c0) (hcnt : c0 + cvN (cE C) v ec ≤ 64) : zm_C w mX3_groupVoice [.ref o, .int v] (cH f o C, n) none (cH f o (c_gv C v gc ec), n) := by
  have hmono : ∀ a b, a ≤ b → cvN (cE C) v a ≤ cvN (cE C) v b := by
    intro a b hab
    induction hab with
    | refl => exact Nat.le_refl _
    | step _ ih => exact Nat.le_trans ih (Nat.le_add_right _ _)
  refine zm_C.of (mc := 0) (ms := 0) rfl rfl (by decide) (Nat.le_of_ble_eq_true rfl) ?_
  intro Γ X
  have key : ∀ (m i j : Nat) (D : cS) (rc : Int32) (x : Option Value), i + m = ec → (rc = 0 ∨ rc = 1) → gI D j ec gc (c0 + cvN (cE C) v i) → (∀ k, cE D k 1 = cE C k 1) → itr (c_gvK v gc) m i (D, j, rc) = itr (c_gvK v gc) ec 0 (c_next C, c_nextB C, 1) → zm_V w Γ 10 [some (.ref o), some (.int v), some (.ref (o + 71 + 2 * j)), some (.int rc), some (.int (nI i)), x] [] (cH f o D, n) := by
    intro m
    induction m with
    | zero =>
      intro i j D rc x h1 h2 h3 h5 h6
      have hi : i = ec := by omega
      subst hi
      refine bkX3_groupVoice_10 X _ _ _ ?_
      simp only [zi_push, zi_ldi, zi_ldl, zi_lda, zi_sti, zi_stl, zi_sta, zi_inc, zi_b, zi_d, zi_u, zi_bl, zi_dl, zi_ul, zi_lcmp, zi_i2l, zi_l2i, zi_if, zi_ic, zi_nul, zi_dup, zi_pop, zi_dup_x1, zi_dup2, zi_gf, zi_pf, zi_ia, zi_is, zi_la, zi_lst, zi_aa, zi_as, zi_len, zi_new, zi_na, zi_mx, zi_mn, zi_sw, zi_swx, zi_cv, zi_cs, zi_ci, zi_obj, zi_iret, zi_lret, zi_zret, zi_aret, zi_vret, zm_s1, zm_s2, zm_k, zm_tk, zm_Rt, zm_is, List.getElem?_cons_zero, List.getElem?_cons_succ, List.set_cons_zero, List.set_cons_succ, List.length_cons, List.length_nil, List.map_cons, List.map_nil, List.sum_cons, List.sum_nil, List.nil_append, List.cons_append, Option.toList, Value.category, reduceIte, Nat.reduceAdd, Nat.reduceLeDiff, Nat.reduceLT, Nat.reduceEqDiff, Nat.reduceMul, and_true, true_and, and_self, Nat.zero_add, Nat.add_zero, Nat.le_refl, true_or, or_true, not_true_eq_false, not_false_eq_true, zm_ft_int, zm_ft_long, zm_ft_ref, zm_ft_null, zm_ft_b0, zm_ft_b1, i_2, i_3, i_4, i_10, io_16, io_64, io_33, io_2, cF_ev, cF_bm, va_rf, cH_0, cH_1, cH_2, cH_3, cH_4, cH_5, uT4, uT5, uT6, uT7, uB1, uB2, uB3, uG, uV, h3.1]
      refine ⟨fun _ => ?_, fun q => absurd (nI_le (by omega) (by omega)) q⟩
      refine zm_call.of (ctS_finish (h3.2.2.1 j h3.2.2.2.1)) (Nat.le_refl _) (Nat.le_refl _) ?_
      simp only [zi_push, zi_ldi, zi_ldl, zi_lda, zi_sti, zi_stl, zi_sta, zi_inc, zi_b, zi_d, zi_u, zi_bl, zi_dl, zi_ul, zi_lcmp, zi_i2l, zi_l2i, zi_if, zi_ic, zi_nul, zi_dup, zi_pop, zi_dup_x1, zi_dup2, zi_gf, zi_pf, zi_ia, zi_is, zi_la, zi_lst, zi_aa, zi_as, zi_len, zi_new, zi_na, zi_mx, zi_mn, zi_sw, zi_swx, zi_cv, zi_cs, zi_ci, zi_obj, zi_iret, zi_lret, zi_zret, zi_aret, zi_vret, zm_s1, zm_s2, zm_k, zm_tk, zm_Rt, zm_is, List.getElem?_cons_zero, List.getElem?_cons_succ, List.set_cons_zero, List.set_cons_succ, List.length_cons, List.length_nil, List.map_cons, List.map_nil, List.sum_cons, List.sum_nil, List.nil_append, List.cons_append, Option.toList, Value.category, reduceIte, Nat.reduceAdd, Nat.reduceLeDiff, Nat.reduceLT, Nat.reduceEqDiff, Nat.reduceMul, and_true, true_and, and_self, Nat.zero_add, Nat.add_zero, Nat.le_refl, true_or, or_true, not_true_eq_false, not_false_eq_true, zm_ft_int, zm_ft_long, zm_ft_ref, zm_ft_null, zm_ft_b0, zm_ft_b1, i_2, i_3, i_4, i_10, io_16, io_64, io_33, io_2, cF_ev, cF_bm, va_rf, cH_0, cH_1, cH_2, cH_3, cH_4, cH_5, uT4, uT5, uT6, uT7, uB1, uB2, uB3, uG, uV]
      rw [c_gv, ← h6]
      rfl
    | succ m ih =>
      intro i j D rc x h1 h2 h3 h5 h6
      have hi : i ≤ 64 := by omega
      have hj := h3.2.2.2.1
      rw [itr] at h6
      have hc64 : c0 + cvN (cE C) v i ≤ 64 := Nat.le_trans (Nat.add_le_add_left (hmono i ec (by omega)) c0) hcnt
      have hsame : ¬ cE D i 1 = v → cvN (cE C) v (i + 1) = cvN (cE C) v i := by
        intro q
        rw [cvN, if_neg (by rw [← h5]; exact q)]
        rfl
      have hmore : cE D i 1 = v → cvN (cE C) v (i + 1) = cvN (cE C) v i + 1 := by
        intro q
        rw [cvN, if_pos (by rw [← h5]; exact q)]
      -- behind the choice of the row
      have k100 : ∀ (E : cS) (j' : Nat), cE D i 1 = v → ¬ cE D i 5 = 0 → gI E j' ec gc (c0 + cvN (cE C) v i) → (∀ k, cE E k 1 = cE C k 1) → c_gvT v gc i (D, j, rc) = (E, j') → zm_V w Γ 100 [some (.ref o), some (.int v), some (.ref (o + 71 + 2 * j')), some (.int rc), some (.int (nI i)), some (.ref (o + 6 + i))] [] (cH f o E, n) := by
        intro E j' hv hn hE hE1 hT
        have hK : c_gvK v gc i (D, j, rc) = ((if cE E i 2 < 3 then E else c_add E j' i), j', 1) := by
          simp only [c_gvK]
          rw [if_pos hv, if_neg hn, hT]
        rw [hK] at h6
        refine bkX3_groupVoice_100 X _ _ _ ?_
        simp only [zi_push, zi_ldi, zi_ldl, zi_lda, zi_sti, zi_stl, zi_sta, zi_inc, zi_b, zi_d, zi_u, zi_bl, zi_dl, zi_ul, zi_lcmp, zi_i2l, zi_l2i, zi_if, zi_ic, zi_nul, zi_dup, zi_pop, zi_dup_x1, zi_dup2, zi_gf, zi_pf, zi_ia, zi_is, zi_la, zi_lst, zi_aa, zi_as, zi_len, zi_new, zi_na, zi_mx, zi_mn, zi_sw, zi_swx, zi_cv, zi_cs, zi_ci, zi_obj, zi_iret, zi_lret, zi_zret, zi_aret, zi_vret, zm_s1, zm_s2, zm_k, zm_tk, zm_Rt, zm_is, List.getElem?_cons_zero, List.getElem?_cons_succ, List.set_cons_zero, List.set_cons_succ, List.length_cons, List.length_nil, List.map_cons, List.map_nil, List.sum_cons, List.sum_nil, List.nil_append, List.cons_append, Option.toList, Value.category, reduceIte, Nat.reduceAdd, Nat.reduceLeDiff, Nat.reduceLT, Nat.reduceEqDiff, Nat.reduceMul, and_true, true_and, and_self, Nat.zero_add, Nat.add_zero, Nat.le_refl, true_or, or_true, not_true_eq_false, not_false_eq_true, zm_ft_int, zm_ft_long, zm_ft_ref, zm_ft_null, zm_ft_b0, zm_ft_b1, i_2, i_3, i_4, i_10, io_16, io_64, io_33, io_2, cF_ev, cF_bm, va_rf, cH_0, cH_1, cH_2, cH_3, cH_4, cH_5, uT4, uT5, uT6, uT7, uB1, uB2, uB3, uG, uV, cH_ev hi]
        refine zm_call.of (ctE_isShort hi) (Nat.le_refl _) (Nat.le_refl _) ?_
        simp only [zi_push, zi_ldi, zi_ldl, zi_lda, zi_sti, zi_stl, zi_sta, zi_inc, zi_b, zi_d, zi_u, zi_bl, zi_dl, zi_ul, zi_lcmp, zi_i2l, zi_l2i, zi_if, zi_ic, zi_nul, zi_dup, zi_pop, zi_dup_x1, zi_dup2, zi_gf, zi_pf, zi_ia, zi_is, zi_la, zi_lst, zi_aa, zi_as, zi_len, zi_new, zi_na, zi_mx, zi_mn, zi_sw, zi_swx, zi_cv, zi_cs, zi_ci, zi_obj, zi_iret, zi_lret, zi_zret, zi_aret, zi_vret, zm_s1, zm_s2, zm_k, zm_tk, zm_Rt, zm_is, List.getElem?_cons_zero, List.getElem?_cons_succ, List.set_cons_zero, List.set_cons_succ, List.length_cons, List.length_nil, List.map_cons, List.map_nil, List.sum_cons, List.sum_nil, List.nil_append, List.cons_append, Option.toList, Value.category, reduceIte, Nat.reduceAdd, Nat.reduceLeDiff, Nat.reduceLT, Nat.reduceEqDiff, Nat.reduceMul, and_true, true_and, and_self, Nat.zero_add, Nat.add_zero, Nat.le_refl, true_or, or_true, not_true_eq_false, not_false_eq_true, zm_ft_int, zm_ft_long, zm_ft_ref, zm_ft_null, zm_ft_b0, zm_ft_b1, i_2, i_3, i_4, i_10, io_16, io_64, io_33, io_2, cF_ev, cF_bm, va_rf, cH_0, cH_1, cH_2, cH_3, cH_4, cH_5, uT4, uT5, uT6, uT7, uB1, uB2, uB3, uG, uV, zb_eq0, nI_1, cH_bm hE.2.2.2.1]
        refine ⟨fun q => ?_, fun q => ?_⟩
        · rw [if_pos (Classical.not_not.mp q)] at h6
          exact ih (i + 1) j' E 1 _ (by omega) (Or.inr rfl) (gI_mono hE (by have := hmore hv; omega)) hE1 h6
        · have q' : ¬ cE E i 2 < 3 := Classical.not_not.mp q
          rw [if_neg q'] at h6
          refine zm_call.of (ctM_add (hE.2.2.1 j' hE.2.2.2.1) hi) (Nat.le_refl _) (Nat.le_refl _) ?_
          simp only [zi_push, zi_ldi, zi_ldl, zi_lda, zi_sti, zi_stl, zi_sta, zi_inc, zi_b, zi_d, zi_u, zi_bl, zi_dl, zi_ul, zi_lcmp, zi_i2l, zi_l2i, zi_if, zi_ic, zi_nul, zi_dup, zi_pop, zi_dup_x1, zi_dup2, zi_gf, zi_pf, zi_ia, zi_is, zi_la, zi_lst, zi_aa, zi_as, zi_len, zi_new, zi_na, zi_mx, zi_mn, zi_sw, zi_swx, zi_cv, zi_cs, zi_ci, zi_obj, zi_iret, zi_lret, zi_zret, zi_aret, zi_vret, zm_s1, zm_s2, zm_k, zm_tk, zm_Rt, zm_is, List.getElem?_cons_zero, List.getElem?_cons_succ, List.set_cons_zero, List.set_cons_succ, List.length_cons, List.length_nil, List.map_cons, List.map_nil, List.sum_cons, List.sum_nil, List.nil_append, List.cons_append, Option.toList, Value.category, reduceIte, Nat.reduceAdd, Nat.reduceLeDiff, Nat.reduceLT, Nat.reduceEqDiff, Nat.reduceMul, and_true, true_and, and_self, Nat.zero_add, Nat.add_zero, Nat.le_refl, true_or, or_true, not_true_eq_false, not_false_eq_true, zm_ft_int, zm_ft_long, zm_ft_ref, zm_ft_null, zm_ft_b0, zm_ft_b1, i_2, i_3, i_4, i_10, io_16, io_64, io_33, io_2, cF_ev, cF_bm, va_rf, cH_0, cH_1, cH_2, cH_3, cH_4, cH_5, uT4, uT5, uT6, uT7, uB1, uB2, uB3, uG, uV, nI_1]
          have e : (if csz E j' < 16 then sM (sN E j' (csz E j') i) j' 1 (nI (csz E j' + 1)) else E) = c_add E j' i := rfl
          rw [e]
          refine ih (i + 1) j' (c_add E j' i) 1 _ (by omega) (Or.inr rfl) ?_ (fun k => by rw [c_add_E]; exact hE1 k) h6
          have := add_I hE hi
          rw [hmore hv]
          exact this
      have k90 : cE D i 1 = v → ¬ cE D i 5 = 0 → (rc = 0 ∨ c_goes D gc j (csz D j) i = 0) → zm_V w Γ 90 [some (.ref o), some (.int v), some (.ref (o + 71 + 2 * j)), some (.int rc), some (.int (nI i)), some (.ref (o + 6 + i))] [] (cH f o D, n) := by
        intro hv hn hor
        obtain ⟨f1, f2, f3, b, f4, f5, f6⟩ := fin_I h3 hc64
        obtain ⟨g1, g2, g3⟩ := next_I f1 f2 f3 f4 f5 f6
        have hT : c_gvT v gc i (D, j, rc) = (c_next (c_fin D j), b) := by
          simp only [c_gvT, g1]
          rcases hor with h | h
          · rw [if_pos h]
          · by_cases h' : rc = 0
            · rw [if_pos h']
            · rw [if_neg h', if_pos h]
        refine bkX3_groupVoice_90 X _ _ _ ?_
        simp only [zi_push, zi_ldi, zi_ldl, zi_lda, zi_sti, zi_stl, zi_sta, zi_inc, zi_b, zi_d, zi_u, zi_bl, zi_dl, zi_ul, zi_lcmp, zi_i2l, zi_l2i, zi_if, zi_ic, zi_nul, zi_dup, zi_pop, zi_dup_x1, zi_dup2, zi_gf, zi_pf, zi_ia, zi_is, zi_la, zi_lst, zi_aa, zi_as, zi_len, zi_new, zi_na, zi_mx, zi_mn, zi_sw, zi_swx, zi_cv, zi_cs, zi_ci, zi_obj, zi_iret, zi_lret, zi_zret, zi_aret, zi_vret, zm_s1, zm_s2, zm_k, zm_tk, zm_Rt, zm_is, List.getElem?_cons_zero, List.getElem?_cons_succ, List.set_cons_zero, List.set_cons_succ, List.length_cons, List.length_nil, List.map_cons, List.map_nil, List.sum_cons, List.sum_nil, List.nil_append, List.cons_append, Option.toList, Value.category, reduceIte, Nat.reduceAdd, Nat.reduceLeDiff, Nat.reduceLT, Nat.reduceEqDiff, Nat.reduceMul, and_true, true_and, and_self, Nat.zero_add, Nat.add_zero, Nat.le_refl, true_or, or_true, not_true_eq_false, not_false_eq_true, zm_ft_int, zm_ft_long, zm_ft_ref, zm_ft_null, zm_ft_b0, zm_ft_b1, i_2, i_3, i_4, i_10, io_16, io_64, io_33, io_2, cF_ev, cF_bm, va_rf, cH_0, cH_1, cH_2, cH_3, cH_4, cH_5, uT4, uT5, uT6, uT7, uB1, uB2, uB3, uG, uV]
        refine zm_call.of (ctS_finish (h3.2.2.1 j hj)) (Nat.le_refl _) (Nat.le_refl _) ?_
        simp only [zi_push, zi_ldi, zi_ldl, zi_lda, zi_sti, zi_stl, zi_sta, zi_inc, zi_b, zi_d, zi_u, zi_bl, zi_dl, zi_ul, zi_lcmp, zi_i2l, zi_l2i, zi_if, zi_ic, zi_nul, zi_dup, zi_pop, zi_dup_x1, zi_dup2, zi_gf, zi_pf, zi_ia, zi_is, zi_la, zi_lst, zi_aa, zi_as, zi_len, zi_new, zi_na, zi_mx, zi_mn, zi_sw, zi_swx, zi_cv, zi_cs, zi_ci, zi_obj, zi_iret, zi_lret, zi_zret, zi_aret, zi_vret, zm_s1, zm_s2, zm_k, zm_tk, zm_Rt, zm_is, List.getElem?_cons_zero, List.getElem?_cons_succ, List.set_cons_zero, List.set_cons_succ, List.length_cons, List.length_nil, List.map_cons, List.map_nil, List.sum_cons, List.sum_nil, List.nil_append, List.cons_append, Option.toList, Value.category, reduceIte, Nat.reduceAdd, Nat.reduceLeDiff, Nat.reduceLT, Nat.reduceEqDiff, Nat.reduceMul, and_true, true_and, and_self, Nat.zero_add, Nat.add_zero, Nat.le_refl, true_or, or_true, not_true_eq_false, not_false_eq_true, zm_ft_int, zm_ft_long, zm_ft_ref, zm_ft_null, zm_ft_b0, zm_ft_b1, i_2, i_3, i_4, i_10, io_16, io_64, io_33, io_2, cF_ev, cF_bm, va_rf, cH_0, cH_1, cH_2, cH_3, cH_4, cH_5, uT4, uT5, uT6, uT7, uB1, uB2, uB3, uG, uV]
        refine zm_call.of (ctS_freshRow f4 f5) (Nat.le_refl _) (Nat.le_refl _) ?_
        simp only [zi_push, zi_ldi, zi_ldl, zi_lda, zi_sti, zi_stl, zi_sta, zi_inc, zi_b, zi_d, zi_u, zi_bl, zi_dl, zi_ul, zi_lcmp, zi_i2l, zi_l2i, zi_if, zi_ic, zi_nul, zi_dup, zi_pop, zi_dup_x1, zi_dup2, zi_gf, zi_pf, zi_ia, zi_is, zi_la, zi_lst, zi_aa, zi_as, zi_len, zi_new, zi_na, zi_mx, zi_mn, zi_sw, zi_swx, zi_cv, zi_cs, zi_ci, zi_obj, zi_iret, zi_lret, zi_zret, zi_aret, zi_vret, zm_s1, zm_s2, zm_k, zm_tk, zm_Rt, zm_is, List.getElem?_cons_zero, List.getElem?_cons_succ, List.set_cons_zero, List.set_cons_succ, List.length_cons, List.length_nil, List.map_cons, List.map_nil, List.sum_cons, List.sum_nil, List.nil_append, List.cons_append, Option.toList, Value.category, reduceIte, Nat.reduceAdd, Nat.reduceLeDiff, Nat.reduceLT, Nat.reduceEqDiff, Nat.reduceMul, and_true, true_and, and_self, Nat.zero_add, Nat.add_zero, Nat.le_refl, true_or, or_true, not_true_eq_false, not_false_eq_true, zm_ft_int, zm_ft_long, zm_ft_ref, zm_ft_null, zm_ft_b0, zm_ft_b1, i_2, i_3, i_4, i_10, io_16, io_64, io_33, io_2, cF_ev, cF_bm, va_rf, cH_0, cH_1, cH_2, cH_3, cH_4, cH_5, uT4, uT5, uT6, uT7, uB1, uB2, uB3, uG, uV]
        have e : sM (sM (c_fin D j) b 1 0) b 6 0 = c_next (c_fin D j) := by
          unfold c_next
          rw [g1]
        rw [e]
        refine k100 (c_next (c_fin D j)) b hv hn g3 (fun k => ?_) hT
        rw [c_next_E, c_fin_E _ _ _ (by omega)]
        exact h5 k
      have hstay : ∀ r : Int32, (r = 0 ∨ r = 1) → c_gvK v gc i (D, j, rc) = (D, j, r) → ∀ y, zm_V w Γ 10 [some (.ref o), some (.int v), some (.ref (o + 71 + 2 * j)), some (.int r), some (.int (nI (i + 1))), y] [] (cH f o D, n) := by
        intro r hr01 hK y
        rw [hK] at h6
        exact ih (i + 1) j D r y (by omega) hr01 (gI_mono h3 (Nat.add_le_add_left (hmono i (i + 1) (by omega)) c0)) h5 h6
      refine bkX3_groupVoice_10 X _ _ _ ?_
      simp only [zi_push, zi_ldi, zi_ldl, zi_lda, zi_sti, zi_stl, zi_sta, zi_inc, zi_b, zi_d, zi_u, zi_bl, zi_dl, zi_ul, zi_lcmp, zi_i2l, zi_l2i, zi_if, zi_ic, zi_nul, zi_dup, zi_pop, zi_dup_x1, zi_dup2, zi_gf, zi_pf, zi_ia, zi_is, zi_la, zi_lst, zi_aa, zi_as, zi_len, zi_new, zi_na, zi_mx, zi_mn, zi_sw, zi_swx, zi_cv, zi_cs, zi_ci, zi_obj, zi_iret, zi_lret, zi_zret, zi_aret, zi_vret, zm_s1, zm_s2, zm_k, zm_tk, zm_Rt, zm_is, List.getElem?_cons_zero, List.getElem?_cons_succ, List.set_cons_zero, List.set_cons_succ, List.length_cons, List.length_nil, List.map_cons, List.map_nil, List.sum_cons, List.sum_nil, List.nil_append, List.cons_append, Option.toList, Value.category, reduceIte, Nat.reduceAdd, Nat.reduceLeDiff, Nat.reduceLT, Nat.reduceEqDiff, Nat.reduceMul, and_true, true_and, and_self, Nat.zero_add, Nat.add_zero, Nat.le_refl, true_or, or_true, not_true_eq_false, not_false_eq_true, zm_ft_int, zm_ft_long, zm_ft_ref, zm_ft_null, zm_ft_b0, zm_ft_b1, i_2, i_3, i_4, i_10, io_16, io_64, io_33, io_2, cF_ev, cF_bm, va_rf, cH_0, cH_1, cH_2, cH_3, cH_4, cH_5, uT4, uT5, uT6, uT7, uB1, uB2, uB3, uG, uV, h3.1, nI_clamp (show i < 2 ^ 31 by omega), if_pos (show i < 64 by omega), cH_ev hi, nI_1]
      refine ⟨fun q => absurd q (nI_ge (by omega) (by omega)), fun _ => ⟨vp_in_nI (by omega) (by decide), fun hv => ?_, fun hv => ?_⟩⟩
      · refine zm_call.of (ctE_isRest hi) (Nat.le_refl _) (Nat.le_refl _) ?_
        simp only [zi_push, zi_ldi, zi_ldl, zi_lda, zi_sti, zi_stl, zi_sta, zi_inc, zi_b, zi_d, zi_u, zi_bl, zi_dl, zi_ul, zi_lcmp, zi_i2l, zi_l2i, zi_if, zi_ic, zi_nul, zi_dup, zi_pop, zi_dup_x1, zi_dup2, zi_gf, zi_pf, zi_ia, zi_is, zi_la, zi_lst, zi_aa, zi_as, zi_len, zi_new, zi_na, zi_mx, zi_mn, zi_sw, zi_swx, zi_cv, zi_cs, zi_ci, zi_obj, zi_iret, zi_lret, zi_zret, zi_aret, zi_vret, zm_s1, zm_s2, zm_k, zm_tk, zm_Rt, zm_is, List.getElem?_cons_zero, List.getElem?_cons_succ, List.set_cons_zero, List.set_cons_succ, List.length_cons, List.length_nil, List.map_cons, List.map_nil, List.sum_cons, List.sum_nil, List.nil_append, List.cons_append, Option.toList, Value.category, reduceIte, Nat.reduceAdd, Nat.reduceLeDiff, Nat.reduceLT, Nat.reduceEqDiff, Nat.reduceMul, and_true, true_and, and_self, Nat.zero_add, Nat.add_zero, Nat.le_refl, true_or, or_true, not_true_eq_false, not_false_eq_true, zm_ft_int, zm_ft_long, zm_ft_ref, zm_ft_null, zm_ft_b0, zm_ft_b1, i_2, i_3, i_4, i_10, io_16, io_64, io_33, io_2, cF_ev, cF_bm, va_rf, cH_0, cH_1, cH_2, cH_3, cH_4, cH_5, uT4, uT5, uT6, uT7, uB1, uB2, uB3, uG, uV, zb_eq0, nI_1, cH_ev hi]
        refine ⟨fun hn => ⟨fun q => k90 hv hn (Or.inl q), fun q => ?_⟩, fun hn => ?_⟩
        · refine zm_call.of (ctS_goesOn hg1 hg h3.2.1 (h3.2.2.1 j hj) hi) (Nat.le_refl _) (Nat.le_refl _) ?_
          simp only [zi_push, zi_ldi, zi_ldl, zi_lda, zi_sti, zi_stl, zi_sta, zi_inc, zi_b, zi_d, zi_u, zi_bl, zi_dl, zi_ul, zi_lcmp, zi_i2l, zi_l2i, zi_if, zi_ic, zi_nul, zi_dup, zi_pop, zi_dup_x1, zi_dup2, zi_gf, zi_pf, zi_ia, zi_is, zi_la, zi_lst, zi_aa, zi_as, zi_len, zi_new, zi_na, zi_mx, zi_mn, zi_sw, zi_swx, zi_cv, zi_cs, zi_ci, zi_obj, zi_iret, zi_lret, zi_zret, zi_aret, zi_vret, zm_s1, zm_s2, zm_k, zm_tk, zm_Rt, zm_is, List.getElem?_cons_zero, List.getElem?_cons_succ, List.set_cons_zero, List.set_cons_succ, List.length_cons, List.length_nil, List.map_cons, List.map_nil, List.sum_cons, List.sum_nil, List.nil_append, List.cons_append, Option.toList, Value.category, reduceIte, Nat.reduceAdd, Nat.reduceLeDiff, Nat.reduceLT, Nat.reduceEqDiff, Nat.reduceMul, and_true, true_and, and_self, Nat.zero_add, Nat.add_zero, Nat.le_refl, true_or, or_true, not_true_eq_false, not_false_eq_true, zm_ft_int, zm_ft_long, zm_ft_ref, zm_ft_null, zm_ft_b0, zm_ft_b1, i_2, i_3, i_4, i_10, io_16, io_64, io_33, io_2, cF_ev, cF_bm, va_rf, cH_0, cH_1, cH_2, cH_3, cH_4, cH_5, uT4, uT5, uT6, uT7, uB1, uB2, uB3, uG, uV]
          refine ⟨fun r => k90 hv hn (Or.inr r), fun r => k100 D j hv hn h3 h5 ?_⟩
          simp only [c_gvT]
          rw [if_neg q, if_neg r]
        · have hn' : cE D i 5 = 0 := Classical.not_not.mp hn
          have hK : c_gvK v gc i (D, j, rc) = (D, j, if rc = 0 then 0 else if cT D 7 = 0 then 0 else if cE D i 2 < 3 then 0 else 1) := by
            simp only [c_gvK]
            rw [if_pos hv, if_pos hn']
          refine ⟨fun q => hstay 0 (Or.inl rfl) (by rw [hK, if_pos q]) _, fun q => ⟨fun r => hstay 0 (Or.inl rfl) (by rw [hK, if_neg q, if_pos r]) _, fun r => ?_⟩⟩
          refine zm_call.of (ctE_isShort hi) (Nat.le_refl _) (Nat.le_refl _) ?_
          simp only [zi_push, zi_ldi, zi_ldl, zi_lda, zi_sti, zi_stl, zi_sta, zi_inc, zi_b, zi_d, zi_u, zi_bl, zi_dl, zi_ul, zi_lcmp, zi_i2l, zi_l2i, zi_if, zi_ic, zi_nul, zi_dup, zi_pop, zi_dup_x1, zi_dup2, zi_gf, zi_pf, zi_ia, zi_is, zi_la, zi_lst, zi_aa, zi_as, zi_len, zi_new, zi_na, zi_mx, zi_mn, zi_sw, zi_swx, zi_cv, zi_cs, zi_ci, zi_obj, zi_iret, zi_lret, zi_zret, zi_aret, zi_vret, zm_s1, zm_s2, zm_k, zm_tk, zm_Rt, zm_is, List.getElem?_cons_zero, List.getElem?_cons_succ, List.set_cons_zero, List.set_cons_succ, List.length_cons, List.length_nil, List.map_cons, List.map_nil, List.sum_cons, List.sum_nil, List.nil_append, List.cons_append, Option.toList, Value.category, reduceIte, Nat.reduceAdd, Nat.reduceLeDiff, Nat.reduceLT, Nat.reduceEqDiff, Nat.reduceMul, and_true, true_and, and_self, Nat.zero_add, Nat.add_zero, Nat.le_refl, true_or, or_true, not_true_eq_false, not_false_eq_true, zm_ft_int, zm_ft_long, zm_ft_ref, zm_ft_null, zm_ft_b0, zm_ft_b1, i_2, i_3, i_4, i_10, io_16, io_64, io_33, io_2, cF_ev, cF_bm, va_rf, cH_0, cH_1, cH_2, cH_3, cH_4, cH_5, uT4, uT5, uT6, uT7, uB1, uB2, uB3, uG, uV, zb_eq0, nI_1]
          exact ⟨fun s => hstay 0 (Or.inl rfl) (by rw [hK, if_neg q, if_neg r, if_pos (Classical.not_not.mp s)]) _, fun s => hstay 1 (Or.inr rfl) (by rw [hK, if_neg q, if_neg r, if_neg (Classical.not_not.mp s)]) _⟩
      · have hK : c_gvK v gc i (D, j, rc) = (D, j, rc) := by
          simp only [c_gvK]
          rw [if_neg hv]
        exact hstay rc h2 hK _
  obtain ⟨g1, g2, g3⟩ := next_I h4 hB hr (by omega) h5 hb0
  refine bkX3_groupVoice_0 X [some (.ref o), some (.int v), none, none, none, none] [] _ ?_
  simp only [zi_push, zi_ldi, zi_ldl, zi_lda, zi_sti, zi_stl, zi_sta, zi_inc, zi_b, zi_d, zi_u, zi_bl, zi_dl, zi_ul, zi_lcmp, zi_i2l, zi_l2i, zi_if, zi_ic, zi_nul, zi_dup, zi_pop, zi_dup_x1, zi_dup2, zi_gf, zi_pf, zi_ia, zi_is, zi_la, zi_lst, zi_aa, zi_as, zi_len, zi_new, zi_na, zi_mx, zi_mn, zi_sw, zi_swx, zi_cv, zi_cs, zi_ci, zi_obj, zi_iret, zi_lret, zi_zret, zi_aret, zi_vret, zm_s1, zm_s2, zm_k, zm_tk, zm_Rt, zm_is, List.getElem?_cons_zero, List.getElem?_cons_succ, List.set_cons_zero, List.set_cons_succ, List.length_cons, List.length_nil, List.map_cons, List.map_nil, List.sum_cons, List.sum_nil, List.nil_append, List.cons_append, Option.toList, Value.category, reduceIte, Nat.reduceAdd, Nat.reduceLeDiff, Nat.reduceLT, Nat.reduceEqDiff, Nat.reduceMul, and_true, true_and, and_self, Nat.zero_add, Nat.add_zero, Nat.le_refl, true_or, or_true, not_true_eq_false, not_false_eq_true, zm_ft_int, zm_ft_long, zm_ft_ref, zm_ft_null, zm_ft_b0, zm_ft_b1, i_2, i_3, i_4, i_10, io_16, io_64, io_33, io_2, cF_ev, cF_bm, va_rf, cH_0, cH_1, cH_2, cH_3, cH_4, cH_5, uT4, uT5, uT6, uT7, uB1, uB2, uB3, uG, uV]
  refine zm_call.of (ctS_freshRow (show b0 ≤ 32 by omega) h5) (Nat.le_refl _) (Nat.le_refl _) ?_
  simp only [zi_push, zi_ldi, zi_ldl, zi_lda, zi_sti, zi_stl, zi_sta, zi_inc, zi_b, zi_d, zi_u, zi_bl, zi_dl, zi_ul, zi_lcmp, zi_i2l, zi_l2i, zi_if, zi_ic, zi_nul, zi_dup, zi_pop, zi_dup_x1, zi_dup2, zi_gf, zi_pf, zi_ia, zi_is, zi_la, zi_lst, zi_aa, zi_as, zi_len, zi_new, zi_na, zi_mx, zi_mn, zi_sw, zi_swx, zi_cv, zi_cs, zi_ci, zi_obj, zi_iret, zi_lret, zi_zret, zi_aret, zi_vret, zm_s1, zm_s2, zm_k, zm_tk, zm_Rt, zm_is, List.getElem?_cons_zero, List.getElem?_cons_succ, List.set_cons_zero, List.set_cons_succ, List.length_cons, List.length_nil, List.map_cons, List.map_nil, List.sum_cons, List.sum_nil, List.nil_append, List.cons_append, Option.toList, Value.category, reduceIte, Nat.reduceAdd, Nat.reduceLeDiff, Nat.reduceLT, Nat.reduceEqDiff, Nat.reduceMul, and_true, true_and, and_self, Nat.zero_add, Nat.add_zero, Nat.le_refl, true_or, or_true, not_true_eq_false, not_false_eq_true, zm_ft_int, zm_ft_long, zm_ft_ref, zm_ft_null, zm_ft_b0, zm_ft_b1, i_2, i_3, i_4, i_10, io_16, io_64, io_33, io_2, cF_ev, cF_bm, va_rf, cH_0, cH_1, cH_2, cH_3, cH_4, cH_5, uT4, uT5, uT6, uT7, uB1, uB2, uB3, uG, uV]
  have e : sM (sM C b0 1 0) b0 6 0 = c_next C := by
    unfold c_next
    rw [g1]
  rw [e]
  exact key ec 0 b0 (c_next C) 1 none (by omega) (Or.inr rfl) (gI_mono g3 (by omega)) (fun k => by rw [c_next_E]) (by rw [g1])
end
section
variable {w : zW} {f : Nat → Option zO} {o : Nat} {n : Nat × Nat} {ec bc gc : Nat}
/-- cvN of both voices is at most all -/
theorem cvN_sum (E : Nat → Nat → Int32) : ∀ k, cvN E 0 k + cvN E 1 k ≤ k
  | 0 => Nat.le_refl _
  | k + 1 => by
    have h := cvN_sum E k
    unfold cvN
    by_cases h0 : E k 1 = 0
    · have h1 : ¬ E k 1 = 1 := by rw [h0]; decide
      rw [if_pos h0, if_neg h1]
      omega
    · rw [if_neg h0]
      split <;> omega
theorem gvK_I {v : Int32} {i ec gc cnt : Nat} {t : cS × Nat × Int32} (hi : i ≤ 64) (hc : cnt ≤ 64) (h : gI t.1 t.2.1 ec gc cnt) : gI (c_gvK v gc i t).1 (c_gvK v gc i t).2.1 ec gc (cnt + (if cE t.1 i 1 = v then 1 else 0)) ∧ ∀ a k, (k < 10 ∨ 15 < k) → cE (c_gvK v gc i t).1 a k = cE t.1 a k := by
  obtain ⟨D, j, rc⟩ := t
  by_cases hv : cE D i 1 = v
  · rw [if_pos (show cE (D, j, rc).1 i 1 = v from hv)]
    by_cases hn : cE D i 5 = 0
    · have hK : c_gvK v gc i (D, j, rc) = (D, j, if rc = 0 then 0 else if cT D 7 = 0 then 0 else if cE D i 2 < 3 then 0 else 1) := by
        simp only [c_gvK]
        rw [if_pos hv, if_pos hn]
      rw [hK]
      exact ⟨gI_mono h (by omega), fun _ _ _ => rfl⟩
    · have hTI : gI (c_gvT v gc i (D, j, rc)).1 (c_gvT v gc i (D, j, rc)).2 ec gc cnt ∧ ∀ a k, (k < 10 ∨ 15 < k) → cE (c_gvT v gc i (D, j, rc)).1 a k = cE D a k := by
        obtain ⟨f1, f2, f3, b, f4, f5, f6⟩ := fin_I h hc
        obtain ⟨g1, g2, g3⟩ := next_I f1 f2 f3 f4 f5 f6
        have hE : ∀ a k, (k < 10 ∨ 15 < k) → cE (c_next (c_fin D j)) a k = cE D a k := fun a k hk => by
          rw [c_next_E, c_fin_E _ _ _ hk]
        simp only [c_gvT]
        split
        · rw [g1]
          exact ⟨g3, hE⟩
        · split
          · rw [g1]
            exact ⟨g3, hE⟩
          · exact ⟨h, fun _ _ _ => rfl⟩
      have hK : c_gvK v gc i (D, j, rc) = ((if cE (c_gvT v gc i (D, j, rc)).1 i 2 < 3 then (c_gvT v gc i (D, j, rc)).1 else c_add (c_gvT v gc i (D, j, rc)).1 (c_gvT v gc i (D, j, rc)).2 i), (c_gvT v gc i (D, j, rc)).2, 1) := by
        simp only [c_gvK]
        rw [if_pos hv, if_neg hn]
      rw [hK]
      dsimp only
      split
      · exact ⟨gI_mono hTI.1 (by omega), hTI.2⟩
      · refine ⟨add_I hTI.1 hi, fun a k hk => ?_⟩
        rw [c_add_E]
        exact hTI.2 a k hk
  · rw [if_neg (show ¬ cE (D, j, rc).1 i 1 = v from hv)]
    have hK : c_gvK v gc i (D, j, rc) = (D, j, rc) := by
      simp only [c_gvK]
      rw [if_neg hv]
    rw [hK]
    exact ⟨h, fun _ _ _ => rfl⟩
theorem gvL_I {v : Int32} {ec gc c0 : Nat} {C : cS} (hec : ec ≤ 64) (hcnt : c0 + cvN (cE C) v ec ≤ 64) : ∀ (m i : Nat) (t : cS × Nat × Int32), i + m = ec → gI t.1 t.2.1 ec gc (c0 + cvN (cE C) v i) → (∀ a k, (k < 10 ∨ 15 < k) → cE t.1 a k = cE C a k) → gI (itr (c_gvK v gc) m i t).1 (itr (c_gvK v gc) m i t).2.1 ec gc (c0 + cvN (cE C) v ec) ∧ ∀ a k, (k < 10 ∨ 15 < k) → cE (itr (c_gvK v gc) m i t).1 a k = cE C a k
  | 0, i, t, h1, h2, h3 => by
    have : i = ec := by omega
    subst this
    exact ⟨h2, h3⟩
  | m + 1, i, t, h1, h2, h3 => by
    rw [itr]
    have hmono : ∀ a b, a ≤ b → cvN (cE C) v a ≤ cvN (cE C) v b := by
      intro a b hab
      induction hab with
      | refl => exact Nat.le_refl _
      | step _ ih => exact Nat.le_trans ih (Nat.le_add_right _ _)
    have hc : c0 + cvN (cE C) v i ≤ 64 := Nat.le_trans (Nat.add_le_add_left (hmono i ec (by omega)) c0) hcnt
    obtain ⟨g1, g2⟩ := gvK_I (v := v) (i := i) (by omega) hc h2
    refine gvL_I hec hcnt m (i + 1) _ (by omega) ?_ (fun a k hk => by rw [g2 a k hk]; exact h3 a k hk)
    rw [h3 i 1 (by omega), Nat.add_assoc] at g1
    exact g1
/-- behind a voice: still in order -/
theorem gv_I {C : cS} {v : Int32} {b0 c0 : Nat} (hec : ec ≤ 64) (h4 : cT C 4 = nI ec) (hB : cB C 1 = nI gc) (hr : cRows C) (h5 : cT C 5 = nI b0) (hb0 : 2 * b0 ≤ c0) (hcnt : c0 + cvN (cE C) v ec ≤ 64) : cT (c_gv C v gc ec) 4 = nI ec ∧ cB (c_gv C v gc ec) 1 = nI gc ∧ cRows (c_gv C v gc ec) ∧ (∃ b, b ≤ 32 ∧ cT (c_gv C v gc ec) 5 = nI b ∧ 2 * b ≤ c0 + cvN (cE C) v ec) ∧ ∀ a k, (k < 10 ∨ 15 < k) → cE (c_gv C v gc ec) a k = cE C a k := by
  obtain ⟨g1, g2, g3⟩ := next_I h4 hB hr (by omega) h5 hb0
  obtain ⟨q1, q2⟩ := gvL_I (v := v) (gc := gc) (c0 := c0) (C := C) hec hcnt ec 0 (c_next C, c_nextB C, 1) (by omega) (by dsimp only; rw [g1]; exact gI_mono g3 (by omega)) (fun a k _ => by rw [c_next_E])
  obtain ⟨f1, f2, f3, b, f4, f5, f6⟩ := fin_I q1 hcnt
  exact ⟨f1, f2, f3, ⟨b, f4, f5, f6⟩, fun a k hk => by
    unfold c_gv
    rw [c_fin_E _ _ _ hk]
    exact q2 a k hk⟩
def c_g1 (C : cS) (bc : Nat) : cS := sT (c_take C bc) 6 0
def c_group (C : cS) (bc gc ec : Nat) : cS := c_gv (c_gv (c_g1 C bc) 0 gc ec) 1 gc ec
theorem c_relJ_E (j : Nat) (D : cS) (a : Nat) {k : Nat} (h : k ≠ 10) : cE (c_relJ j D) a k = cE D a k := itr_keep (fun E : cS => cE E a k) (m_rel D j) (fun i E => by unfold m_rel; rw [cE_sE, up2_k _ _ h]) _ _ _
theorem c_take_E (C : cS) (bc a : Nat) {k : Nat} (h : k ≠ 10) : cE (c_take C bc) a k = cE C a k := by
  unfold c_take
  rw [cE_sT, itr_keep (fun E : cS => cE E a k) c_relJ (fun j D => c_relJ_E j D a h)]
theorem ctS_group {C : cS} (hec : ec ≤ 64) (hbc : bc ≤ 32) (hg1 : 1 ≤ gc) (hg : gc ≤ 16) (h4 : cT C 4 = nI ec) (h5 : cT C 5 = nI bc) (hB : cB C 1 = nI gc) (hr : cRows C) : zm_C w mX3_group [.ref o] (cH f o C, n) (some (.int (cT (c_group C bc gc ec) 5))) (cH f o (c_group C bc gc ec), n) := by
  have t4 : cT (c_g1 C bc) 4 = nI ec := by unfold c_g1; rw [cT_sT, c_take_T]; simp [upd, h4]
  have t5 : cT (c_g1 C bc) 5 = nI 0 := by unfold c_g1; rw [cT_sT, c_take_T]; simp [upd]; rfl
  have tB : cB (c_g1 C bc) 1 = nI gc := by unfold c_g1; rw [cB_sT, c_take_B]; exact hB
  have tR : cRows (c_g1 C bc) := cRows_of (by unfold c_g1; rw [cM_sT, c_take_M]) (by unfold c_g1; rw [cN_sT, c_take_N]) hr
  have hsum := cvN_sum (cE (c_g1 C bc)) ec
  obtain ⟨u4, uB, uR, ⟨b1, ub1, u5, ub2⟩, uE⟩ := gv_I (v := 0) (c0 := 0) hec t4 tB tR t5 (by omega) (by omega)
  have hcv : cvN (cE (c_gv (c_g1 C bc) 0 gc ec)) 1 ec = cvN (cE (c_g1 C bc)) 1 ec := cvN_congr (fun k => uE k 1 (by omega)) 1 ec
  obtain ⟨v4, vB, vR, -, -⟩ := gv_I (v := 1) (c0 := cvN (cE (c_g1 C bc)) 0 ec) hec u4 uB uR u5 (by omega) (by rw [hcv]; omega)
  refine zm_C.of (mc := 0) (ms := 0) rfl rfl (by decide) (Nat.le_of_ble_eq_true rfl) ?_
  intro Γ X
  have k2 : zm_V w Γ 11 [some (.ref o), some (.int 2)] [] (cH f o (c_group C bc gc ec), n) := by
    refine bkX3_group_11 X _ _ _ ?_
    simp only [zi_push, zi_ldi, zi_ldl, zi_lda, zi_sti, zi_stl, zi_sta, zi_inc, zi_b, zi_d, zi_u, zi_bl, zi_dl, zi_ul, zi_lcmp, zi_i2l, zi_l2i, zi_if, zi_ic, zi_nul, zi_dup, zi_pop, zi_dup_x1, zi_dup2, zi_gf, zi_pf, zi_ia, zi_is, zi_la, zi_lst, zi_aa, zi_as, zi_len, zi_new, zi_na, zi_mx, zi_mn, zi_sw, zi_swx, zi_cv, zi_cs, zi_ci, zi_obj, zi_iret, zi_lret, zi_zret, zi_aret, zi_vret, zm_s1, zm_s2, zm_k, zm_tk, zm_Rt, zm_is, List.getElem?_cons_zero, List.getElem?_cons_succ, List.set_cons_zero, List.set_cons_succ, List.length_cons, List.length_nil, List.map_cons, List.map_nil, List.sum_cons, List.sum_nil, List.nil_append, List.cons_append, Option.toList, Value.category, reduceIte, Nat.reduceAdd, Nat.reduceLeDiff, Nat.reduceLT, Nat.reduceEqDiff, Nat.reduceMul, and_true, true_and, and_self, Nat.zero_add, Nat.add_zero, Nat.le_refl, true_or, or_true, not_true_eq_false, not_false_eq_true, zm_ft_int, zm_ft_long, zm_ft_ref, zm_ft_null, zm_ft_b0, zm_ft_b1, i_2, i_3, i_4, i_10, io_16, io_64, io_33, io_2, cF_ev, cF_bm, va_rf, cH_0, cH_1, cH_2, cH_3, cH_4, cH_5, uT4, uT5, uT6, uT7, uB1, uB2, uB3, uG, uV]
    exact ⟨fun _ => trivial, fun q => absurd (by decide) q⟩
  have k1 : zm_V w Γ 11 [some (.ref o), some (.int 1)] [] (cH f o (c_gv (c_g1 C bc) 0 gc ec), n) := by
    refine bkX3_group_11 X _ _ _ ?_
    simp only [zi_push, zi_ldi, zi_ldl, zi_lda, zi_sti, zi_stl, zi_sta, zi_inc, zi_b, zi_d, zi_u, zi_bl, zi_dl, zi_ul, zi_lcmp, zi_i2l, zi_l2i, zi_if, zi_ic, zi_nul, zi_dup, zi_pop, zi_dup_x1, zi_dup2, zi_gf, zi_pf, zi_ia, zi_is, zi_la, zi_lst, zi_aa, zi_as, zi_len, zi_new, zi_na, zi_mx, zi_mn, zi_sw, zi_swx, zi_cv, zi_cs, zi_ci, zi_obj, zi_iret, zi_lret, zi_zret, zi_aret, zi_vret, zm_s1, zm_s2, zm_k, zm_tk, zm_Rt, zm_is, List.getElem?_cons_zero, List.getElem?_cons_succ, List.set_cons_zero, List.set_cons_succ, List.length_cons, List.length_nil, List.map_cons, List.map_nil, List.sum_cons, List.sum_nil, List.nil_append, List.cons_append, Option.toList, Value.category, reduceIte, Nat.reduceAdd, Nat.reduceLeDiff, Nat.reduceLT, Nat.reduceEqDiff, Nat.reduceMul, and_true, true_and, and_self, Nat.zero_add, Nat.add_zero, Nat.le_refl, true_or, or_true, not_true_eq_false, not_false_eq_true, zm_ft_int, zm_ft_long, zm_ft_ref, zm_ft_null, zm_ft_b0, zm_ft_b1, i_2, i_3, i_4, i_10, io_16, io_64, io_33, io_2, cF_ev, cF_bm, va_rf, cH_0, cH_1, cH_2, cH_3, cH_4, cH_5, uT4, uT5, uT6, uT7, uB1, uB2, uB3, uG, uV]
    refine ⟨fun q => absurd q (by decide), fun _ => ?_⟩
    refine zm_call.of (ctS_groupVoice (v := 1) (c0 := cvN (cE (c_g1 C bc)) 0 ec) hec hg1 hg u4 uB uR u5 (by omega) (by rw [hcv]; omega)) (Nat.le_refl _) (Nat.le_refl _) ?_
    simp only [zi_push, zi_ldi, zi_ldl, zi_lda, zi_sti, zi_stl, zi_sta, zi_inc, zi_b, zi_d, zi_u, zi_bl, zi_dl, zi_ul, zi_lcmp, zi_i2l, zi_l2i, zi_if, zi_ic, zi_nul, zi_dup, zi_pop, zi_dup_x1, zi_dup2, zi_gf, zi_pf, zi_ia, zi_is, zi_la, zi_lst, zi_aa, zi_as, zi_len, zi_new, zi_na, zi_mx, zi_mn, zi_sw, zi_swx, zi_cv, zi_cs, zi_ci, zi_obj, zi_iret, zi_lret, zi_zret, zi_aret, zi_vret, zm_s1, zm_s2, zm_k, zm_tk, zm_Rt, zm_is, List.getElem?_cons_zero, List.getElem?_cons_succ, List.set_cons_zero, List.set_cons_succ, List.length_cons, List.length_nil, List.map_cons, List.map_nil, List.sum_cons, List.sum_nil, List.nil_append, List.cons_append, Option.toList, Value.category, reduceIte, Nat.reduceAdd, Nat.reduceLeDiff, Nat.reduceLT, Nat.reduceEqDiff, Nat.reduceMul, and_true, true_and, and_self, Nat.zero_add, Nat.add_zero, Nat.le_refl, true_or, or_true, not_true_eq_false, not_false_eq_true, zm_ft_int, zm_ft_long, zm_ft_ref, zm_ft_null, zm_ft_b0, zm_ft_b1, i_2, i_3, i_4, i_10, io_16, io_64, io_33, io_2, cF_ev, cF_bm, va_rf, cH_0, cH_1, cH_2, cH_3, cH_4, cH_5, uT4, uT5, uT6, uT7, uB1, uB2, uB3, uG, uV]
    exact k2
  have k0 : zm_V w Γ 11 [some (.ref o), some (.int 0)] [] (cH f o (c_g1 C bc), n) := by
    refine bkX3_group_11 X _ _ _ ?_
    simp only [zi_push, zi_ldi, zi_ldl, zi_lda, zi_sti, zi_stl, zi_sta, zi_inc, zi_b, zi_d, zi_u, zi_bl, zi_dl, zi_ul, zi_lcmp, zi_i2l, zi_l2i, zi_if, zi_ic, zi_nul, zi_dup, zi_pop, zi_dup_x1, zi_dup2, zi_gf, zi_pf, zi_ia, zi_is, zi_la, zi_lst, zi_aa, zi_as, zi_len, zi_new, zi_na, zi_mx, zi_mn, zi_sw, zi_swx, zi_cv, zi_cs, zi_ci, zi_obj, zi_iret, zi_lret, zi_zret, zi_aret, zi_vret, zm_s1, zm_s2, zm_k, zm_tk, zm_Rt, zm_is, List.getElem?_cons_zero, List.getElem?_cons_succ, List.set_cons_zero, List.set_cons_succ, List.length_cons, List.length_nil, List.map_cons, List.map_nil, List.sum_cons, List.sum_nil, List.nil_append, List.cons_append, Option.toList, Value.category, reduceIte, Nat.reduceAdd, Nat.reduceLeDiff, Nat.reduceLT, Nat.reduceEqDiff, Nat.reduceMul, and_true, true_and, and_self, Nat.zero_add, Nat.add_zero, Nat.le_refl, true_or, or_true, not_true_eq_false, not_false_eq_true, zm_ft_int, zm_ft_long, zm_ft_ref, zm_ft_null, zm_ft_b0, zm_ft_b1, i_2, i_3, i_4, i_10, io_16, io_64, io_33, io_2, cF_ev, cF_bm, va_rf, cH_0, cH_1, cH_2, cH_3, cH_4, cH_5, uT4, uT5, uT6, uT7, uB1, uB2, uB3, uG, uV]
    refine ⟨fun q => absurd q (by decide), fun _ => ?_⟩
    refine zm_call.of (ctS_groupVoice (v := 0) (c0 := 0) hec hg1 hg t4 tB tR t5 (by omega) (by omega)) (Nat.le_refl _) (Nat.le_refl _) ?_
    simp only [zi_push, zi_ldi, zi_ldl, zi_lda, zi_sti, zi_stl, zi_sta, zi_inc, zi_b, zi_d, zi_u, zi_bl, zi_dl, zi_ul, zi_lcmp, zi_i2l, zi_l2i, zi_if, zi_ic, zi_nul, zi_dup, zi_pop, zi_dup_x1, zi_dup2, zi_gf, zi_pf, zi_ia, zi_is, zi_la, zi_lst, zi_aa, zi_as, zi_len, zi_new, zi_na, zi_mx, zi_mn, zi_sw, zi_swx, zi_cv, zi_cs, zi_ci, zi_obj, zi_iret, zi_lret, zi_zret, zi_aret, zi_vret, zm_s1, zm_s2, zm_k, zm_tk, zm_Rt, zm_is, List.getElem?_cons_zero, List.getElem?_cons_succ, List.set_cons_zero, List.set_cons_succ, List.length_cons, List.length_nil, List.map_cons, List.map_nil, List.sum_cons, List.sum_nil, List.nil_append, List.cons_append, Option.toList, Value.category, reduceIte, Nat.reduceAdd, Nat.reduceLeDiff, Nat.reduceLT, Nat.reduceEqDiff, Nat.reduceMul, and_true, true_and, and_self, Nat.zero_add, Nat.add_zero, Nat.le_refl, true_or, or_true, not_true_eq_false, not_false_eq_true, zm_ft_int, zm_ft_long, zm_ft_ref, zm_ft_null, zm_ft_b0, zm_ft_b1, i_2, i_3, i_4, i_10, io_16, io_64, io_33, io_2, cF_ev, cF_bm, va_rf, cH_0, cH_1, cH_2, cH_3, cH_4, cH_5, uT4, uT5, uT6, uT7, uB1, uB2, uB3, uG, uV]
    exact k1
  refine bkX3_group_0 X [some (.ref o), none] [] _ ?_
  simp only [zi_push, zi_ldi, zi_ldl, zi_lda, zi_sti, zi_stl, zi_sta, zi_inc, zi_b, zi_d, zi_u, zi_bl, zi_dl, zi_ul, zi_lcmp, zi_i2l, zi_l2i, zi_if, zi_ic, zi_nul, zi_dup, zi_pop, zi_dup_x1, zi_dup2, zi_gf, zi_pf, zi_ia, zi_is, zi_la, zi_lst, zi_aa, zi_as, zi_len, zi_new, zi_na, zi_mx, zi_mn, zi_sw, zi_swx, zi_cv, zi_cs, zi_ci, zi_obj, zi_iret, zi_lret, zi_zret, zi_aret, zi_vret, zm_s1, zm_s2, zm_k, zm_tk, zm_Rt, zm_is, List.getElem?_cons_zero, List.getElem?_cons_succ, List.set_cons_zero, List.set_cons_succ, List.length_cons, List.length_nil, List.map_cons, List.map_nil, List.sum_cons, List.sum_nil, List.nil_append, List.cons_append, Option.toList, Value.category, reduceIte, Nat.reduceAdd, Nat.reduceLeDiff, Nat.reduceLT, Nat.reduceEqDiff, Nat.reduceMul, and_true, true_and, and_self, Nat.zero_add, Nat.add_zero, Nat.le_refl, true_or, or_true, not_true_eq_false, not_false_eq_true, zm_ft_int, zm_ft_long, zm_ft_ref, zm_ft_null, zm_ft_b0, zm_ft_b1, i_2, i_3, i_4, i_10, io_16, io_64, io_33, io_2, cF_ev, cF_bm, va_rf, cH_0, cH_1, cH_2, cH_3, cH_4, cH_5, uT4, uT5, uT6, uT7, uB1, uB2, uB3, uG, uV]
  refine zm_call.of (ctS_takeBeamsAway hbc h5 hr) (Nat.le_refl _) (Nat.le_refl _) ?_
  simp only [zi_push, zi_ldi, zi_ldl, zi_lda, zi_sti, zi_stl, zi_sta, zi_inc, zi_b, zi_d, zi_u, zi_bl, zi_dl, zi_ul, zi_lcmp, zi_i2l, zi_l2i, zi_if, zi_ic, zi_nul, zi_dup, zi_pop, zi_dup_x1, zi_dup2, zi_gf, zi_pf, zi_ia, zi_is, zi_la, zi_lst, zi_aa, zi_as, zi_len, zi_new, zi_na, zi_mx, zi_mn, zi_sw, zi_swx, zi_cv, zi_cs, zi_ci, zi_obj, zi_iret, zi_lret, zi_zret, zi_aret, zi_vret, zm_s1, zm_s2, zm_k, zm_tk, zm_Rt, zm_is, List.getElem?_cons_zero, List.getElem?_cons_succ, List.set_cons_zero, List.set_cons_succ, List.length_cons, List.length_nil, List.map_cons, List.map_nil, List.sum_cons, List.sum_nil, List.nil_append, List.cons_append, Option.toList, Value.category, reduceIte, Nat.reduceAdd, Nat.reduceLeDiff, Nat.reduceLT, Nat.reduceEqDiff, Nat.reduceMul, and_true, true_and, and_self, Nat.zero_add, Nat.add_zero, Nat.le_refl, true_or, or_true, not_true_eq_false, not_false_eq_true, zm_ft_int, zm_ft_long, zm_ft_ref, zm_ft_null, zm_ft_b0, zm_ft_b1, i_2, i_3, i_4, i_10, io_16, io_64, io_33, io_2, cF_ev, cF_bm, va_rf, cH_0, cH_1, cH_2, cH_3, cH_4, cH_5, uT4, uT5, uT6, uT7, uB1, uB2, uB3, uG, uV]
  exact k0
end
