theorem nI_bv {b : Nat} (h : b < 32) : (nI b).toBitVec = BitVec.ofNat 32 b := rfl
theorem smod32 : ∀ b : Fin 32, (BitVec.ofNat 32 b.val).smod 32 = BitVec.ofNat 32 b.val := by decide +kernel
theorem shr_bv (y : Int32) {b : Nat} (h : b < 32) : (y >>> nI b).toBitVec = y.toBitVec.sshiftRight b := by
  rw [Int32.toBitVec_shiftRight, nI_bv h]
  have := smod32 ⟨b, h⟩
  simp only at this
  rw [this]
  show y.toBitVec.sshiftRight (BitVec.ofNat 32 b).toNat = _
  rw [BitVec.toNat_ofNat, Nat.mod_eq_of_lt (by omega)]
theorem shl_bv (y : Int32) {b : Nat} (h : b < 32) : (y <<< nI b).toBitVec = y.toBitVec <<< b := by
  rw [Int32.toBitVec_shiftLeft, nI_bv h]
  have := smod32 ⟨b, h⟩
  simp only at this
  rw [this]
  show y.toBitVec <<< (BitVec.ofNat 32 b).toNat = _
  rw [BitVec.toNat_ofNat, Nat.mod_eq_of_lt (by omega)]
theorem bit_iff (y : Int32) {b : Nat} (h : b < 32) : (y >>> nI b &&& 1 = 1) ↔ y.toBitVec.getLsbD b = true := by
  rw [← Int32.toBitVec_inj, Int32.toBitVec_and, shr_bv y h]
  constructor
  · intro e
    have := congrArg (fun z : BitVec 32 => z.getLsbD 0) e
    simp at this
    have h2 : (y.toBitVec.sshiftRight b).getLsbD 0 = y.toBitVec.getLsbD b := by
      rw [BitVec.getLsbD_sshiftRight]
      simp [h]
    rw [← h2]
    simpa using this
  · intro e
    apply BitVec.eq_of_getLsbD_eq
    intro i hi
    rw [BitVec.getLsbD_and]
    have e1 : (1 : Int32).toBitVec = 1#32 := rfl
    rw [e1, BitVec.getLsbD_one]
    by_cases h0 : i = 0
    · subst h0
      rw [BitVec.getLsbD_sshiftRight]
      simp [h, e]
    · simp [h0]
theorem bit_or (m : Int32) {a b : Nat} (ha : a < 32) (hb : b < 32) : ((m ||| (1 <<< nI a)) >>> nI b &&& 1 = 1) ↔ ((m >>> nI b &&& 1 = 1) ∨ a = b) := by
  rw [bit_iff _ hb, bit_iff _ hb, Int32.toBitVec_or, shl_bv 1 ha, BitVec.getLsbD_or, BitVec.getLsbD_shiftLeft]
  have e1 : (1 : Int32).toBitVec = 1#32 := rfl
  rw [e1, BitVec.getLsbD_one]
  simp [hb]
  constructor
  · rintro (z | z)
    · exact Or.inl z
    · right; omega
  · rintro (z | z)
    · exact Or.inl z
    · right; omega
theorem p12 : ∀ k : Fin 25, (zI ((k.val : Int) - 12) + 12) &&& 31 = nI k.val := by decide +kernel
theorem pl_bit {x : Int} (h1 : -12 ≤ x) (h2 : x ≤ 12) : (zI x + 12) &&& 31 = nI (x + 12).toNat := by
  have h := p12 ⟨(x + 12).toNat, by omega⟩
  have e : (((x + 12).toNat : Nat) : Int) - 12 = x := by omega
  simp only [e] at h
  exact h
theorem itr_last {α : Type} (F : Nat → α → α) : ∀ (m i : Nat) (a : α), itr F (m + 1) i a = F (i + m) (itr F m i a)
  | 0, _, _ => rfl
  | m + 1, i, a => by
    rw [itr, itr_last F m (i + 1), show i + 1 + m = i + (m + 1) by omega]
    rfl
theorem itr_congr {α : Type} (F G : Nat → α → α) (N : Nat) (h : ∀ k, k < N → ∀ a, F k a = G k a) (m i : Nat) (a : α) (hi : i + m ≤ N) : itr F m i a = itr G m i a := itr_rel (fun x y : α => x = y) F G N (fun k hk t u e => by rw [e]; exact h k hk u) m i a a hi rfl
theorem c_pl_in (p : Int32) : c_pl p = c_in p (-12) 12 := rfl
section
variable {w : zW} {f : Nat → Option zO} {o q : Nat} {n : Nat × Nat} {C : cS} {M : mS} {ec bc gc : Nat}
theorem ctR_also (h : rR C M ec bc gc) {k : Nat} (hk : k < ec) (p : Int32) (hr : c_ref C k (c_pl p) = 0) {hm : Nat} (hm1 : 1 ≤ hm) (hm4 : hm ≤ 4) (h5 : cE C k 5 = nI hm) (r : Int32) (M' : mS) (hA : (∃ i, i < hm ∧ r_hd M k i = p) → r = -1004 ∧ M' = tI M 0 0) (hB : (∀ i, i < hm → ¬ r_hd M k i = p) → hm = 4 → r = -1005 ∧ M' = tI M 0 0) (hC : (∀ i, i < hm → ¬ r_hd M k i = p) → hm < 4 → r = nI (hm + 1) ∧ M' = tI (tA (tA (tI M 0 0) 14 (4 * k + hm) p) 15 k (nI (hm + 1))) 18 0) : zm_C w mX4_also [.ref q, .int (nI k), .int p] (mH f q M, n) (some (.int r)) (mH f q M', n) := by
  have h0 : rR C (tI M 0 0) ec bc gc := rR_I h rfl rfl rfl rfl rfl rfl rfl rfl
  have hec : ec ≤ 64 := h.2.2.2.2.2.1.1
  have he := h0.2.2.2.2.2.1
  have ho := he.2.2 k hk
  have hck : (nI k).toNatClampNeg = k := nI_clamp (by omega)
  have h15 : mA (tI M 0 0) 15 k = nI hm := by rw [ho.1.2.2.2.2.2.2.2.1]; exact h5
  obtain ⟨c1, c2⟩ := c_ref_0 hr
  refine zm_C.of (mc := 0) (ms := 0) rfl rfl (by decide) (Nat.le_of_ble_eq_true rfl) ?_
  intro Γ X
  have key : ∀ (m i : Nat) (t : Int32), i + m = hm → (t = 0 ∨ t = 1) → (t = 0 ↔ ∀ a, a < i → ¬ r_hd M k a = p) → zm_V w Γ 54 [some (.ref q), some (.int (nI k)), some (.int p), some (.int t), some (.int (nI i))] [] (mH f q (tI M 0 0), n) := by
    intro m
    induction m with
    | zero =>
      intro i t h1 h2 h3
      have hi : i = hm := by omega
      subst hi
      have e4 : nI i = 4 ↔ i = 4 := nI_eq (b := 4) (by omega) (by decide)
      rcases h2 with rfl | rfl
      · have hall := h3.mp rfl
        by_cases h4 : i = 4
        · obtain ⟨rfl, rfl⟩ := hB hall h4
          refine bkX4_also_54 X _ _ _ ?_
          simp only [zi_push, zi_ldi, zi_ldl, zi_lda, zi_sti, zi_stl, zi_sta, zi_inc, zi_b, zi_d, zi_u, zi_bl, zi_dl, zi_ul, zi_lcmp, zi_i2l, zi_l2i, zi_if, zi_ic, zi_nul, zi_dup, zi_pop, zi_dup_x1, zi_dup2, zi_gf, zi_pf, zi_ia, zi_is, zi_la, zi_lst, zi_aa, zi_as, zi_len, zi_new, zi_na, zi_mx, zi_mn, zi_sw, zi_swx, zi_cv, zi_cs, zi_ci, zi_obj, zi_iret, zi_lret, zi_zret, zi_aret, zi_vret, zm_s1, zm_s2, zm_k, zm_tk, zm_Rt, zm_is, List.getElem?_cons_zero, List.getElem?_cons_succ, List.set_cons_zero, List.set_cons_succ, List.length_cons, List.length_nil, List.map_cons, List.map_nil, List.sum_cons, List.sum_nil, List.nil_append, List.cons_append, Option.toList, Value.category, reduceIte, Nat.reduceAdd, Nat.reduceLeDiff, Nat.reduceLT, Nat.reduceEqDiff, Nat.reduceMul, and_true, true_and, and_self, Nat.zero_add, Nat.add_zero, Nat.le_refl, true_or, or_true, not_true_eq_false, not_false_eq_true, zm_ft_int, zm_ft_long, zm_ft_ref, zm_ft_null, zm_ft_b0, zm_ft_b1, i_2, i_3, i_4, i_10, io_16, io_64, io_33, io_2, cF_ev, cF_bm, va_rf, cH_0, cH_1, cH_2, cH_3, cH_4, cH_5, uT4, uT5, uT6, uT7, uB1, uB2, uB3, uG, uV, mH_0, mH_1, mH_2, mH_3, mH_4, mH_5, mH_6, mH_7, mH_8, mH_9, mH_10, mH_11, mH_12, mH_13, mH_14, mH_15, mH_16, mH_17, mH_18, mH_19, mH_20, mH_21, vI0, vI1, vI2, vI3, vI5, vI17, vI18, vI19, vA4, vA6, vA7, vA8, vA9, vA10, vA11, vA12, vA13, vA14, vA15, vA16, vA20, vA21, vA22, vA23, vA24, vA25, vA26, vA27, vD, hck, h15, e4]
          exact ⟨vp_in_nI (by omega) (by decide), fun _ => ⟨fun _ => ⟨vp_in_nI (by omega) (by decide), fun _ => trivial, fun z => absurd h4 z⟩, fun z => z.elim⟩, fun z => absurd (nI_le (Nat.le_refl _) (by omega)) z⟩
        · obtain ⟨rfl, rfl⟩ := hC hall (by omega)
          have z1 : ∀ x : Nat, mA (tA (tI M 0 0) 14 x p) 15 k = nI i := fun x => by rw [tA_ne _ _ _ (by decide)]; exact h15
          have z2 : ∀ (Y : mS) (y : Int32), mA (tA Y 15 k y) 15 k = y := fun Y y => by rw [tA_at, upd_at]
          have z3 : ∀ (Y : mS) (y : Int32), mA (tI Y 18 y) 15 k = mA Y 15 k := fun Y y => rfl
          refine bkX4_also_54 X _ _ _ ?_
          simp only [zi_push, zi_ldi, zi_ldl, zi_lda, zi_sti, zi_stl, zi_sta, zi_inc, zi_b, zi_d, zi_u, zi_bl, zi_dl, zi_ul, zi_lcmp, zi_i2l, zi_l2i, zi_if, zi_ic, zi_nul, zi_dup, zi_pop, zi_dup_x1, zi_dup2, zi_gf, zi_pf, zi_ia, zi_is, zi_la, zi_lst, zi_aa, zi_as, zi_len, zi_new, zi_na, zi_mx, zi_mn, zi_sw, zi_swx, zi_cv, zi_cs, zi_ci, zi_obj, zi_iret, zi_lret, zi_zret, zi_aret, zi_vret, zm_s1, zm_s2, zm_k, zm_tk, zm_Rt, zm_is, List.getElem?_cons_zero, List.getElem?_cons_succ, List.set_cons_zero, List.set_cons_succ, List.length_cons, List.length_nil, List.map_cons, List.map_nil, List.sum_cons, List.sum_nil, List.nil_append, List.cons_append, Option.toList, Value.category, reduceIte, Nat.reduceAdd, Nat.reduceLeDiff, Nat.reduceLT, Nat.reduceEqDiff, Nat.reduceMul, and_true, true_and, and_self, Nat.zero_add, Nat.add_zero, Nat.le_refl, true_or, or_true, not_true_eq_false, not_false_eq_true, zm_ft_int, zm_ft_long, zm_ft_ref, zm_ft_null, zm_ft_b0, zm_ft_b1, i_2, i_3, i_4, i_10, io_16, io_64, io_33, io_2, cF_ev, cF_bm, va_rf, cH_0, cH_1, cH_2, cH_3, cH_4, cH_5, uT4, uT5, uT6, uT7, uB1, uB2, uB3, uG, uV, mH_0, mH_1, mH_2, mH_3, mH_4, mH_5, mH_6, mH_7, mH_8, mH_9, mH_10, mH_11, mH_12, mH_13, mH_14, mH_15, mH_16, mH_17, mH_18, mH_19, mH_20, mH_21, vI0, vI1, vI2, vI3, vI5, vI17, vI18, vI19, vA4, vA6, vA7, vA8, vA9, vA10, vA11, vA12, vA13, vA14, vA15, vA16, vA20, vA21, vA22, vA23, vA24, vA25, vA26, vA27, vD, hck, h15, e4, n4, nI_add, nI_clamp (show 4 * k + i < 2 ^ 31 by omega), z1, nI_1, z3, z2]
          exact ⟨vp_in_nI (by omega) (by decide), fun _ => ⟨fun _ => ⟨vp_in_nI (by omega) (by decide), fun z => absurd z h4, fun _ => ⟨vp_in_nI (by omega) (by decide), vp_in_nI (by omega) (by decide), vp_in_nI (by omega) (by decide)⟩⟩, fun z => z.elim⟩, fun z => absurd (nI_le (Nat.le_refl _) (by omega)) z⟩
      · have hex : ∃ a, a < i ∧ r_hd M k a = p := by
          by_cases hx : ∃ a, a < i ∧ r_hd M k a = p
          · exact hx
          · exact absurd (h3.mpr (fun a ha z => hx ⟨a, ha, z⟩)) (by decide)
        obtain ⟨rfl, rfl⟩ := hA hex
        refine bkX4_also_54 X _ _ _ ?_
        simp only [zi_push, zi_ldi, zi_ldl, zi_lda, zi_sti, zi_stl, zi_sta, zi_inc, zi_b, zi_d, zi_u, zi_bl, zi_dl, zi_ul, zi_lcmp, zi_i2l, zi_l2i, zi_if, zi_ic, zi_nul, zi_dup, zi_pop, zi_dup_x1, zi_dup2, zi_gf, zi_pf, zi_ia, zi_is, zi_la, zi_lst, zi_aa, zi_as, zi_len, zi_new, zi_na, zi_mx, zi_mn, zi_sw, zi_swx, zi_cv, zi_cs, zi_ci, zi_obj, zi_iret, zi_lret, zi_zret, zi_aret, zi_vret, zm_s1, zm_s2, zm_k, zm_tk, zm_Rt, zm_is, List.getElem?_cons_zero, List.getElem?_cons_succ, List.set_cons_zero, List.set_cons_succ, List.length_cons, List.length_nil, List.map_cons, List.map_nil, List.sum_cons, List.sum_nil, List.nil_append, List.cons_append, Option.toList, Value.category, reduceIte, Nat.reduceAdd, Nat.reduceLeDiff, Nat.reduceLT, Nat.reduceEqDiff, Nat.reduceMul, and_true, true_and, and_self, Nat.zero_add, Nat.add_zero, Nat.le_refl, true_or, or_true, not_true_eq_false, not_false_eq_true, zm_ft_int, zm_ft_long, zm_ft_ref, zm_ft_null, zm_ft_b0, zm_ft_b1, i_2, i_3, i_4, i_10, io_16, io_64, io_33, io_2, cF_ev, cF_bm, va_rf, cH_0, cH_1, cH_2, cH_3, cH_4, cH_5, uT4, uT5, uT6, uT7, uB1, uB2, uB3, uG, uV, mH_0, mH_1, mH_2, mH_3, mH_4, mH_5, mH_6, mH_7, mH_8, mH_9, mH_10, mH_11, mH_12, mH_13, mH_14, mH_15, mH_16, mH_17, mH_18, mH_19, mH_20, mH_21, vI0, vI1, vI2, vI3, vI5, vI17, vI18, vI19, vA4, vA6, vA7, vA8, vA9, vA10, vA11, vA12, vA13, vA14, vA15, vA16, vA20, vA21, vA22, vA23, vA24, vA25, vA26, vA27, vD, hck, h15]
        exact ⟨vp_in_nI (by omega) (by decide), fun _ => ⟨fun z => absurd z (by decide), fun _ => trivial⟩, fun z => absurd (nI_le (Nat.le_refl _) (by omega)) z⟩
    | succ m ih =>
      intro i t h1 h2 h3
      have z14 : mA (tI M 0 0) 14 (4 * k + i) = r_hd M k i := rfl
      refine bkX4_also_54 X _ _ _ ?_
      simp only [zi_push, zi_ldi, zi_ldl, zi_lda, zi_sti, zi_stl, zi_sta, zi_inc, zi_b, zi_d, zi_u, zi_bl, zi_dl, zi_ul, zi_lcmp, zi_i2l, zi_l2i, zi_if, zi_ic, zi_nul, zi_dup, zi_pop, zi_dup_x1, zi_dup2, zi_gf, zi_pf, zi_ia, zi_is, zi_la, zi_lst, zi_aa, zi_as, zi_len, zi_new, zi_na, zi_mx, zi_mn, zi_sw, zi_swx, zi_cv, zi_cs, zi_ci, zi_obj, zi_iret, zi_lret, zi_zret, zi_aret, zi_vret, zm_s1, zm_s2, zm_k, zm_tk, zm_Rt, zm_is, List.getElem?_cons_zero, List.getElem?_cons_succ, List.set_cons_zero, List.set_cons_succ, List.length_cons, List.length_nil, List.map_cons, List.map_nil, List.sum_cons, List.sum_nil, List.nil_append, List.cons_append, Option.toList, Value.category, reduceIte, Nat.reduceAdd, Nat.reduceLeDiff, Nat.reduceLT, Nat.reduceEqDiff, Nat.reduceMul, and_true, true_and, and_self, Nat.zero_add, Nat.add_zero, Nat.le_refl, true_or, or_true, not_true_eq_false, not_false_eq_true, zm_ft_int, zm_ft_long, zm_ft_ref, zm_ft_null, zm_ft_b0, zm_ft_b1, i_2, i_3, i_4, i_10, io_16, io_64, io_33, io_2, cF_ev, cF_bm, va_rf, cH_0, cH_1, cH_2, cH_3, cH_4, cH_5, uT4, uT5, uT6, uT7, uB1, uB2, uB3, uG, uV, mH_0, mH_1, mH_2, mH_3, mH_4, mH_5, mH_6, mH_7, mH_8, mH_9, mH_10, mH_11, mH_12, mH_13, mH_14, mH_15, mH_16, mH_17, mH_18, mH_19, mH_20, mH_21, vI0, vI1, vI2, vI3, vI5, vI17, vI18, vI19, vA4, vA6, vA7, vA8, vA9, vA10, vA11, vA12, vA13, vA14, vA15, vA16, vA20, vA21, vA22, vA23, vA24, vA25, vA26, vA27, vD, hck, h15, n4, nI_add, nI_clamp (show 4 * k + i < 2 ^ 31 by omega), nI_1, z14]
      refine ⟨vp_in_nI (by omega) (by decide), fun z => absurd z (nI_ge (by omega) (by omega)), fun _ => ⟨fun z => ⟨vp_in_nI (by omega) (by decide), fun y => ih (i + 1) 1 (by omega) (Or.inr rfl) (iff_of_false (by decide) (fun g => g i (by omega) y)), fun y => ih (i + 1) 0 (by omega) (Or.inl rfl) (iff_of_true rfl (fun a ha => ?_))⟩, fun z => ih (i + 1) 1 (by omega) (Or.inr rfl) (iff_of_false (by decide) (fun g => z (h3.mpr (fun a ha => g a (by omega)))))⟩⟩
      by_cases e : a = i
      · rw [e]
        exact y
      · exact h3.mp z a (by omega)
  refine bkX4_also_0 X [some (.ref q), some (.int (nI k)), some (.int p), none, none] [] _ ?_
  simp only [zi_push, zi_ldi, zi_ldl, zi_lda, zi_sti, zi_stl, zi_sta, zi_inc, zi_b, zi_d, zi_u, zi_bl, zi_dl, zi_ul, zi_lcmp, zi_i2l, zi_l2i, zi_if, zi_ic, zi_nul, zi_dup, zi_pop, zi_dup_x1, zi_dup2, zi_gf, zi_pf, zi_ia, zi_is, zi_la, zi_lst, zi_aa, zi_as, zi_len, zi_new, zi_na, zi_mx, zi_mn, zi_sw, zi_swx, zi_cv, zi_cs, zi_ci, zi_obj, zi_iret, zi_lret, zi_zret, zi_aret, zi_vret, zm_s1, zm_s2, zm_k, zm_tk, zm_Rt, zm_is, List.getElem?_cons_zero, List.getElem?_cons_succ, List.set_cons_zero, List.set_cons_succ, List.length_cons, List.length_nil, List.map_cons, List.map_nil, List.sum_cons, List.sum_nil, List.nil_append, List.cons_append, Option.toList, Value.category, reduceIte, Nat.reduceAdd, Nat.reduceLeDiff, Nat.reduceLT, Nat.reduceEqDiff, Nat.reduceMul, and_true, true_and, and_self, Nat.zero_add, Nat.add_zero, Nat.le_refl, true_or, or_true, not_true_eq_false, not_false_eq_true, zm_ft_int, zm_ft_long, zm_ft_ref, zm_ft_null, zm_ft_b0, zm_ft_b1, i_2, i_3, i_4, i_10, io_16, io_64, io_33, io_2, cF_ev, cF_bm, va_rf, cH_0, cH_1, cH_2, cH_3, cH_4, cH_5, uT4, uT5, uT6, uT7, uB1, uB2, uB3, uG, uV, mH_0, mH_1, mH_2, mH_3, mH_4, mH_5, mH_6, mH_7, mH_8, mH_9, mH_10, mH_11, mH_12, mH_13, mH_14, mH_15, mH_16, mH_17, mH_18, mH_19, mH_20, mH_21, vI0, vI1, vI2, vI3, vI5, vI17, vI18, vI19, vA4, vA6, vA7, vA8, vA9, vA10, vA11, vA12, vA13, vA14, vA15, vA16, vA20, vA21, vA22, vA23, vA24, vA25, vA26, vA27, vD]
  refine zm_call.of (ctR_isEvent he.2.1 (nI k)) (Nat.le_refl _) (Nat.le_refl _) ?_
  simp only [zi_push, zi_ldi, zi_ldl, zi_lda, zi_sti, zi_stl, zi_sta, zi_inc, zi_b, zi_d, zi_u, zi_bl, zi_dl, zi_ul, zi_lcmp, zi_i2l, zi_l2i, zi_if, zi_ic, zi_nul, zi_dup, zi_pop, zi_dup_x1, zi_dup2, zi_gf, zi_pf, zi_ia, zi_is, zi_la, zi_lst, zi_aa, zi_as, zi_len, zi_new, zi_na, zi_mx, zi_mn, zi_sw, zi_swx, zi_cv, zi_cs, zi_ci, zi_obj, zi_iret, zi_lret, zi_zret, zi_aret, zi_vret, zm_s1, zm_s2, zm_k, zm_tk, zm_Rt, zm_is, List.getElem?_cons_zero, List.getElem?_cons_succ, List.set_cons_zero, List.set_cons_succ, List.length_cons, List.length_nil, List.map_cons, List.map_nil, List.sum_cons, List.sum_nil, List.nil_append, List.cons_append, Option.toList, Value.category, reduceIte, Nat.reduceAdd, Nat.reduceLeDiff, Nat.reduceLT, Nat.reduceEqDiff, Nat.reduceMul, and_true, true_and, and_self, Nat.zero_add, Nat.add_zero, Nat.le_refl, true_or, or_true, not_true_eq_false, not_false_eq_true, zm_ft_int, zm_ft_long, zm_ft_ref, zm_ft_null, zm_ft_b0, zm_ft_b1, i_2, i_3, i_4, i_10, io_16, io_64, io_33, io_2, cF_ev, cF_bm, va_rf, cH_0, cH_1, cH_2, cH_3, cH_4, cH_5, uT4, uT5, uT6, uT7, uB1, uB2, uB3, uG, uV, mH_0, mH_1, mH_2, mH_3, mH_4, mH_5, mH_6, mH_7, mH_8, mH_9, mH_10, mH_11, mH_12, mH_13, mH_14, mH_15, mH_16, mH_17, mH_18, mH_19, mH_20, mH_21, vI0, vI1, vI2, vI3, vI5, vI17, vI18, vI19, vA4, vA6, vA7, vA8, vA9, vA10, vA11, vA12, vA13, vA14, vA15, vA16, vA20, vA21, vA22, vA23, vA24, vA25, vA26, vA27, vD]
  refine ⟨fun p => absurd ((noN_in (by omega)).mp p) (noN_nI (by omega) hk), fun _ => ?_⟩
  refine zm_call.of (ctR_in32 p (a := -12) (b := 12) (by decide) (by decide)) (Nat.le_refl _) (Nat.le_refl _) ?_
  simp only [zi_push, zi_ldi, zi_ldl, zi_lda, zi_sti, zi_stl, zi_sta, zi_inc, zi_b, zi_d, zi_u, zi_bl, zi_dl, zi_ul, zi_lcmp, zi_i2l, zi_l2i, zi_if, zi_ic, zi_nul, zi_dup, zi_pop, zi_dup_x1, zi_dup2, zi_gf, zi_pf, zi_ia, zi_is, zi_la, zi_lst, zi_aa, zi_as, zi_len, zi_new, zi_na, zi_mx, zi_mn, zi_sw, zi_swx, zi_cv, zi_cs, zi_ci, zi_obj, zi_iret, zi_lret, zi_zret, zi_aret, zi_vret, zm_s1, zm_s2, zm_k, zm_tk, zm_Rt, zm_is, List.getElem?_cons_zero, List.getElem?_cons_succ, List.set_cons_zero, List.set_cons_succ, List.length_cons, List.length_nil, List.map_cons, List.map_nil, List.sum_cons, List.sum_nil, List.nil_append, List.cons_append, Option.toList, Value.category, reduceIte, Nat.reduceAdd, Nat.reduceLeDiff, Nat.reduceLT, Nat.reduceEqDiff, Nat.reduceMul, and_true, true_and, and_self, Nat.zero_add, Nat.add_zero, Nat.le_refl, true_or, or_true, not_true_eq_false, not_false_eq_true, zm_ft_int, zm_ft_long, zm_ft_ref, zm_ft_null, zm_ft_b0, zm_ft_b1, i_2, i_3, i_4, i_10, io_16, io_64, io_33, io_2, cF_ev, cF_bm, va_rf, cH_0, cH_1, cH_2, cH_3, cH_4, cH_5, uT4, uT5, uT6, uT7, uB1, uB2, uB3, uG, uV, mH_0, mH_1, mH_2, mH_3, mH_4, mH_5, mH_6, mH_7, mH_8, mH_9, mH_10, mH_11, mH_12, mH_13, mH_14, mH_15, mH_16, mH_17, mH_18, mH_19, mH_20, mH_21, vI0, vI1, vI2, vI3, vI5, vI17, vI18, vI19, vA4, vA6, vA7, vA8, vA9, vA10, vA11, vA12, vA13, vA14, vA15, vA16, vA20, vA21, vA22, vA23, vA24, vA25, vA26, vA27, vD, hck, rest_iff ho]
  refine ⟨fun z => absurd z c1, fun _ => ⟨vp_in_nI (by omega) (by decide), fun z => absurd z c2, fun _ => key hm 0 0 (by omega) (Or.inl rfl) (iff_of_true rfl (fun a ha => absurd ha (by omega)))⟩⟩
theorem also_rel (h : RR C M ec bc gc) {k : Nat} (hk : k < ec) {x : Int} (x1 : -12 ≤ x) (x2 : x ≤ 12) {hm : Nat} (hm1 : 1 ≤ hm) (hm4 : hm < 4) (h5 : cE C k 5 = nI hm) : RR (e_head (c_take C bc) k (zI x)) (tI (tA (tA (tI M 0 0) 14 (4 * k + hm) (zI x)) 15 k (nI (hm + 1))) 18 0) ec 0 gc := by
  have ht := take_rel (M' := tI (tI M 0 0) 18 0) h.1 rfl rfl rfl rfl rfl rfl rfl
  refine ⟨?_, ⟨by unfold vB; show inR (cV (c_take C bc) 0) _ _ ∧ inR (cV (c_take C bc) 1) _ _; rw [c_take_V]; exact h.2.1, bB_0 _⟩⟩
  have hEne : ∀ i y, i ≠ k → cE (e_head (c_take C bc) k (zI x)) i y = cE (c_take C bc) i y := fun i y hi => by
    unfold e_head
    rw [cE_sE, up2_ne _ _ hi, cE_sE, up2_ne _ _ hi, cE_sE, up2_ne _ _ hi, cE_sE, up2_ne _ _ hi]
  have hEk : ∀ i y, y ≠ 5 → y ≠ 6 → y ≠ 7 → y ≠ 16 → cE (e_head (c_take C bc) k (zI x)) i y = cE (c_take C bc) i y := fun i y a1 a2 a3 a4 => by
    unfold e_head
    rw [cE_sE, up2_k _ _ a1, cE_sE, up2_k _ _ a4, cE_sE, up2_k _ _ a3, cE_sE, up2_k _ _ a2]
  have t5 : cE (c_take C bc) k 5 = nI hm := by rw [c_take_E C bc k (by decide)]; exact h5
  have t50 : ¬ cE (c_take C bc) k 5 = 0 := by rw [t5]; exact nI_ne0 (by omega) (by omega)
  have k5 : cE (e_head (c_take C bc) k (zI x)) k 5 = nI (hm + 1) := by
    unfold e_head
    rw [cE_sE, up2_eq, if_pos rfl, t5, nI_1]
  have k6 : cE (e_head (c_take C bc) k (zI x)) k 6 = if zI x < cE (c_take C bc) k 6 then zI x else cE (c_take C bc) k 6 := by
    unfold e_head
    rw [cE_sE, up2_k _ _ (by decide), cE_sE, up2_k _ _ (by decide), cE_sE, up2_k _ _ (by decide), cE_sE, up2_eq, if_pos rfl, if_neg t50]
  have k7 : cE (e_head (c_take C bc) k (zI x)) k 7 = if cE (c_take C bc) k 7 < zI x then zI x else cE (c_take C bc) k 7 := by
    unfold e_head
    rw [cE_sE, up2_k _ _ (by decide), cE_sE, up2_k _ _ (by decide), cE_sE, up2_eq, if_pos rfl, if_neg t50]
  have k16 : cE (e_head (c_take C bc) k (zI x)) k 16 = cE (c_take C bc) k 16 ||| (1 <<< ((zI x + 12) &&& 31)) := by
    unfold e_head
    rw [cE_sE, up2_k _ _ (by decide), cE_sE, up2_eq, if_pos rfl]
  have hA : ∀ y, y ≠ 14 → y ≠ 15 → mA (tI (tA (tA (tI M 0 0) 14 (4 * k + hm) (zI x)) 15 k (nI (hm + 1))) 18 0) y = mA (tI (tI M 0 0) 18 0) y := fun y a b => by
    show mA (tA (tA (tI M 0 0) 14 (4 * k + hm) (zI x)) 15 k (nI (hm + 1))) y = _
    rw [tA_ne _ _ _ b, tA_ne _ _ _ a]
    rfl
  have hA15 : ∀ i, mA (tI (tA (tA (tI M 0 0) 14 (4 * k + hm) (zI x)) 15 k (nI (hm + 1))) 18 0) 15 i = if i = k then nI (hm + 1) else mA (tI (tI M 0 0) 18 0) 15 i := fun i => by
    show mA (tA (tA (tI M 0 0) 14 (4 * k + hm) (zI x)) 15 k (nI (hm + 1))) 15 i = _
    rw [tA_at, tA_ne _ _ _ (by decide)]
    rfl
  have hH : ∀ i j, r_hd (tI (tA (tA (tI M 0 0) 14 (4 * k + hm) (zI x)) 15 k (nI (hm + 1))) 18 0) i j = if 4 * i + j = 4 * k + hm then zI x else r_hd (tI (tI M 0 0) 18 0) i j := fun i j => by
    show mA (tA (tA (tI M 0 0) 14 (4 * k + hm) (zI x)) 15 k (nI (hm + 1))) 14 (4 * i + j) = _
    rw [tA_ne _ _ _ (by decide), tA_at]
    rfl
  refine rR_ev ht rfl rfl rfl rfl rfl rfl rfl rfl rfl (fun e _ => hEk e 10 (by decide) (by decide) (by decide) (by decide)) ⟨ht.2.2.2.2.2.1.1, ht.2.2.2.2.2.1.2.1, fun i hi => ?_⟩ (hA 4 (by decide) (by decide)) (hA 16 (by decide) (by decide)) rfl rfl rfl rfl rfl
  have g := ht.2.2.2.2.2.1.2.2 i hi
  by_cases e : i = k
  · subst e
    obtain ⟨⟨a1, a2, a3, a4, a5, a6, a7, a8, a9, a10⟩, ⟨b1, b2, b3, b4⟩, hm', m1, m2, m3, m4⟩ := g
    have em : hm' = hm := by
      rw [t5, nI_eq (by omega) (by omega)] at m2
      exact m2.symm
    subst em
    obtain ⟨m31, m32⟩ := m3 hm1
    have hx12 : inR (zI x) (-12) 12 := ⟨x, x1, x2, rfl⟩
    have Hk : ∀ j, j < hm' → r_hd (tI (tA (tA (tI M 0 0) 14 (4 * i + hm') (zI x)) 15 i (nI (hm' + 1))) 18 0) i j = r_hd (tI (tI M 0 0) 18 0) i j := fun j hj => by rw [hH, if_neg (by omega)]
    have Hm : r_hd (tI (tA (tA (tI M 0 0) 14 (4 * i + hm') (zI x)) 15 i (nI (hm' + 1))) 18 0) i hm' = zI x := by rw [hH, if_pos rfl]
    refine ⟨⟨?_, ?_, ?_, ?_, ?_, ?_, ?_, ?_, ?_, ?_⟩, ⟨?_, ?_, ?_, fun _ => ⟨?_, ?_⟩⟩, hm' + 1, by omega, k5, fun _ => ⟨?_, ?_⟩, fun p p1 p2 => ?_⟩
    · rw [hA 7 (by decide) (by decide), hEk i 1 (by decide) (by decide) (by decide) (by decide)]; exact a1
    · rw [hA 8 (by decide) (by decide), hEk i 2 (by decide) (by decide) (by decide) (by decide)]; exact a2
    · rw [hA 9 (by decide) (by decide), hEk i 3 (by decide) (by decide) (by decide) (by decide)]; exact a3
    · rw [hA 10 (by decide) (by decide), hEk i 4 (by decide) (by decide) (by decide) (by decide)]; exact a4
    · rw [hA 11 (by decide) (by decide), hEk i 8 (by decide) (by decide) (by decide) (by decide)]; exact a5
    · rw [hA 12 (by decide) (by decide), hEk i 9 (by decide) (by decide) (by decide) (by decide)]; exact a6
    · rw [hA 13 (by decide) (by decide), hEk i 17 (by decide) (by decide) (by decide) (by decide)]; exact a7
    · rw [hA15, if_pos rfl, k5]
    · rw [hA 6 (by decide) (by decide), k5, if_neg (nI_ne0 (by omega) (by omega)), a9, if_neg t50]
    · rw [hEk i 0 (by decide) (by decide) (by decide) (by decide)]; exact a10
    · rw [hEk i 1 (by decide) (by decide) (by decide) (by decide)]; exact b1
    · rw [hEk i 2 (by decide) (by decide) (by decide) (by decide)]; exact b2
    · rw [hEk i 8 (by decide) (by decide) (by decide) (by decide)]; exact b3
    · rw [k6]; exact inR_if hx12 (b4 t50).1 _
    · rw [k7]; exact inR_if hx12 (b4 t50).2 _
    · rw [k7, m31]
      have e0 : hm' + 1 - 1 = hm' - 1 + 1 := by omega
      unfold r_hi
      rw [e0, itr_last, show 1 + (hm' - 1) = hm' by omega, Hk 0 (by omega), itr_congr (r_hiF (r_hd (tI (tA (tA (tI M 0 0) 14 (4 * i + hm') (zI x)) 15 i (nI (hm' + 1))) 18 0) i)) (r_hiF (r_hd (tI (tI M 0 0) 18 0) i)) hm' (fun j hj a => by unfold r_hiF; rw [Hk j hj]) _ _ _ (by omega)]
      show _ = (if _ ≤ _ then _ else _)
      rw [Hm]
      by_cases q : itr (r_hiF (r_hd (tI (tI M 0 0) 18 0) i)) (hm' - 1) 1 (r_hd (tI (tI M 0 0) 18 0) i 0) < zI x
      · rw [if_pos q, if_neg (by rw [Int32.not_le]; exact q)]
      · rw [if_neg q, if_pos (by rw [Int32.not_lt] at q; exact q)]
    · rw [k6, m32]
      have e0 : hm' + 1 - 1 = hm' - 1 + 1 := by omega
      unfold r_lo
      rw [e0, itr_last, show 1 + (hm' - 1) = hm' by omega, Hk 0 (by omega), itr_congr (r_loF (r_hd (tI (tA (tA (tI M 0 0) 14 (4 * i + hm') (zI x)) 15 i (nI (hm' + 1))) 18 0) i)) (r_loF (r_hd (tI (tI M 0 0) 18 0) i)) hm' (fun j hj a => by unfold r_loF; rw [Hk j hj]) _ _ _ (by omega)]
      show _ = (if _ ≤ _ then _ else _)
      rw [Hm]
      by_cases q : zI x < itr (r_loF (r_hd (tI (tI M 0 0) 18 0) i)) (hm' - 1) 1 (r_hd (tI (tI M 0 0) 18 0) i 0)
      · rw [if_pos q, if_neg (by rw [Int32.not_le]; exact q)]
      · rw [if_neg q, if_pos (by rw [Int32.not_lt] at q; exact q)]
    · rw [k16, pl_bit x1 x2, pl_bit p1 p2, bit_or _ (by omega) (by omega)]
      have m4' := m4 p p1 p2
      rw [pl_bit p1 p2] at m4'
      rw [m4']
      constructor
      · rintro (⟨j, j1, j2⟩ | z)
        · exact ⟨j, by omega, by rw [Hk j j1]; exact j2⟩
        · refine ⟨hm', by omega, ?_⟩
          rw [Hm]
          congr 1
          omega
      · rintro ⟨j, j1, j2⟩
        by_cases ej : j = hm'
        · subst ej
          rw [Hm, zI_eq (by omega) (by omega) (by omega) (by omega)] at j2
          right
          rw [j2]
        · refine Or.inl ⟨j, by omega, ?_⟩
          rw [Hk j (by omega)] at j2
          exact j2
  · exact eOK_same (fun y _ => hEne i y e) (fun y h1 h2 h3 => by
      by_cases h15 : y = 15
      · rw [h15, hA15, if_neg e]
      · rw [hA y h3 h15]) (fun j hj => by rw [hH, if_neg (by omega)]) g
theorem j_also (h : RR C M ec bc gc) (y p : Int32) : jI w o q mX3_also mX4_also [.int y, .int p] C M := by
  have h0 := (RR_th h 0).1
  have hec : ec ≤ 64 := h.1.2.2.2.2.2.1.1
  have hbc : bc ≤ 32 := h.1.2.2.2.2.1
  by_cases hy : noN y ec
  · refine ⟨-1002, C, tI M 0 0, ec, bc, gc, fun f n => ctS_also1 h.1.2.1 hy p, fun f n => ?_, RR_th h 0⟩
    refine zm_C.of (mc := 0) (ms := 0) rfl rfl (by decide) (Nat.le_of_ble_eq_true rfl) ?_
    intro Γ X
    refine bkX4_also_0 X [some (.ref q), some (.int y), some (.int p), none, none] [] _ ?_
    simp only [zi_push, zi_ldi, zi_ldl, zi_lda, zi_sti, zi_stl, zi_sta, zi_inc, zi_b, zi_d, zi_u, zi_bl, zi_dl, zi_ul, zi_lcmp, zi_i2l, zi_l2i, zi_if, zi_ic, zi_nul, zi_dup, zi_pop, zi_dup_x1, zi_dup2, zi_gf, zi_pf, zi_ia, zi_is, zi_la, zi_lst, zi_aa, zi_as, zi_len, zi_new, zi_na, zi_mx, zi_mn, zi_sw, zi_swx, zi_cv, zi_cs, zi_ci, zi_obj, zi_iret, zi_lret, zi_zret, zi_aret, zi_vret, zm_s1, zm_s2, zm_k, zm_tk, zm_Rt, zm_is, List.getElem?_cons_zero, List.getElem?_cons_succ, List.set_cons_zero, List.set_cons_succ, List.length_cons, List.length_nil, List.map_cons, List.map_nil, List.sum_cons, List.sum_nil, List.nil_append, List.cons_append, Option.toList, Value.category, reduceIte, Nat.reduceAdd, Nat.reduceLeDiff, Nat.reduceLT, Nat.reduceEqDiff, Nat.reduceMul, and_true, true_and, and_self, Nat.zero_add, Nat.add_zero, Nat.le_refl, true_or, or_true, not_true_eq_false, not_false_eq_true, zm_ft_int, zm_ft_long, zm_ft_ref, zm_ft_null, zm_ft_b0, zm_ft_b1, i_2, i_3, i_4, i_10, io_16, io_64, io_33, io_2, cF_ev, cF_bm, va_rf, cH_0, cH_1, cH_2, cH_3, cH_4, cH_5, uT4, uT5, uT6, uT7, uB1, uB2, uB3, uG, uV, mH_0, mH_1, mH_2, mH_3, mH_4, mH_5, mH_6, mH_7, mH_8, mH_9, mH_10, mH_11, mH_12, mH_13, mH_14, mH_15, mH_16, mH_17, mH_18, mH_19, mH_20, mH_21, vI0, vI1, vI2, vI3, vI5, vI17, vI18, vI19, vA4, vA6, vA7, vA8, vA9, vA10, vA11, vA12, vA13, vA14, vA15, vA16, vA20, vA21, vA22, vA23, vA24, vA25, vA26, vA27, vD]
    refine zm_call.of (ctR_isEvent h0.2.2.2.2.2.1.2.1 y) (Nat.le_refl _) (Nat.le_refl _) ?_
    simp only [zi_push, zi_ldi, zi_ldl, zi_lda, zi_sti, zi_stl, zi_sta, zi_inc, zi_b, zi_d, zi_u, zi_bl, zi_dl, zi_ul, zi_lcmp, zi_i2l, zi_l2i, zi_if, zi_ic, zi_nul, zi_dup, zi_pop, zi_dup_x1, zi_dup2, zi_gf, zi_pf, zi_ia, zi_is, zi_la, zi_lst, zi_aa, zi_as, zi_len, zi_new, zi_na, zi_mx, zi_mn, zi_sw, zi_swx, zi_cv, zi_cs, zi_ci, zi_obj, zi_iret, zi_lret, zi_zret, zi_aret, zi_vret, zm_s1, zm_s2, zm_k, zm_tk, zm_Rt, zm_is, List.getElem?_cons_zero, List.getElem?_cons_succ, List.set_cons_zero, List.set_cons_succ, List.length_cons, List.length_nil, List.map_cons, List.map_nil, List.sum_cons, List.sum_nil, List.nil_append, List.cons_append, Option.toList, Value.category, reduceIte, Nat.reduceAdd, Nat.reduceLeDiff, Nat.reduceLT, Nat.reduceEqDiff, Nat.reduceMul, and_true, true_and, and_self, Nat.zero_add, Nat.add_zero, Nat.le_refl, true_or, or_true, not_true_eq_false, not_false_eq_true, zm_ft_int, zm_ft_long, zm_ft_ref, zm_ft_null, zm_ft_b0, zm_ft_b1, i_2, i_3, i_4, i_10, io_16, io_64, io_33, io_2, cF_ev, cF_bm, va_rf, cH_0, cH_1, cH_2, cH_3, cH_4, cH_5, uT4, uT5, uT6, uT7, uB1, uB2, uB3, uG, uV, mH_0, mH_1, mH_2, mH_3, mH_4, mH_5, mH_6, mH_7, mH_8, mH_9, mH_10, mH_11, mH_12, mH_13, mH_14, mH_15, mH_16, mH_17, mH_18, mH_19, mH_20, mH_21, vI0, vI1, vI2, vI3, vI5, vI17, vI18, vI19, vA4, vA6, vA7, vA8, vA9, vA10, vA11, vA12, vA13, vA14, vA15, vA16, vA20, vA21, vA22, vA23, vA24, vA25, vA26, vA27, vD]
    refine ⟨fun _ => trivial, fun p => absurd ((noN_in (by omega)).mpr hy) p⟩
  · obtain ⟨k, hk, rfl⟩ := noN_not (by omega) hy
    have ho := h0.2.2.2.2.2.1.2.2 k hk
    by_cases hr : c_ref C k (c_pl p) = 0
    · obtain ⟨c1, c2⟩ := c_ref_0 hr
      obtain ⟨x, x1, x2, rfl⟩ : inR p (-12) 12 := c_in_inR (a := -12) (b := 12) (by decide) (by decide) (by decide) (by decide) c1
      obtain ⟨-, -, hm, m1, m2, m3, m4⟩ := h.1.2.2.2.2.2.1.2.2 k hk
      have hm1 : 1 ≤ hm := by
        rcases Nat.eq_zero_or_pos hm with z | z
        · rw [z] at m2
          exact absurd m2 c2
        · exact z
      have e5 : cE C k 5 < 4 ↔ hm < 4 := by rw [m2]; exact nI_ltI (b := 4) (by omega) (by decide)
      by_cases hb : cE C k 16 >>> ((zI x + 12) &&& 31) &&& 1 = 1
      · have hex := (m4 x x1 x2).mp hb
        exact ⟨-1004, C, tI M 0 0, ec, bc, gc, fun f n => ctS_also3 hec h.1.2.1 hk _ hr hb, fun f n => ctR_also h.1 hk _ hr hm1 m1 m2 _ _ (fun _ => ⟨rfl, rfl⟩) (fun z => by obtain ⟨i, i1, i2⟩ := hex; exact absurd i2 (z i i1)) (fun z => by obtain ⟨i, i1, i2⟩ := hex; exact absurd i2 (z i i1)), RR_th h 0⟩
      · have hno : ∀ i, i < hm → ¬ r_hd M k i = zI x := fun i hi z => hb ((m4 x x1 x2).mpr ⟨i, hi, z⟩)
        by_cases h4 : hm < 4
        · refine ⟨nI (hm + 1), _, _, ec, 0, gc, fun f n => ?_, fun f n => ctR_also h.1 hk _ hr hm1 m1 m2 _ _ (fun ⟨i, i1, i2⟩ => absurd i2 (hno i i1)) (fun _ z => by omega) (fun _ _ => ⟨rfl, rfl⟩), also_rel h hk x1 x2 hm1 h4 m2⟩
          have ct := ctS_also5 (w := w) (f := f) (o := o) (n := n) hec hbc h.1.2.1 h.1.2.2.1 h.1.1 hk (zI x) hr hb (e5.mpr h4)
          have k5 : cE (e_head (c_take C bc) k (zI x)) k 5 = nI (hm + 1) := by
            unfold e_head
            rw [cE_sE, up2_eq, if_pos rfl, c_take_E C bc k (by decide), m2, nI_1]
          rw [k5] at ct
          exact ct
        · exact ⟨-1005, C, tI M 0 0, ec, bc, gc, fun f n => ctS_also4 hec h.1.2.1 hk _ hr hb (fun z => h4 (e5.mp z)), fun f n => ctR_also h.1 hk _ hr hm1 m1 m2 _ _ (fun ⟨i, i1, i2⟩ => absurd i2 (hno i i1)) (fun _ _ => ⟨rfl, rfl⟩) (fun _ z => absurd z h4), RR_th h 0⟩
    · refine ⟨c_ref C k (c_pl p), C, tI M 0 0, ec, bc, gc, fun f n => ctS_also2 hec h.1.2.1 hk p hr, fun f n => ?_, RR_th h 0⟩
      -- outside, or a rest
      by_cases hpl : c_pl p = 0
      · rw [c_ref, if_pos hpl]
        refine zm_C.of (mc := 0) (ms := 0) rfl rfl (by decide) (Nat.le_of_ble_eq_true rfl) ?_
        intro Γ X
        refine bkX4_also_0 X [some (.ref q), some (.int (nI k)), some (.int p), none, none] [] _ ?_
        simp only [zi_push, zi_ldi, zi_ldl, zi_lda, zi_sti, zi_stl, zi_sta, zi_inc, zi_b, zi_d, zi_u, zi_bl, zi_dl, zi_ul, zi_lcmp, zi_i2l, zi_l2i, zi_if, zi_ic, zi_nul, zi_dup, zi_pop, zi_dup_x1, zi_dup2, zi_gf, zi_pf, zi_ia, zi_is, zi_la, zi_lst, zi_aa, zi_as, zi_len, zi_new, zi_na, zi_mx, zi_mn, zi_sw, zi_swx, zi_cv, zi_cs, zi_ci, zi_obj, zi_iret, zi_lret, zi_zret, zi_aret, zi_vret, zm_s1, zm_s2, zm_k, zm_tk, zm_Rt, zm_is, List.getElem?_cons_zero, List.getElem?_cons_succ, List.set_cons_zero, List.set_cons_succ, List.length_cons, List.length_nil, List.map_cons, List.map_nil, List.sum_cons, List.sum_nil, List.nil_append, List.cons_append, Option.toList, Value.category, reduceIte, Nat.reduceAdd, Nat.reduceLeDiff, Nat.reduceLT, Nat.reduceEqDiff, Nat.reduceMul, and_true, true_and, and_self, Nat.zero_add, Nat.add_zero, Nat.le_refl, true_or, or_true, not_true_eq_false, not_false_eq_true, zm_ft_int, zm_ft_long, zm_ft_ref, zm_ft_null, zm_ft_b0, zm_ft_b1, i_2, i_3, i_4, i_10, io_16, io_64, io_33, io_2, cF_ev, cF_bm, va_rf, cH_0, cH_1, cH_2, cH_3, cH_4, cH_5, uT4, uT5, uT6, uT7, uB1, uB2, uB3, uG, uV, mH_0, mH_1, mH_2, mH_3, mH_4, mH_5, mH_6, mH_7, mH_8, mH_9, mH_10, mH_11, mH_12, mH_13, mH_14, mH_15, mH_16, mH_17, mH_18, mH_19, mH_20, mH_21, vI0, vI1, vI2, vI3, vI5, vI17, vI18, vI19, vA4, vA6, vA7, vA8, vA9, vA10, vA11, vA12, vA13, vA14, vA15, vA16, vA20, vA21, vA22, vA23, vA24, vA25, vA26, vA27, vD]
        refine zm_call.of (ctR_isEvent h0.2.2.2.2.2.1.2.1 (nI k)) (Nat.le_refl _) (Nat.le_refl _) ?_
        simp only [zi_push, zi_ldi, zi_ldl, zi_lda, zi_sti, zi_stl, zi_sta, zi_inc, zi_b, zi_d, zi_u, zi_bl, zi_dl, zi_ul, zi_lcmp, zi_i2l, zi_l2i, zi_if, zi_ic, zi_nul, zi_dup, zi_pop, zi_dup_x1, zi_dup2, zi_gf, zi_pf, zi_ia, zi_is, zi_la, zi_lst, zi_aa, zi_as, zi_len, zi_new, zi_na, zi_mx, zi_mn, zi_sw, zi_swx, zi_cv, zi_cs, zi_ci, zi_obj, zi_iret, zi_lret, zi_zret, zi_aret, zi_vret, zm_s1, zm_s2, zm_k, zm_tk, zm_Rt, zm_is, List.getElem?_cons_zero, List.getElem?_cons_succ, List.set_cons_zero, List.set_cons_succ, List.length_cons, List.length_nil, List.map_cons, List.map_nil, List.sum_cons, List.sum_nil, List.nil_append, List.cons_append, Option.toList, Value.category, reduceIte, Nat.reduceAdd, Nat.reduceLeDiff, Nat.reduceLT, Nat.reduceEqDiff, Nat.reduceMul, and_true, true_and, and_self, Nat.zero_add, Nat.add_zero, Nat.le_refl, true_or, or_true, not_true_eq_false, not_false_eq_true, zm_ft_int, zm_ft_long, zm_ft_ref, zm_ft_null, zm_ft_b0, zm_ft_b1, i_2, i_3, i_4, i_10, io_16, io_64, io_33, io_2, cF_ev, cF_bm, va_rf, cH_0, cH_1, cH_2, cH_3, cH_4, cH_5, uT4, uT5, uT6, uT7, uB1, uB2, uB3, uG, uV, mH_0, mH_1, mH_2, mH_3, mH_4, mH_5, mH_6, mH_7, mH_8, mH_9, mH_10, mH_11, mH_12, mH_13, mH_14, mH_15, mH_16, mH_17, mH_18, mH_19, mH_20, mH_21, vI0, vI1, vI2, vI3, vI5, vI17, vI18, vI19, vA4, vA6, vA7, vA8, vA9, vA10, vA11, vA12, vA13, vA14, vA15, vA16, vA20, vA21, vA22, vA23, vA24, vA25, vA26, vA27, vD]
        refine ⟨fun p => absurd ((noN_in (by omega)).mp p) (noN_nI (by omega) hk), fun _ => ?_⟩
        refine zm_call.of (ctR_in32 p (a := -12) (b := 12) (by decide) (by decide)) (Nat.le_refl _) (Nat.le_refl _) ?_
        simp only [zi_push, zi_ldi, zi_ldl, zi_lda, zi_sti, zi_stl, zi_sta, zi_inc, zi_b, zi_d, zi_u, zi_bl, zi_dl, zi_ul, zi_lcmp, zi_i2l, zi_l2i, zi_if, zi_ic, zi_nul, zi_dup, zi_pop, zi_dup_x1, zi_dup2, zi_gf, zi_pf, zi_ia, zi_is, zi_la, zi_lst, zi_aa, zi_as, zi_len, zi_new, zi_na, zi_mx, zi_mn, zi_sw, zi_swx, zi_cv, zi_cs, zi_ci, zi_obj, zi_iret, zi_lret, zi_zret, zi_aret, zi_vret, zm_s1, zm_s2, zm_k, zm_tk, zm_Rt, zm_is, List.getElem?_cons_zero, List.getElem?_cons_succ, List.set_cons_zero, List.set_cons_succ, List.length_cons, List.length_nil, List.map_cons, List.map_nil, List.sum_cons, List.sum_nil, List.nil_append, List.cons_append, Option.toList, Value.category, reduceIte, Nat.reduceAdd, Nat.reduceLeDiff, Nat.reduceLT, Nat.reduceEqDiff, Nat.reduceMul, and_true, true_and, and_self, Nat.zero_add, Nat.add_zero, Nat.le_refl, true_or, or_true, not_true_eq_false, not_false_eq_true, zm_ft_int, zm_ft_long, zm_ft_ref, zm_ft_null, zm_ft_b0, zm_ft_b1, i_2, i_3, i_4, i_10, io_16, io_64, io_33, io_2, cF_ev, cF_bm, va_rf, cH_0, cH_1, cH_2, cH_3, cH_4, cH_5, uT4, uT5, uT6, uT7, uB1, uB2, uB3, uG, uV, mH_0, mH_1, mH_2, mH_3, mH_4, mH_5, mH_6, mH_7, mH_8, mH_9, mH_10, mH_11, mH_12, mH_13, mH_14, mH_15, mH_16, mH_17, mH_18, mH_19, mH_20, mH_21, vI0, vI1, vI2, vI3, vI5, vI17, vI18, vI19, vA4, vA6, vA7, vA8, vA9, vA10, vA11, vA12, vA13, vA14, vA15, vA16, vA20, vA21, vA22, vA23, vA24, vA25, vA26, vA27, vD]
        exact ⟨fun _ => trivial, fun z => absurd hpl z⟩
      · have h5 : cE C k 5 = 0 := by
          by_cases h5 : cE C k 5 = 0
          · exact h5
          · exact absurd (by rw [c_ref, if_neg hpl, if_neg h5]) hr
        rw [c_ref, if_neg hpl, if_pos h5]
        have h15 : mA (tI M 0 0) 15 k = nI 0 := by rw [ho.1.2.2.2.2.2.2.2.1]; exact h5
        have hck : (nI k).toNatClampNeg = k := nI_clamp (by omega)
        refine zm_C.of (mc := 0) (ms := 0) rfl rfl (by decide) (Nat.le_of_ble_eq_true rfl) ?_
        intro Γ X
        refine bkX4_also_0 X [some (.ref q), some (.int (nI k)), some (.int p), none, none] [] _ ?_
        simp only [zi_push, zi_ldi, zi_ldl, zi_lda, zi_sti, zi_stl, zi_sta, zi_inc, zi_b, zi_d, zi_u, zi_bl, zi_dl, zi_ul, zi_lcmp, zi_i2l, zi_l2i, zi_if, zi_ic, zi_nul, zi_dup, zi_pop, zi_dup_x1, zi_dup2, zi_gf, zi_pf, zi_ia, zi_is, zi_la, zi_lst, zi_aa, zi_as, zi_len, zi_new, zi_na, zi_mx, zi_mn, zi_sw, zi_swx, zi_cv, zi_cs, zi_ci, zi_obj, zi_iret, zi_lret, zi_zret, zi_aret, zi_vret, zm_s1, zm_s2, zm_k, zm_tk, zm_Rt, zm_is, List.getElem?_cons_zero, List.getElem?_cons_succ, List.set_cons_zero, List.set_cons_succ, List.length_cons, List.length_nil, List.map_cons, List.map_nil, List.sum_cons, List.sum_nil, List.nil_append, List.cons_append, Option.toList, Value.category, reduceIte, Nat.reduceAdd, Nat.reduceLeDiff, Nat.reduceLT, Nat.reduceEqDiff, Nat.reduceMul, and_true, true_and, and_self, Nat.zero_add, Nat.add_zero, Nat.le_refl, true_or, or_true, not_true_eq_false, not_false_eq_true, zm_ft_int, zm_ft_long, zm_ft_ref, zm_ft_null, zm_ft_b0, zm_ft_b1, i_2, i_3, i_4, i_10, io_16, io_64, io_33, io_2, cF_ev, cF_bm, va_rf, cH_0, cH_1, cH_2, cH_3, cH_4, cH_5, uT4, uT5, uT6, uT7, uB1, uB2, uB3, uG, uV, mH_0, mH_1, mH_2, mH_3, mH_4, mH_5, mH_6, mH_7, mH_8, mH_9, mH_10, mH_11, mH_12, mH_13, mH_14, mH_15, mH_16, mH_17, mH_18, mH_19, mH_20, mH_21, vI0, vI1, vI2, vI3, vI5, vI17, vI18, vI19, vA4, vA6, vA7, vA8, vA9, vA10, vA11, vA12, vA13, vA14, vA15, vA16, vA20, vA21, vA22, vA23, vA24, vA25, vA26, vA27, vD]
        refine zm_call.of (ctR_isEvent h0.2.2.2.2.2.1.2.1 (nI k)) (Nat.le_refl _) (Nat.le_refl _) ?_
        simp only [zi_push, zi_ldi, zi_ldl, zi_lda, zi_sti, zi_stl, zi_sta, zi_inc, zi_b, zi_d, zi_u, zi_bl, zi_dl, zi_ul, zi_lcmp, zi_i2l, zi_l2i, zi_if, zi_ic, zi_nul, zi_dup, zi_pop, zi_dup_x1, zi_dup2, zi_gf, zi_pf, zi_ia, zi_is, zi_la, zi_lst, zi_aa, zi_as, zi_len, zi_new, zi_na, zi_mx, zi_mn, zi_sw, zi_swx, zi_cv, zi_cs, zi_ci, zi_obj, zi_iret, zi_lret, zi_zret, zi_aret, zi_vret, zm_s1, zm_s2, zm_k, zm_tk, zm_Rt, zm_is, List.getElem?_cons_zero, List.getElem?_cons_succ, List.set_cons_zero, List.set_cons_succ, List.length_cons, List.length_nil, List.map_cons, List.map_nil, List.sum_cons, List.sum_nil, List.nil_append, List.cons_append, Option.toList, Value.category, reduceIte, Nat.reduceAdd, Nat.reduceLeDiff, Nat.reduceLT, Nat.reduceEqDiff, Nat.reduceMul, and_true, true_and, and_self, Nat.zero_add, Nat.add_zero, Nat.le_refl, true_or, or_true, not_true_eq_false, not_false_eq_true, zm_ft_int, zm_ft_long, zm_ft_ref, zm_ft_null, zm_ft_b0, zm_ft_b1, i_2, i_3, i_4, i_10, io_16, io_64, io_33, io_2, cF_ev, cF_bm, va_rf, cH_0, cH_1, cH_2, cH_3, cH_4, cH_5, uT4, uT5, uT6, uT7, uB1, uB2, uB3, uG, uV, mH_0, mH_1, mH_2, mH_3, mH_4, mH_5, mH_6, mH_7, mH_8, mH_9, mH_10, mH_11, mH_12, mH_13, mH_14, mH_15, mH_16, mH_17, mH_18, mH_19, mH_20, mH_21, vI0, vI1, vI2, vI3, vI5, vI17, vI18, vI19, vA4, vA6, vA7, vA8, vA9, vA10, vA11, vA12, vA13, vA14, vA15, vA16, vA20, vA21, vA22, vA23, vA24, vA25, vA26, vA27, vD]
        refine ⟨fun p => absurd ((noN_in (by omega)).mp p) (noN_nI (by omega) hk), fun _ => ?_⟩
        refine zm_call.of (ctR_in32 p (a := -12) (b := 12) (by decide) (by decide)) (Nat.le_refl _) (Nat.le_refl _) ?_
        simp only [zi_push, zi_ldi, zi_ldl, zi_lda, zi_sti, zi_stl, zi_sta, zi_inc, zi_b, zi_d, zi_u, zi_bl, zi_dl, zi_ul, zi_lcmp, zi_i2l, zi_l2i, zi_if, zi_ic, zi_nul, zi_dup, zi_pop, zi_dup_x1, zi_dup2, zi_gf, zi_pf, zi_ia, zi_is, zi_la, zi_lst, zi_aa, zi_as, zi_len, zi_new, zi_na, zi_mx, zi_mn, zi_sw, zi_swx, zi_cv, zi_cs, zi_ci, zi_obj, zi_iret, zi_lret, zi_zret, zi_aret, zi_vret, zm_s1, zm_s2, zm_k, zm_tk, zm_Rt, zm_is, List.getElem?_cons_zero, List.getElem?_cons_succ, List.set_cons_zero, List.set_cons_succ, List.length_cons, List.length_nil, List.map_cons, List.map_nil, List.sum_cons, List.sum_nil, List.nil_append, List.cons_append, Option.toList, Value.category, reduceIte, Nat.reduceAdd, Nat.reduceLeDiff, Nat.reduceLT, Nat.reduceEqDiff, Nat.reduceMul, and_true, true_and, and_self, Nat.zero_add, Nat.add_zero, Nat.le_refl, true_or, or_true, not_true_eq_false, not_false_eq_true, zm_ft_int, zm_ft_long, zm_ft_ref, zm_ft_null, zm_ft_b0, zm_ft_b1, i_2, i_3, i_4, i_10, io_16, io_64, io_33, io_2, cF_ev, cF_bm, va_rf, cH_0, cH_1, cH_2, cH_3, cH_4, cH_5, uT4, uT5, uT6, uT7, uB1, uB2, uB3, uG, uV, mH_0, mH_1, mH_2, mH_3, mH_4, mH_5, mH_6, mH_7, mH_8, mH_9, mH_10, mH_11, mH_12, mH_13, mH_14, mH_15, mH_16, mH_17, mH_18, mH_19, mH_20, mH_21, vI0, vI1, vI2, vI3, vI5, vI17, vI18, vI19, vA4, vA6, vA7, vA8, vA9, vA10, vA11, vA12, vA13, vA14, vA15, vA16, vA20, vA21, vA22, vA23, vA24, vA25, vA26, vA27, vD, hck, rest_iff ho]
        refine ⟨fun z => absurd z hpl, fun _ => ⟨vp_in_nI (by omega) (by decide), fun _ => ?_, fun z => absurd h5 z⟩⟩
        refine bkX4_also_54 X _ _ _ ?_
        simp only [zi_push, zi_ldi, zi_ldl, zi_lda, zi_sti, zi_stl, zi_sta, zi_inc, zi_b, zi_d, zi_u, zi_bl, zi_dl, zi_ul, zi_lcmp, zi_i2l, zi_l2i, zi_if, zi_ic, zi_nul, zi_dup, zi_pop, zi_dup_x1, zi_dup2, zi_gf, zi_pf, zi_ia, zi_is, zi_la, zi_lst, zi_aa, zi_as, zi_len, zi_new, zi_na, zi_mx, zi_mn, zi_sw, zi_swx, zi_cv, zi_cs, zi_ci, zi_obj, zi_iret, zi_lret, zi_zret, zi_aret, zi_vret, zm_s1, zm_s2, zm_k, zm_tk, zm_Rt, zm_is, List.getElem?_cons_zero, List.getElem?_cons_succ, List.set_cons_zero, List.set_cons_succ, List.length_cons, List.length_nil, List.map_cons, List.map_nil, List.sum_cons, List.sum_nil, List.nil_append, List.cons_append, Option.toList, Value.category, reduceIte, Nat.reduceAdd, Nat.reduceLeDiff, Nat.reduceLT, Nat.reduceEqDiff, Nat.reduceMul, and_true, true_and, and_self, Nat.zero_add, Nat.add_zero, Nat.le_refl, true_or, or_true, not_true_eq_false, not_false_eq_true, zm_ft_int, zm_ft_long, zm_ft_ref, zm_ft_null, zm_ft_b0, zm_ft_b1, i_2, i_3, i_4, i_10, io_16, io_64, io_33, io_2, cF_ev, cF_bm, va_rf, cH_0, cH_1, cH_2, cH_3, cH_4, cH_5, uT4, uT5, uT6, uT7, uB1, uB2, uB3, uG, uV, mH_0, mH_1, mH_2, mH_3, mH_4, mH_5, mH_6, mH_7, mH_8, mH_9, mH_10, mH_11, mH_12, mH_13, mH_14, mH_15, mH_16, mH_17, mH_18, mH_19, mH_20, mH_21, vI0, vI1, vI2, vI3, vI5, vI17, vI18, vI19, vA4, vA6, vA7, vA8, vA9, vA10, vA11, vA12, vA13, vA14, vA15, vA16, vA20, vA21, vA22, vA23, vA24, vA25, vA26, vA27, vD, hck, h15]
        exact ⟨vp_in_nI (by omega) (by decide), fun _ => ⟨fun z => absurd z (by decide), fun _ => trivial⟩, fun z => absurd (by decide) z⟩
end
