/-! the bars: an object at b, its array at a, anywhere -/
def bF (a : Nat) (B : Nat → Int32) : List Value := [.ref a, .int (B 1), .int (B 2), .int (B 3)]
def bH (f : Nat → Option zO) (b a : Nat) (B G : Nat → Int32) : Nat → Option zO := zm_up (zm_up f a (.inl (0, 16, .inl G))) b (.inr (0, bF a B))
theorem bH_b (f : Nat → Option zO) (b a : Nat) (B G : Nat → Int32) : bH f b a B G b = some (.inr (0, [.ref a, .int (B 1), .int (B 2), .int (B 3)])) := zm_up_self _ _ _
theorem bH_a (f : Nat → Option zO) {b a : Nat} (h : a ≠ b) (B G : Nat → Int32) : bH f b a B G a = some (.inl (0, 16, .inl G)) := by
  unfold bH
  rw [zm_up_ne _ _ h, zm_up_self]
theorem zm_up_up (f : Nat → Option zO) (a : Nat) (x y : zO) : zm_up (zm_up f a x) a y = zm_up f a y := by
  funext c
  by_cases h : c = a <;> simp [zm_up, h]
theorem zm_up_comm (f : Nat → Option zO) {a b : Nat} (h : a ≠ b) (x y : zO) : zm_up (zm_up f a x) b y = zm_up (zm_up f b y) a x := by
  funext c
  by_cases h1 : c = a
  · subst h1
    simp [zm_up, h]
  · by_cases h2 : c = b
    · subst h2
      simp [zm_up, h1]
    · simp [zm_up, h1, h2]
theorem bU1 (f : Nat → Option zO) (b a : Nat) (B G : Nat → Int32) (x : Int32) : zm_up (bH f b a B G) b (.inr (0, [.ref a, .int x, .int (B 2), .int (B 3)])) = bH f b a (upd B 1 x) G := by
  unfold bH
  rw [zm_up_up]
  rfl
theorem bU2 (f : Nat → Option zO) (b a : Nat) (B G : Nat → Int32) (x : Int32) : zm_up (bH f b a B G) b (.inr (0, [.ref a, .int (B 1), .int x, .int (B 3)])) = bH f b a (upd B 2 x) G := by
  unfold bH
  rw [zm_up_up]
  rfl
theorem bU3 (f : Nat → Option zO) (b a : Nat) (B G : Nat → Int32) (x : Int32) : zm_up (bH f b a B G) b (.inr (0, [.ref a, .int (B 1), .int (B 2), .int x])) = bH f b a (upd B 3 x) G := by
  unfold bH
  rw [zm_up_up]
  rfl
theorem bUG (f : Nat → Option zO) {b a : Nat} (h : a ≠ b) (B G G' : Nat → Int32) : zm_up (bH f b a B G) a (.inl (0, 16, .inl G')) = bH f b a B G' := by
  unfold bH
  rw [zm_up_comm _ (Ne.symm h), zm_up_up]
def b_unit (d : Int32) : Int32 := if d = 2 then 128 else if d = 4 then 64 else if d = 8 then 32 else if d = 16 then 16 else 0
theorem ctB_unitOf {w : zW} {h : zH} (d : Int32) : zm_C w mX0_unitOf [.int d] h (some (.int (b_unit d))) h := by
  refine zm_C.of (mc := 0) (ms := 0) rfl rfl (by decide) (Nat.le_of_ble_eq_true rfl) ?_
  intro Γ X
  refine bkX0_unitOf_0 X [some (.int d)] [] _ ?_
  simp only [zi_push, zi_ldi, zi_ldl, zi_lda, zi_sti, zi_stl, zi_sta, zi_inc, zi_b, zi_d, zi_u, zi_bl, zi_dl, zi_ul, zi_lcmp, zi_i2l, zi_l2i, zi_if, zi_ic, zi_nul, zi_dup, zi_pop, zi_dup_x1, zi_dup2, zi_gf, zi_pf, zi_ia, zi_is, zi_la, zi_lst, zi_aa, zi_as, zi_len, zi_new, zi_na, zi_mx, zi_mn, zi_sw, zi_swx, zi_cv, zi_cs, zi_ci, zi_obj, zi_iret, zi_lret, zi_zret, zi_aret, zi_vret, zm_s1, zm_s2, zm_k, zm_tk, zm_Rt, zm_is, List.getElem?_cons_zero, List.getElem?_cons_succ, List.set_cons_zero, List.set_cons_succ, List.length_cons, List.length_nil, List.map_cons, List.map_nil, List.sum_cons, List.sum_nil, List.nil_append, List.cons_append, Option.toList, Value.category, reduceIte, Nat.reduceAdd, Nat.reduceLeDiff, Nat.reduceLT, Nat.reduceEqDiff, Nat.reduceMul, and_true, true_and, and_self, Nat.zero_add, Nat.add_zero, Nat.le_refl, true_or, or_true, not_true_eq_false, not_false_eq_true, zm_ft_int, zm_ft_long, zm_ft_ref, zm_ft_null, zm_ft_b0, zm_ft_b1, i_2, i_3, i_4, i_10, io_16, io_64, io_33, io_2, cF_ev, cF_bm, va_rf, cH_0, cH_1, cH_2, cH_3, cH_4, cH_5, uT4, uT5, uT6, uT7, uB1, uB2, uB3, uG, uV]
  refine ⟨fun a => by simp [b_unit, a], fun a => ⟨fun b => by simp [b_unit, b], fun b => ⟨fun c => by simp [b_unit, c], fun c => ⟨fun e => by simp [b_unit, e], fun e => by simp [b_unit, a, b, c, e]⟩⟩⟩⟩
theorem ctB_barAt {w : zW} {f : Nat → Option zO} {b a : Nat} {B G : Nat → Int32} {n : Nat × Nat} (t : Int32) : zm_C w mX0_barAt [.ref b, .int t] (bH f b a B G, n) (some (.int (if B 2 ≤ 0 then 0 else t / B 2))) (bH f b a B G, n) := by
  refine zm_C.of (mc := 0) (ms := 0) rfl rfl (by decide) (Nat.le_of_ble_eq_true rfl) ?_
  intro Γ X
  refine bkX0_barAt_0 X [some (.ref b), some (.int t)] [] _ ?_
  simp only [zi_push, zi_ldi, zi_ldl, zi_lda, zi_sti, zi_stl, zi_sta, zi_inc, zi_b, zi_d, zi_u, zi_bl, zi_dl, zi_ul, zi_lcmp, zi_i2l, zi_l2i, zi_if, zi_ic, zi_nul, zi_dup, zi_pop, zi_dup_x1, zi_dup2, zi_gf, zi_pf, zi_ia, zi_is, zi_la, zi_lst, zi_aa, zi_as, zi_len, zi_new, zi_na, zi_mx, zi_mn, zi_sw, zi_swx, zi_cv, zi_cs, zi_ci, zi_obj, zi_iret, zi_lret, zi_zret, zi_aret, zi_vret, zm_s1, zm_s2, zm_k, zm_tk, zm_Rt, zm_is, List.getElem?_cons_zero, List.getElem?_cons_succ, List.set_cons_zero, List.set_cons_succ, List.length_cons, List.length_nil, List.map_cons, List.map_nil, List.sum_cons, List.sum_nil, List.nil_append, List.cons_append, Option.toList, Value.category, reduceIte, Nat.reduceAdd, Nat.reduceLeDiff, Nat.reduceLT, Nat.reduceEqDiff, Nat.reduceMul, and_true, true_and, and_self, Nat.zero_add, Nat.add_zero, Nat.le_refl, true_or, or_true, not_true_eq_false, not_false_eq_true, zm_ft_int, zm_ft_long, zm_ft_ref, zm_ft_null, zm_ft_b0, zm_ft_b1, i_2, i_3, i_4, i_10, io_16, io_64, io_33, io_2, cF_ev, cF_bm, va_rf, cH_0, cH_1, cH_2, cH_3, cH_4, cH_5, uT4, uT5, uT6, uT7, uB1, uB2, uB3, uG, uV, bH_b]
  refine ⟨fun a => by simp [a], fun a => ⟨fun z => a (by rw [z]; decide), by simp [a]⟩⟩
theorem ctB_offsetAt {w : zW} {f : Nat → Option zO} {b a : Nat} {B G : Nat → Int32} {n : Nat × Nat} (t : Int32) : zm_C w mX0_offsetAt [.ref b, .int t] (bH f b a B G, n) (some (.int (if B 2 ≤ 0 then 0 else t - t / B 2 * B 2))) (bH f b a B G, n) := by
  refine zm_C.of (mc := 0) (ms := 0) rfl rfl (by decide) (Nat.le_of_ble_eq_true rfl) ?_
  intro Γ X
  refine bkX0_offsetAt_0 X [some (.ref b), some (.int t)] [] _ ?_
  simp only [zi_push, zi_ldi, zi_ldl, zi_lda, zi_sti, zi_stl, zi_sta, zi_inc, zi_b, zi_d, zi_u, zi_bl, zi_dl, zi_ul, zi_lcmp, zi_i2l, zi_l2i, zi_if, zi_ic, zi_nul, zi_dup, zi_pop, zi_dup_x1, zi_dup2, zi_gf, zi_pf, zi_ia, zi_is, zi_la, zi_lst, zi_aa, zi_as, zi_len, zi_new, zi_na, zi_mx, zi_mn, zi_sw, zi_swx, zi_cv, zi_cs, zi_ci, zi_obj, zi_iret, zi_lret, zi_zret, zi_aret, zi_vret, zm_s1, zm_s2, zm_k, zm_tk, zm_Rt, zm_is, List.getElem?_cons_zero, List.getElem?_cons_succ, List.set_cons_zero, List.set_cons_succ, List.length_cons, List.length_nil, List.map_cons, List.map_nil, List.sum_cons, List.sum_nil, List.nil_append, List.cons_append, Option.toList, Value.category, reduceIte, Nat.reduceAdd, Nat.reduceLeDiff, Nat.reduceLT, Nat.reduceEqDiff, Nat.reduceMul, and_true, true_and, and_self, Nat.zero_add, Nat.add_zero, Nat.le_refl, true_or, or_true, not_true_eq_false, not_false_eq_true, zm_ft_int, zm_ft_long, zm_ft_ref, zm_ft_null, zm_ft_b0, zm_ft_b1, i_2, i_3, i_4, i_10, io_16, io_64, io_33, io_2, cF_ev, cF_bm, va_rf, cH_0, cH_1, cH_2, cH_3, cH_4, cH_5, uT4, uT5, uT6, uT7, uB1, uB2, uB3, uG, uV, bH_b]
  refine ⟨fun a => by simp [a], fun a => ⟨fun z => a (by rw [z]; decide), by simp [a]⟩⟩
/-- the digits of D: none is 0, and they add up to l -/
def b_dg : Nat → Nat → Int32 → Int32
  | 0, _, _ => 0
  | k + 1, D, l => if D = 0 then zb (l = 0) else if D % 10 = 0 then 0 else b_dg k (D / 10) (l - nI (D % 10))
theorem ten : nI 10 = 10 := by decide
theorem i_div10 {D : Nat} (h : D < 2 ^ 31) : nI D / 10 = nI (D / 10) := by
  rw [← ten]
  exact pk_div h (by decide) (by decide)
theorem i_rem10 {D : Nat} (h : D < 2 ^ 31) : nI D - nI D / 10 * 10 = nI (D % 10) := by
  rw [← ten]
  exact pk_rem h (by decide) (by decide)
theorem i_rem10' {D : Nat} (h : D < 2 ^ 31) : nI D - nI (D / 10) * 10 = nI (D % 10) := by
  rw [← i_div10 h]
  exact i_rem10 h
theorem nI_eq0 {D : Nat} (h : D < 2 ^ 31) : nI D = 0 ↔ D = 0 := by
  rw [← nI_0]
  exact nI_eq h (by decide)
theorem nI_le0 {D : Nat} (h : D < 2 ^ 31) : nI D ≤ 0 ↔ D = 0 := by
  rw [← nI_0, nI_leI h (by decide)]
  omega
theorem ctB_digitsAddUp {w : zW} {h : zH} {D0 : Nat} (hD0 : D0 < 2 ^ 31) (u : Int32) : zm_C w mX0_digitsAddUp [.int (nI D0), .int u] h (some (.int (b_dg 11 D0 u))) h := by
  refine zm_C.of (mc := 0) (ms := 0) rfl rfl (by decide) (Nat.le_of_ble_eq_true rfl) ?_
  intro Γ X
  have key : ∀ (k D : Nat) (l : Int32), D < 10 ^ k → D < 2 ^ 31 → b_dg (k + 1) D l = b_dg 11 D0 u → zm_V w Γ 4 [some (.int (nI D0)), some (.int u), some (.int l), some (.int (nI D))] [] h := by
    intro k
    induction k with
    | zero =>
      intro D l h1 h2 e
      have hz : D = 0 := by omega
      subst hz
      refine bkX0_digitsAddUp_4 X _ _ _ ?_
      simp only [zi_push, zi_ldi, zi_ldl, zi_lda, zi_sti, zi_stl, zi_sta, zi_inc, zi_b, zi_d, zi_u, zi_bl, zi_dl, zi_ul, zi_lcmp, zi_i2l, zi_l2i, zi_if, zi_ic, zi_nul, zi_dup, zi_pop, zi_dup_x1, zi_dup2, zi_gf, zi_pf, zi_ia, zi_is, zi_la, zi_lst, zi_aa, zi_as, zi_len, zi_new, zi_na, zi_mx, zi_mn, zi_sw, zi_swx, zi_cv, zi_cs, zi_ci, zi_obj, zi_iret, zi_lret, zi_zret, zi_aret, zi_vret, zm_s1, zm_s2, zm_k, zm_tk, zm_Rt, zm_is, List.getElem?_cons_zero, List.getElem?_cons_succ, List.set_cons_zero, List.set_cons_succ, List.length_cons, List.length_nil, List.map_cons, List.map_nil, List.sum_cons, List.sum_nil, List.nil_append, List.cons_append, Option.toList, Value.category, reduceIte, Nat.reduceAdd, Nat.reduceLeDiff, Nat.reduceLT, Nat.reduceEqDiff, Nat.reduceMul, and_true, true_and, and_self, Nat.zero_add, Nat.add_zero, Nat.le_refl, true_or, or_true, not_true_eq_false, not_false_eq_true, zm_ft_int, zm_ft_long, zm_ft_ref, zm_ft_null, zm_ft_b0, zm_ft_b1, i_2, i_3, i_4, i_10, io_16, io_64, io_33, io_2, cF_ev, cF_bm, va_rf, cH_0, cH_1, cH_2, cH_3, cH_4, cH_5, uT4, uT5, uT6, uT7, uB1, uB2, uB3, uG, uV]
      rw [← e]
      refine ⟨fun _ => ⟨fun a => by simp [b_dg, zb, a], fun a => by simp [b_dg, zb, a]⟩, fun a => absurd (by decide) a⟩
    | succ k ih =>
      intro D l h1 h2 e
      refine bkX0_digitsAddUp_4 X _ _ _ ?_
      simp only [zi_push, zi_ldi, zi_ldl, zi_lda, zi_sti, zi_stl, zi_sta, zi_inc, zi_b, zi_d, zi_u, zi_bl, zi_dl, zi_ul, zi_lcmp, zi_i2l, zi_l2i, zi_if, zi_ic, zi_nul, zi_dup, zi_pop, zi_dup_x1, zi_dup2, zi_gf, zi_pf, zi_ia, zi_is, zi_la, zi_lst, zi_aa, zi_as, zi_len, zi_new, zi_na, zi_mx, zi_mn, zi_sw, zi_swx, zi_cv, zi_cs, zi_ci, zi_obj, zi_iret, zi_lret, zi_zret, zi_aret, zi_vret, zm_s1, zm_s2, zm_k, zm_tk, zm_Rt, zm_is, List.getElem?_cons_zero, List.getElem?_cons_succ, List.set_cons_zero, List.set_cons_succ, List.length_cons, List.length_nil, List.map_cons, List.map_nil, List.sum_cons, List.sum_nil, List.nil_append, List.cons_append, Option.toList, Value.category, reduceIte, Nat.reduceAdd, Nat.reduceLeDiff, Nat.reduceLT, Nat.reduceEqDiff, Nat.reduceMul, and_true, true_and, and_self, Nat.zero_add, Nat.add_zero, Nat.le_refl, true_or, or_true, not_true_eq_false, not_false_eq_true, zm_ft_int, zm_ft_long, zm_ft_ref, zm_ft_null, zm_ft_b0, zm_ft_b1, i_2, i_3, i_4, i_10, io_16, io_64, io_33, io_2, cF_ev, cF_bm, va_rf, cH_0, cH_1, cH_2, cH_3, cH_4, cH_5, uT4, uT5, uT6, uT7, uB1, uB2, uB3, uG, uV, i_rem10' h2, i_div10 h2, nI_le0 h2]
      refine ⟨fun a => ?_, fun a => ⟨fun b => ?_, fun b => ?_⟩⟩
      · rw [← e]
        refine ⟨fun c => by simp [b_dg, zb, a, c], fun c => by simp [b_dg, zb, a, c]⟩
      · rw [nI_eq0 (by omega)] at b
        rw [← e, b_dg, if_neg a, if_pos b]
      · rw [nI_eq0 (by omega)] at b
        refine ih (D / 10) _ (by rw [Nat.pow_succ] at h1; omega) (by omega) ?_
        rw [← e]
        conv => rhs; rw [b_dg]
        rw [if_neg a, if_neg b]
  refine bkX0_digitsAddUp_0 X [some (.int (nI D0)), some (.int u), none, none] [] _ ?_
  simp only [zi_push, zi_ldi, zi_ldl, zi_lda, zi_sti, zi_stl, zi_sta, zi_inc, zi_b, zi_d, zi_u, zi_bl, zi_dl, zi_ul, zi_lcmp, zi_i2l, zi_l2i, zi_if, zi_ic, zi_nul, zi_dup, zi_pop, zi_dup_x1, zi_dup2, zi_gf, zi_pf, zi_ia, zi_is, zi_la, zi_lst, zi_aa, zi_as, zi_len, zi_new, zi_na, zi_mx, zi_mn, zi_sw, zi_swx, zi_cv, zi_cs, zi_ci, zi_obj, zi_iret, zi_lret, zi_zret, zi_aret, zi_vret, zm_s1, zm_s2, zm_k, zm_tk, zm_Rt, zm_is, List.getElem?_cons_zero, List.getElem?_cons_succ, List.set_cons_zero, List.set_cons_succ, List.length_cons, List.length_nil, List.map_cons, List.map_nil, List.sum_cons, List.sum_nil, List.nil_append, List.cons_append, Option.toList, Value.category, reduceIte, Nat.reduceAdd, Nat.reduceLeDiff, Nat.reduceLT, Nat.reduceEqDiff, Nat.reduceMul, and_true, true_and, and_self, Nat.zero_add, Nat.add_zero, Nat.le_refl, true_or, or_true, not_true_eq_false, not_false_eq_true, zm_ft_int, zm_ft_long, zm_ft_ref, zm_ft_null, zm_ft_b0, zm_ft_b1, i_2, i_3, i_4, i_10, io_16, io_64, io_33, io_2, cF_ev, cF_bm, va_rf, cH_0, cH_1, cH_2, cH_3, cH_4, cH_5, uT4, uT5, uT6, uT7, uB1, uB2, uB3, uG, uV]
  exact key 10 D0 u (by omega) hD0 rfl
/-- a number that isn't positive has no digits -/
theorem ctB_digitsNeg {w : zW} {h : zH} {d : Int32} (hd : d ≤ 0) (u : Int32) : zm_C w mX0_digitsAddUp [.int d, .int u] h (some (.int (zb (u = 0)))) h := by
  refine zm_C.of (mc := 0) (ms := 0) rfl rfl (by decide) (Nat.le_of_ble_eq_true rfl) ?_
  intro Γ X
  refine bkX0_digitsAddUp_0 X [some (.int d), some (.int u), none, none] [] _ ?_
  simp only [zi_push, zi_ldi, zi_ldl, zi_lda, zi_sti, zi_stl, zi_sta, zi_inc, zi_b, zi_d, zi_u, zi_bl, zi_dl, zi_ul, zi_lcmp, zi_i2l, zi_l2i, zi_if, zi_ic, zi_nul, zi_dup, zi_pop, zi_dup_x1, zi_dup2, zi_gf, zi_pf, zi_ia, zi_is, zi_la, zi_lst, zi_aa, zi_as, zi_len, zi_new, zi_na, zi_mx, zi_mn, zi_sw, zi_swx, zi_cv, zi_cs, zi_ci, zi_obj, zi_iret, zi_lret, zi_zret, zi_aret, zi_vret, zm_s1, zm_s2, zm_k, zm_tk, zm_Rt, zm_is, List.getElem?_cons_zero, List.getElem?_cons_succ, List.set_cons_zero, List.set_cons_succ, List.length_cons, List.length_nil, List.map_cons, List.map_nil, List.sum_cons, List.sum_nil, List.nil_append, List.cons_append, Option.toList, Value.category, reduceIte, Nat.reduceAdd, Nat.reduceLeDiff, Nat.reduceLT, Nat.reduceEqDiff, Nat.reduceMul, and_true, true_and, and_self, Nat.zero_add, Nat.add_zero, Nat.le_refl, true_or, or_true, not_true_eq_false, not_false_eq_true, zm_ft_int, zm_ft_long, zm_ft_ref, zm_ft_null, zm_ft_b0, zm_ft_b1, i_2, i_3, i_4, i_10, io_16, io_64, io_33, io_2, cF_ev, cF_bm, va_rf, cH_0, cH_1, cH_2, cH_3, cH_4, cH_5, uT4, uT5, uT6, uT7, uB1, uB2, uB3, uG, uV]
  refine bkX0_digitsAddUp_4 X _ _ _ ?_
  simp only [zi_push, zi_ldi, zi_ldl, zi_lda, zi_sti, zi_stl, zi_sta, zi_inc, zi_b, zi_d, zi_u, zi_bl, zi_dl, zi_ul, zi_lcmp, zi_i2l, zi_l2i, zi_if, zi_ic, zi_nul, zi_dup, zi_pop, zi_dup_x1, zi_dup2, zi_gf, zi_pf, zi_ia, zi_is, zi_la, zi_lst, zi_aa, zi_as, zi_len, zi_new, zi_na, zi_mx, zi_mn, zi_sw, zi_swx, zi_cv, zi_cs, zi_ci, zi_obj, zi_iret, zi_lret, zi_zret, zi_aret, zi_vret, zm_s1, zm_s2, zm_k, zm_tk, zm_Rt, zm_is, List.getElem?_cons_zero, List.getElem?_cons_succ, List.set_cons_zero, List.set_cons_succ, List.length_cons, List.length_nil, List.map_cons, List.map_nil, List.sum_cons, List.sum_nil, List.nil_append, List.cons_append, Option.toList, Value.category, reduceIte, Nat.reduceAdd, Nat.reduceLeDiff, Nat.reduceLT, Nat.reduceEqDiff, Nat.reduceMul, and_true, true_and, and_self, Nat.zero_add, Nat.add_zero, Nat.le_refl, true_or, or_true, not_true_eq_false, not_false_eq_true, zm_ft_int, zm_ft_long, zm_ft_ref, zm_ft_null, zm_ft_b0, zm_ft_b1, i_2, i_3, i_4, i_10, io_16, io_64, io_33, io_2, cF_ev, cF_bm, va_rf, cH_0, cH_1, cH_2, cH_3, cH_4, cH_5, uT4, uT5, uT6, uT7, uB1, uB2, uB3, uG, uV]
  refine ⟨fun _ => ⟨fun a => by simp [zb, a], fun a => by simp [zb, a]⟩, fun a => absurd hd a⟩
/-- a group more behind the last one -/
def b_add (BG : (Nat → Int32) × (Nat → Int32)) (u : Int32) : (Nat → Int32) × (Nat → Int32) :=
  if 16 ≤ BG.1 1 then BG else (upd BG.1 1 (BG.1 1 + 1), upd BG.2 (BG.1 1).toNatClampNeg ((if BG.1 1 ≤ 0 then 0 else BG.2 (BG.1 1 - 1).toNatClampNeg) + u * BG.1 3))
theorem ctB_addGroup {w : zW} {f : Nat → Option zO} {b a : Nat} (hab : a ≠ b) {B G : Nat → Int32} {n : Nat × Nat} {c : Nat} (hc : c ≤ 16) (hB : B 1 = nI c) (u : Int32) : zm_C w mX0_addGroup [.ref b, .int u] (bH f b a B G, n) none (bH f b a (b_add (B, G) u).1 (b_add (B, G) u).2, n) := by
  refine zm_C.of (mc := 0) (ms := 0) rfl rfl (by decide) (Nat.le_of_ble_eq_true rfl) ?_
  intro Γ X
  have k34 : ∀ x : Int32, x = (if B 1 ≤ 0 then 0 else G (B 1 - 1).toNatClampNeg) → zm_V w Γ 34 [some (.ref b), some (.int u), none] [.int x] (bH f b a B G, n) := by
    intro x ex
    refine bkX0_addGroup_34 X _ _ _ ?_
    simp only [zi_push, zi_ldi, zi_ldl, zi_lda, zi_sti, zi_stl, zi_sta, zi_inc, zi_b, zi_d, zi_u, zi_bl, zi_dl, zi_ul, zi_lcmp, zi_i2l, zi_l2i, zi_if, zi_ic, zi_nul, zi_dup, zi_pop, zi_dup_x1, zi_dup2, zi_gf, zi_pf, zi_ia, zi_is, zi_la, zi_lst, zi_aa, zi_as, zi_len, zi_new, zi_na, zi_mx, zi_mn, zi_sw, zi_swx, zi_cv, zi_cs, zi_ci, zi_obj, zi_iret, zi_lret, zi_zret, zi_aret, zi_vret, zm_s1, zm_s2, zm_k, zm_tk, zm_Rt, zm_is, List.getElem?_cons_zero, List.getElem?_cons_succ, List.set_cons_zero, List.set_cons_succ, List.length_cons, List.length_nil, List.map_cons, List.map_nil, List.sum_cons, List.sum_nil, List.nil_append, List.cons_append, Option.toList, Value.category, reduceIte, Nat.reduceAdd, Nat.reduceLeDiff, Nat.reduceLT, Nat.reduceEqDiff, Nat.reduceMul, and_true, true_and, and_self, Nat.zero_add, Nat.add_zero, Nat.le_refl, true_or, or_true, not_true_eq_false, not_false_eq_true, zm_ft_int, zm_ft_long, zm_ft_ref, zm_ft_null, zm_ft_b0, zm_ft_b1, i_2, i_3, i_4, i_10, io_16, io_64, io_33, io_2, cF_ev, cF_bm, va_rf, cH_0, cH_1, cH_2, cH_3, cH_4, cH_5, uT4, uT5, uT6, uT7, uB1, uB2, uB3, uG, uV, bH_b, bH_a _ hab, bU1, bU2, bU3, bUG _ hab]
    refine ⟨fun q => ?_, fun q => ?_⟩
    · simp only [b_add]
      rw [if_pos q]
    · refine ⟨?_, ?_⟩
      · rw [hB] at q ⊢
        refine vp_in_nI ?_ (by decide)
        have : ¬ nI 16 ≤ nI c := q
        rw [nI_leI (by decide) (by omega)] at this
        omega
      · simp only [b_add]
        rw [if_neg q, ← ex]
  have k33 : B 1 ≤ 0 → zm_V w Γ 33 [some (.ref b), some (.int u), none] [] (bH f b a B G, n) := by
    intro q
    refine bkX0_addGroup_33 X _ _ _ ?_
    simp only [zi_push, zi_ldi, zi_ldl, zi_lda, zi_sti, zi_stl, zi_sta, zi_inc, zi_b, zi_d, zi_u, zi_bl, zi_dl, zi_ul, zi_lcmp, zi_i2l, zi_l2i, zi_if, zi_ic, zi_nul, zi_dup, zi_pop, zi_dup_x1, zi_dup2, zi_gf, zi_pf, zi_ia, zi_is, zi_la, zi_lst, zi_aa, zi_as, zi_len, zi_new, zi_na, zi_mx, zi_mn, zi_sw, zi_swx, zi_cv, zi_cs, zi_ci, zi_obj, zi_iret, zi_lret, zi_zret, zi_aret, zi_vret, zm_s1, zm_s2, zm_k, zm_tk, zm_Rt, zm_is, List.getElem?_cons_zero, List.getElem?_cons_succ, List.set_cons_zero, List.set_cons_succ, List.length_cons, List.length_nil, List.map_cons, List.map_nil, List.sum_cons, List.sum_nil, List.nil_append, List.cons_append, Option.toList, Value.category, reduceIte, Nat.reduceAdd, Nat.reduceLeDiff, Nat.reduceLT, Nat.reduceEqDiff, Nat.reduceMul, and_true, true_and, and_self, Nat.zero_add, Nat.add_zero, Nat.le_refl, true_or, or_true, not_true_eq_false, not_false_eq_true, zm_ft_int, zm_ft_long, zm_ft_ref, zm_ft_null, zm_ft_b0, zm_ft_b1, i_2, i_3, i_4, i_10, io_16, io_64, io_33, io_2, cF_ev, cF_bm, va_rf, cH_0, cH_1, cH_2, cH_3, cH_4, cH_5, uT4, uT5, uT6, uT7, uB1, uB2, uB3, uG, uV]
    exact k34 0 (by rw [if_pos q])
  refine bkX0_addGroup_0 X [some (.ref b), some (.int u), none] [] _ ?_
  simp only [zi_push, zi_ldi, zi_ldl, zi_lda, zi_sti, zi_stl, zi_sta, zi_inc, zi_b, zi_d, zi_u, zi_bl, zi_dl, zi_ul, zi_lcmp, zi_i2l, zi_l2i, zi_if, zi_ic, zi_nul, zi_dup, zi_pop, zi_dup_x1, zi_dup2, zi_gf, zi_pf, zi_ia, zi_is, zi_la, zi_lst, zi_aa, zi_as, zi_len, zi_new, zi_na, zi_mx, zi_mn, zi_sw, zi_swx, zi_cv, zi_cs, zi_ci, zi_obj, zi_iret, zi_lret, zi_zret, zi_aret, zi_vret, zm_s1, zm_s2, zm_k, zm_tk, zm_Rt, zm_is, List.getElem?_cons_zero, List.getElem?_cons_succ, List.set_cons_zero, List.set_cons_succ, List.length_cons, List.length_nil, List.map_cons, List.map_nil, List.sum_cons, List.sum_nil, List.nil_append, List.cons_append, Option.toList, Value.category, reduceIte, Nat.reduceAdd, Nat.reduceLeDiff, Nat.reduceLT, Nat.reduceEqDiff, Nat.reduceMul, and_true, true_and, and_self, Nat.zero_add, Nat.add_zero, Nat.le_refl, true_or, or_true, not_true_eq_false, not_false_eq_true, zm_ft_int, zm_ft_long, zm_ft_ref, zm_ft_null, zm_ft_b0, zm_ft_b1, i_2, i_3, i_4, i_10, io_16, io_64, io_33, io_2, cF_ev, cF_bm, va_rf, cH_0, cH_1, cH_2, cH_3, cH_4, cH_5, uT4, uT5, uT6, uT7, uB1, uB2, uB3, uG, uV, bH_b, bH_a _ hab]
  refine ⟨fun q => k33 q, fun q => ⟨fun q2 => ?_, fun q2 => ⟨?_, ?_⟩⟩⟩
  · exfalso
    rw [hB] at q2
    have : nI 16 < nI c := q2
    rw [nI_ltI (by decide) (by omega)] at this
    omega
  · rw [hB] at q ⊢
    rw [nI_le0 (by omega)] at q
    rw [show nI c - 1 = nI (c - 1) by rw [show c = (c - 1) + 1 by omega, nI_pred]; rfl]
    exact vp_in_nI (by omega) (by decide)
  · exact k34 _ (by rw [if_neg q])
