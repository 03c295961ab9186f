/-! the constructors -/
theorem zz_same (R : Nat → Option zO) (a : Nat) (x y : zO) : zm_up (zm_up R a x) a y = zm_up R a y := by
  funext b
  by_cases h : b = a
  · rw [h, zm_up_self, zm_up_self]
  · rw [zm_up_ne _ _ h, zm_up_ne _ _ h, zm_up_ne _ _ h]
theorem zz_comm (R : Nat → Option zO) {a c : Nat} (h : c ≠ a) (x y : zO) : zm_up (zm_up R a x) c y = zm_up (zm_up R c y) a x := by
  funext b
  by_cases h1 : b = a
  · subst h1
    rw [zm_up_ne _ _ (Ne.symm h), zm_up_self, zm_up_self]
  · by_cases h2 : b = c
    · subst h2
      rw [zm_up_self, zm_up_ne _ _ h1, zm_up_self]
    · rw [zm_up_ne _ _ h2, zm_up_ne _ _ h1, zm_up_ne _ _ h1, zm_up_ne _ _ h2]
theorem zz_1 (R : Nat → Option zO) (o : Nat) (x y : zO) : zm_up (zm_up R o x) (o + 1) y = zm_up (zm_up R (o + 1) y) o x := zz_comm R (by omega) x y
theorem zz_2 (R : Nat → Option zO) (o : Nat) (x y : zO) : zm_up (zm_up R o x) (o + 2) y = zm_up (zm_up R (o + 2) y) o x := zz_comm R (by omega) x y
theorem zz_3 (R : Nat → Option zO) (o : Nat) (x y : zO) : zm_up (zm_up R o x) (o + 3) y = zm_up (zm_up R (o + 3) y) o x := zz_comm R (by omega) x y
theorem zz_4 (R : Nat → Option zO) (o : Nat) (x y : zO) : zm_up (zm_up R o x) (o + 4) y = zm_up (zm_up R (o + 4) y) o x := zz_comm R (by omega) x y
theorem zz_5 (R : Nat → Option zO) (o : Nat) (x y : zO) : zm_up (zm_up R o x) (o + 5) y = zm_up (zm_up R (o + 5) y) o x := zz_comm R (by omega) x y
section
variable {w : zW} {g : Nat → Option zO}
theorem vaup_step (e i : Nat) : va_up (fun k => if k < i then some e else none) i (some e) = fun k => if k < i + 1 then some e else none := by
  funext k
  unfold va_up
  by_cases h : k = i
  · rw [if_pos h, if_pos (by omega)]
  · rw [if_neg h]
    dsimp only
    by_cases h2 : k < i
    · rw [if_pos h2, if_pos (by omega)]
    · rw [if_neg h2, if_neg (by omega)]
def bm_f0 : List Value := [.null, .int 0, .int 0, .int 0, .int 0, .int 0, .int 0, .int 0, .long 0]
def bm_f1 (a : Nat) : List Value := [.ref a, .int 0, .int 0, .int 0, .int 0, .int 0, .int 0, .int 0, .long 0]
def nt_c (e i : Nat) : zO := .inl (2, 16, .inr (.inr (.inr (.inr (fun k => if k < i then some e else none)))))
theorem ctM_init {b e s : Nat} {fs : List Value} (he : g e = some (.inr (2, fs))) (h1 : e ≠ b) (h2 : e ≠ b + 1) : zm_C w mX1_init [.ref b, .ref e] (zm_up g b (.inr (1, bm_f0)), b + 1, s) none (zm_up (zm_up g b (.inr (1, bm_f1 (b + 1)))) (b + 1) (nt_c e 16), b + 2, s + 16) := by
  refine zm_C.of (mc := 1) (ms := 16) rfl rfl (by decide) (Nat.le_of_ble_eq_true rfl) ?_
  intro Γ X
  have hb : ∀ (x y : zO), zm_up (zm_up g b x) (b + 1) y b = some x := fun x y => by rw [zm_up_ne _ _ (by omega), zm_up_self]
  have ha : ∀ (x y : zO), zm_up (zm_up g b x) (b + 1) y e = some (.inr (2, fs)) := fun x y => by rw [zm_up_ne _ _ h2, zm_up_ne _ _ h1]; exact he
  have hs : ∀ (x y z : zO), zm_up (zm_up (zm_up g b x) (b + 1) y) b z = zm_up (zm_up g b z) (b + 1) y := fun x y z => by
    rw [zz_comm _ (show b ≠ b + 1 by omega), zz_same]
  have key : ∀ (m i : Nat), i + m = 16 → zm_V w Γ 15 [some (.ref b), some (.ref e), some (.int (nI i))] [] (zm_up (zm_up g b (.inr (1, bm_f1 (b + 1)))) (b + 1) (nt_c e i), b + 2, s + 16) := by
    intro m
    induction m with
    | zero =>
      intro i hi
      have : i = 16 := by omega
      subst this
      refine bkX1_init_15 X _ _ _ ?_
      simp only [zi_push, zi_ldi, zi_ldl, zi_lda, zi_sti, zi_stl, zi_sta, zi_inc, zi_b, zi_d, zi_u, zi_bl, zi_dl, zi_ul, zi_lcmp, zi_i2l, zi_l2i, zi_if, zi_ic, zi_nul, zi_dup, zi_pop, zi_dup_x1, zi_dup2, zi_gf, zi_pf, zi_ia, zi_is, zi_la, zi_lst, zi_aa, zi_as, zi_len, zi_new, zi_na, zi_mx, zi_mn, zi_sw, zi_swx, zi_cv, zi_cs, zi_ci, zi_obj, zi_iret, zi_lret, zi_zret, zi_aret, zi_vret, zm_s1, zm_s2, zm_k, zm_tk, zm_Rt, zm_is, List.getElem?_cons_zero, List.getElem?_cons_succ, List.set_cons_zero, List.set_cons_succ, List.length_cons, List.length_nil, List.map_cons, List.map_nil, List.sum_cons, List.sum_nil, List.nil_append, List.cons_append, Option.toList, Value.category, reduceIte, Nat.reduceAdd, Nat.reduceLeDiff, Nat.reduceLT, Nat.reduceEqDiff, Nat.reduceMul, and_true, true_and, and_self, Nat.zero_add, Nat.add_zero, Nat.le_refl, true_or, or_true, not_true_eq_false, not_false_eq_true, zm_ft_int, zm_ft_long, zm_ft_ref, zm_ft_null, zm_ft_b0, zm_ft_b1, i_2, i_3, i_4, i_10, io_16, io_64, io_33, io_2, cF_ev, cF_bm, va_rf, cH_0, cH_1, cH_2, cH_3, cH_4, cH_5, uT4, uT5, uT6, uT7, uB1, uB2, uB3, uG, uV, hb, bm_f1, nt_c, zm_up_self]
      exact ⟨fun _ => trivial, fun z => absurd (by decide) z⟩
    | succ m ih =>
      intro i hi
      refine bkX1_init_15 X _ _ _ ?_
      simp only [zi_push, zi_ldi, zi_ldl, zi_lda, zi_sti, zi_stl, zi_sta, zi_inc, zi_b, zi_d, zi_u, zi_bl, zi_dl, zi_ul, zi_lcmp, zi_i2l, zi_l2i, zi_if, zi_ic, zi_nul, zi_dup, zi_pop, zi_dup_x1, zi_dup2, zi_gf, zi_pf, zi_ia, zi_is, zi_la, zi_lst, zi_aa, zi_as, zi_len, zi_new, zi_na, zi_mx, zi_mn, zi_sw, zi_swx, zi_cv, zi_cs, zi_ci, zi_obj, zi_iret, zi_lret, zi_zret, zi_aret, zi_vret, zm_s1, zm_s2, zm_k, zm_tk, zm_Rt, zm_is, List.getElem?_cons_zero, List.getElem?_cons_succ, List.set_cons_zero, List.set_cons_succ, List.length_cons, List.length_nil, List.map_cons, List.map_nil, List.sum_cons, List.sum_nil, List.nil_append, List.cons_append, Option.toList, Value.category, reduceIte, Nat.reduceAdd, Nat.reduceLeDiff, Nat.reduceLT, Nat.reduceEqDiff, Nat.reduceMul, and_true, true_and, and_self, Nat.zero_add, Nat.add_zero, Nat.le_refl, true_or, or_true, not_true_eq_false, not_false_eq_true, zm_ft_int, zm_ft_long, zm_ft_ref, zm_ft_null, zm_ft_b0, zm_ft_b1, i_2, i_3, i_4, i_10, io_16, io_64, io_33, io_2, cF_ev, cF_bm, va_rf, cH_0, cH_1, cH_2, cH_3, cH_4, cH_5, uT4, uT5, uT6, uT7, uB1, uB2, uB3, uG, uV, hb, bm_f1, nt_c, zm_up_self, ha, zz_same, nI_clamp (show i < 2 ^ 31 by omega), vaup_step, nI_1]
      refine ⟨fun z => absurd z (nI_ge (a := i) (b := 16) (by omega) (by decide)), fun _ => ⟨vp_in_nI (by omega) (by decide), ?_⟩⟩
      exact ih (i + 1) (by omega)
  refine bkX1_init_0 X [some (.ref b), some (.ref e), none] [] _ ?_
  have t16 : Int32.toNatClampNeg 16 = 16 := by decide
  simp only [zi_push, zi_ldi, zi_ldl, zi_lda, zi_sti, zi_stl, zi_sta, zi_inc, zi_b, zi_d, zi_u, zi_bl, zi_dl, zi_ul, zi_lcmp, zi_i2l, zi_l2i, zi_if, zi_ic, zi_nul, zi_dup, zi_pop, zi_dup_x1, zi_dup2, zi_gf, zi_pf, zi_ia, zi_is, zi_la, zi_lst, zi_aa, zi_as, zi_len, zi_new, zi_na, zi_mx, zi_mn, zi_sw, zi_swx, zi_cv, zi_cs, zi_ci, zi_obj, zi_iret, zi_lret, zi_zret, zi_aret, zi_vret, zm_s1, zm_s2, zm_k, zm_tk, zm_Rt, zm_is, List.getElem?_cons_zero, List.getElem?_cons_succ, List.set_cons_zero, List.set_cons_succ, List.length_cons, List.length_nil, List.map_cons, List.map_nil, List.sum_cons, List.sum_nil, List.nil_append, List.cons_append, Option.toList, Value.category, reduceIte, Nat.reduceAdd, Nat.reduceLeDiff, Nat.reduceLT, Nat.reduceEqDiff, Nat.reduceMul, and_true, true_and, and_self, Nat.zero_add, Nat.add_zero, Nat.le_refl, true_or, or_true, not_true_eq_false, not_false_eq_true, zm_ft_int, zm_ft_long, zm_ft_ref, zm_ft_null, zm_ft_b0, zm_ft_b1, i_2, i_3, i_4, i_10, io_16, io_64, io_33, io_2, cF_ev, cF_bm, va_rf, cH_0, cH_1, cH_2, cH_3, cH_4, cH_5, uT4, uT5, uT6, uT7, uB1, uB2, uB3, uG, uV, bm_f0, hb, hs, t16]
  refine ⟨by decide, ?_⟩
  exact key 16 0 (by omega)
theorem ctB_init {b s : Nat} : zm_C w mX0_init [.ref b] (zm_up g b (.inr (0, [.null, .int 0, .int 0, .int 0])), b + 1, s) none (bH g b (b + 1) (b_us 4 4 (b_base (fun _ => 0) 4 4, fun _ => 0)).1 (b_us 4 4 (b_base (fun _ => 0) 4 4, fun _ => 0)).2, b + 2, s + 16) := by
  refine zm_C.of (mc := 1) (ms := 16) rfl rfl (by decide) (Nat.le_of_ble_eq_true rfl) ?_
  intro Γ X
  have hb : ∀ (x y : zO), zm_up (zm_up g b x) (b + 1) y b = some x := fun x y => by rw [zm_up_ne _ _ (by omega), zm_up_self]
  have hs : ∀ (x y z : zO), zm_up (zm_up (zm_up g b x) (b + 1) y) b z = zm_up (zm_up g (b + 1) y) b z := fun x y z => by
    rw [zz_comm g (show b + 1 ≠ b by omega), zz_same]
  refine bkX0_init_0 X [some (.ref b)] [] _ ?_
  have t16 : Int32.toNatClampNeg 16 = 16 := by decide
  simp only [zi_push, zi_ldi, zi_ldl, zi_lda, zi_sti, zi_stl, zi_sta, zi_inc, zi_b, zi_d, zi_u, zi_bl, zi_dl, zi_ul, zi_lcmp, zi_i2l, zi_l2i, zi_if, zi_ic, zi_nul, zi_dup, zi_pop, zi_dup_x1, zi_dup2, zi_gf, zi_pf, zi_ia, zi_is, zi_la, zi_lst, zi_aa, zi_as, zi_len, zi_new, zi_na, zi_mx, zi_mn, zi_sw, zi_swx, zi_cv, zi_cs, zi_ci, zi_obj, zi_iret, zi_lret, zi_zret, zi_aret, zi_vret, zm_s1, zm_s2, zm_k, zm_tk, zm_Rt, zm_is, List.getElem?_cons_zero, List.getElem?_cons_succ, List.set_cons_zero, List.set_cons_succ, List.length_cons, List.length_nil, List.map_cons, List.map_nil, List.sum_cons, List.sum_nil, List.nil_append, List.cons_append, Option.toList, Value.category, reduceIte, Nat.reduceAdd, Nat.reduceLeDiff, Nat.reduceLT, Nat.reduceEqDiff, Nat.reduceMul, and_true, true_and, and_self, Nat.zero_add, Nat.add_zero, Nat.le_refl, true_or, or_true, not_true_eq_false, not_false_eq_true, zm_ft_int, zm_ft_long, zm_ft_ref, zm_ft_null, zm_ft_b0, zm_ft_b1, i_2, i_3, i_4, i_10, io_16, io_64, io_33, io_2, cF_ev, cF_bm, va_rf, cH_0, cH_1, cH_2, cH_3, cH_4, cH_5, uT4, uT5, uT6, uT7, uB1, uB2, uB3, uG, uV, hb, hs, zm_up_self, t16]
  refine ⟨by decide, ?_⟩
  refine zm_call.of (ctB_setUsual (f := g) (a := b + 1) (b := b) (n := (b + 2, s + 16)) (show b + 1 ≠ b by omega) (B := fun _ => 0) (G := fun _ => 0) (U := 4) (d := 4) (by decide) (by decide) (by decide)) (Nat.le_refl _) (Nat.le_refl _) ?_
  simp only [zi_push, zi_ldi, zi_ldl, zi_lda, zi_sti, zi_stl, zi_sta, zi_inc, zi_b, zi_d, zi_u, zi_bl, zi_dl, zi_ul, zi_lcmp, zi_i2l, zi_l2i, zi_if, zi_ic, zi_nul, zi_dup, zi_pop, zi_dup_x1, zi_dup2, zi_gf, zi_pf, zi_ia, zi_is, zi_la, zi_lst, zi_aa, zi_as, zi_len, zi_new, zi_na, zi_mx, zi_mn, zi_sw, zi_swx, zi_cv, zi_cs, zi_ci, zi_obj, zi_iret, zi_lret, zi_zret, zi_aret, zi_vret, zm_s1, zm_s2, zm_k, zm_tk, zm_Rt, zm_is, List.getElem?_cons_zero, List.getElem?_cons_succ, List.set_cons_zero, List.set_cons_succ, List.length_cons, List.length_nil, List.map_cons, List.map_nil, List.sum_cons, List.sum_nil, List.nil_append, List.cons_append, Option.toList, Value.category, reduceIte, Nat.reduceAdd, Nat.reduceLeDiff, Nat.reduceLT, Nat.reduceEqDiff, Nat.reduceMul, and_true, true_and, and_self, Nat.zero_add, Nat.add_zero, Nat.le_refl, true_or, or_true, not_true_eq_false, not_false_eq_true, zm_ft_int, zm_ft_long, zm_ft_ref, zm_ft_null, zm_ft_b0, zm_ft_b1, i_2, i_3, i_4, i_10, io_16, io_64, io_33, io_2, cF_ev, cF_bm, va_rf, cH_0, cH_1, cH_2, cH_3, cH_4, cH_5, uT4, uT5, uT6, uT7, uB1, uB2, uB3, uG, uV]
  rfl
/-- the class as it is made -/
def C00 : cS := (fun _ => 0, (b_us 4 4 (b_base (fun _ => 0) 4 4, fun _ => 0)).1, (b_us 4 4 (b_base (fun _ => 0) 4 4, fun _ => 0)).2, fun _ => 0, fun _ _ => 0, fun _ _ => 0, fun _ => 0, fun _ _ => 64)
def A3 (o i : Nat) : zO := .inl (2, 64, .inr (.inr (.inr (.inr (fun k => if k < i then some (o + 6 + k) else none)))))
def A4 (o j : Nat) : zO := .inl (3, 33, .inr (.inr (.inr (.inr (fun k => if k < j then some (o + 71 + 2 * k) else none)))))
/-- its first n cells, i events and j beams in their rows -/
def kH (f : Nat → Option zO) (o n i j : Nat) : Nat → Option zO := fun a => if o ≤ a ∧ a < o + n then some (if a = o + 3 then A3 o i else if a = o + 4 then A4 o j else c_cell o C00 (a - o)) else f a
theorem kH_new {f : Nat → Option zO} {o n i j : Nat} {x : zO} (hn : 5 ≤ n) (hx : c_cell o C00 n = x) : zm_up (kH f o n i j) (o + n) x = kH f o (n + 1) i j := by
  funext a
  by_cases ha : a = o + n
  · subst ha
    rw [zm_up_self]
    unfold kH
    rw [if_pos ⟨by omega, by omega⟩, if_neg (by omega), if_neg (by omega), show o + n - o = n by omega, hx]
  · rw [zm_up_ne _ _ ha]
    unfold kH
    by_cases hr : o ≤ a ∧ a < o + n
    · rw [if_pos hr, if_pos (show o ≤ a ∧ a < o + (n + 1) from ⟨by omega, by omega⟩)]
    · rw [if_neg hr, if_neg (show ¬ (o ≤ a ∧ a < o + (n + 1)) by omega)]
theorem kH_3 {f : Nat → Option zO} {o n i j : Nat} (i' : Nat) (hn : 3 < n) : zm_up (kH f o n i j) (o + 3) (A3 o i') = kH f o n i' j := by
  funext a
  by_cases ha : a = o + 3
  · subst ha
    rw [zm_up_self]
    unfold kH
    rw [if_pos ⟨by omega, by omega⟩, if_pos rfl]
  · rw [zm_up_ne _ _ ha]
    unfold kH
    rw [if_neg ha, if_neg ha]
theorem kH_4 {f : Nat → Option zO} {o n i j : Nat} (j' : Nat) (hn : 4 < n) : zm_up (kH f o n i j) (o + 4) (A4 o j') = kH f o n i j' := by
  funext a
  by_cases ha : a = o + 4
  · subst ha
    rw [zm_up_self]
    unfold kH
    rw [if_pos ⟨by omega, by omega⟩, if_neg (by omega), if_pos rfl]
  · rw [zm_up_ne _ _ ha]
    unfold kH
    rw [if_neg (c := a = o + 4) ha, if_neg (c := a = o + 4) ha]
theorem kH_end (f : Nat → Option zO) (o : Nat) : kH f o 137 64 33 = cH f o C00 := by
  funext a
  unfold kH cH
  by_cases hr : o ≤ a ∧ a < o + 137
  · rw [if_pos hr, if_pos hr]
    by_cases h3 : a = o + 3
    · subst h3
      rw [if_pos rfl, show o + 3 - o = 3 by omega]
      rfl
    · rw [if_neg h3]
      by_cases h4 : a = o + 4
      · subst h4
        rw [if_pos rfl, show o + 4 - o = 4 by omega]
        rfl
      · rw [if_neg h4]
  · rw [if_neg hr, if_neg hr]
theorem kH_o {f : Nat → Option zO} {o n i j : Nat} (hn : 0 < n) : kH f o n i j o = some (.inr (3, [.ref (o + 1), .ref (o + 3), .ref (o + 4), .ref (o + 5), .int 0, .int 0, .int 0, .int 0])) := by
  unfold kH
  rw [if_pos ⟨by omega, by omega⟩, if_neg (by omega), if_neg (by omega), show o - o = 0 by omega]
  rfl
theorem kH_r3 {f : Nat → Option zO} {o n i j : Nat} (hn : 3 < n) : kH f o n i j (o + 3) = some (A3 o i) := by
  unfold kH
  rw [if_pos ⟨by omega, by omega⟩, if_pos rfl]
theorem kH_r4 {f : Nat → Option zO} {o n i j : Nat} (hn : 4 < n) : kH f o n i j (o + 4) = some (A4 o j) := by
  unfold kH
  rw [if_pos ⟨by omega, by omega⟩, if_neg (by omega), if_pos rfl]
def ev_f0 : List Value := [.int 0, .int 0, .int 0, .int 0, .int 0, .int 0, .int 0, .int 0, .int 0, .int 0, .int 0, .int 0, .int 0, .int 0, .int 0, .int 0, .int 0, .int 0]
theorem kH_ev {f : Nat → Option zO} {o n i j e : Nat} (he : e ≤ 64) (hn : 6 + e < n) : kH f o n i j (o + (6 + e)) = some (.inr (2, ev_f0)) := by
  unfold kH
  rw [if_pos ⟨by omega, by omega⟩, if_neg (by omega), if_neg (by omega), show o + (6 + e) - o = 6 + e by omega, c_cell_ev he]
  rfl
theorem vaup_ev (o i : Nat) : va_up (fun k => if k < i then some (o + 6 + k) else none) i (some (o + (6 + i))) = fun k => if k < i + 1 then some (o + 6 + k) else none := by
  funext k
  unfold va_up
  by_cases h : k = i
  · rw [if_pos h, if_pos (by omega), h, Nat.add_assoc]
  · rw [if_neg h]
    dsimp only
    by_cases h2 : k < i
    · rw [if_pos h2, if_pos (by omega)]
    · rw [if_neg h2, if_neg (by omega)]
theorem vaup_bm (o j : Nat) : va_up (fun k => if k < j then some (o + 71 + 2 * k) else none) j (some (o + (71 + 2 * j))) = fun k => if k < j + 1 then some (o + 71 + 2 * k) else none := by
  funext k
  unfold va_up
  by_cases h : k = j
  · rw [if_pos h, if_pos (by omega), h, Nat.add_assoc]
  · rw [if_neg h]
    dsimp only
    by_cases h2 : k < j
    · rw [if_pos h2, if_pos (by omega)]
    · rw [if_neg h2, if_neg (by omega)]
theorem cell_ev0 {o e : Nat} (he : e ≤ 64) : c_cell o C00 (6 + e) = .inr (2, ev_f0) := by
  rw [c_cell_ev he]
  rfl
theorem cell_bm0 {o j : Nat} (hj : j < 33) : c_cell o C00 (71 + 2 * j) = .inr (1, bm_f1 (o + (71 + 2 * j) + 1)) := by
  rw [c_cell_bm hj, show o + 72 + 2 * j = o + (71 + 2 * j) + 1 by omega]
  rfl
theorem cell_nt0 {o j : Nat} (hj : j < 33) : c_cell o C00 (71 + 2 * j + 1) = nt_c (o + 70) 16 := by
  rw [show 71 + 2 * j + 1 = 72 + 2 * j by omega, c_cell_nt hj]
  rfl
theorem A3_0 (o : Nat) : A3 o 0 = .inl (2, 64, .inr (.inr (.inr (.inr (fun _ => none))))) := by
  unfold A3
  rw [show (fun k => if k < 0 then some (o + 6 + k) else none) = (fun _ : Nat => (none : Option Nat)) from funext (fun k => if_neg (Nat.not_lt_zero k))]
theorem A4_0 (o : Nat) : A4 o 0 = .inl (3, 33, .inr (.inr (.inr (.inr (fun _ => none))))) := by
  unfold A4
  rw [show (fun k => if k < 0 then some (o + 71 + 2 * k) else none) = (fun _ : Nat => (none : Option Nat)) from funext (fun k => if_neg (Nat.not_lt_zero k))]
theorem kH_6 (f : Nat → Option zO) (o : Nat) : zm_up (zm_up (zm_up (zm_up (zm_up (zm_up f (o + 5) (.inl (0, 2, .inl (fun _ => 0)))) (o + 4) (.inl (3, 33, .inr (.inr (.inr (.inr (fun _ => none))))))) (o + 3) (.inl (2, 64, .inr (.inr (.inr (.inr (fun _ => none))))))) (o + 2) (.inl (0, 16, .inl (b_us 4 4 (b_base (fun _ => 0) 4 4, fun _ => 0)).2))) (o + 1) (.inr (0, bF (o + 2) (b_us 4 4 (b_base (fun _ => 0) 4 4, fun _ => 0)).1))) o (.inr (3, [.ref (o + 1), .ref (o + 3), .ref (o + 4), .ref (o + 5), .int 0, .int 0, .int 0, .int 0])) = kH f o 6 0 0 := by
  rw [← A3_0 o, ← A4_0 o]
  funext a
  by_cases h0 : a = o
  · subst h0
    rw [zm_up_self, kH_o (by omega)]
  · by_cases h1 : a = o + 1
    · subst h1
      rw [zm_up_ne _ _ h0, zm_up_self]
      unfold kH
      rw [if_pos ⟨by omega, by omega⟩, if_neg (by omega), if_neg (by omega), show o + 1 - o = 1 by omega]
      rfl
    · by_cases h2 : a = o + 2
      · subst h2
        rw [zm_up_ne _ _ h0, zm_up_ne _ _ h1, zm_up_self]
        unfold kH
        rw [if_pos ⟨by omega, by omega⟩, if_neg (by omega), if_neg (by omega), show o + 2 - o = 2 by omega]
        rfl
      · by_cases h3 : a = o + 3
        · subst h3
          rw [zm_up_ne _ _ h0, zm_up_ne _ _ h1, zm_up_ne _ _ h2, zm_up_self, kH_r3 (by omega)]
        · by_cases h4 : a = o + 4
          · subst h4
            rw [zm_up_ne _ _ h0, zm_up_ne _ _ h1, zm_up_ne _ _ h2, zm_up_ne _ _ h3, zm_up_self, kH_r4 (by omega)]
          · by_cases h5 : a = o + 5
            · subst h5
              rw [zm_up_ne _ _ h0, zm_up_ne _ _ h1, zm_up_ne _ _ h2, zm_up_ne _ _ h3, zm_up_ne _ _ h4, zm_up_self]
              unfold kH
              rw [if_pos ⟨by omega, by omega⟩, if_neg (by omega), if_neg (by omega), show o + 5 - o = 5 by omega]
              rfl
            · rw [zm_up_ne _ _ h0, zm_up_ne _ _ h1, zm_up_ne _ _ h2, zm_up_ne _ _ h3, zm_up_ne _ _ h4, zm_up_ne _ _ h5]
              unfold kH
              rw [if_neg (show ¬ (o ≤ a ∧ a < o + 6) by omega)]
def cl_f0 : List Value := [.null, .null, .null, .null, .int 0, .int 0, .int 0, .int 0]
theorem ctS_init {o s : Nat} : zm_C w mX3_init [.ref o] (zm_up g o (.inr (3, cl_f0)), o + 1, s) none (cH g o C00, o + 137, s + 2114) := by
  refine zm_C.of (mc := 136) (ms := 2114) rfl rfl (by decide) (Nat.le_of_ble_eq_true rfl) ?_
  intro Γ X
  have key80 : ∀ (m j : Nat), j + m = 33 → zm_V w Γ 80 [some (.ref o), some (.ref (o + 70)), some (.int (nI j))] [] (kH g o (71 + 2 * j) 64 j, o + (71 + 2 * j), s + 1289 + 25 * j) := by
    intro m
    induction m with
    | zero =>
      intro j hj
      have : j = 33 := by omega
      subst this
      refine bkX3_init_80 X _ _ _ ?_
      simp only [zi_push, zi_ldi, zi_ldl, zi_lda, zi_sti, zi_stl, zi_sta, zi_inc, zi_b, zi_d, zi_u, zi_bl, zi_dl, zi_ul, zi_lcmp, zi_i2l, zi_l2i, zi_if, zi_ic, zi_nul, zi_dup, zi_pop, zi_dup_x1, zi_dup2, zi_gf, zi_pf, zi_ia, zi_is, zi_la, zi_lst, zi_aa, zi_as, zi_len, zi_new, zi_na, zi_mx, zi_mn, zi_sw, zi_swx, zi_cv, zi_cs, zi_ci, zi_obj, zi_iret, zi_lret, zi_zret, zi_aret, zi_vret, zm_s1, zm_s2, zm_k, zm_tk, zm_Rt, zm_is, List.getElem?_cons_zero, List.getElem?_cons_succ, List.set_cons_zero, List.set_cons_succ, List.length_cons, List.length_nil, List.map_cons, List.map_nil, List.sum_cons, List.sum_nil, List.nil_append, List.cons_append, Option.toList, Value.category, reduceIte, Nat.reduceAdd, Nat.reduceLeDiff, Nat.reduceLT, Nat.reduceEqDiff, Nat.reduceMul, and_true, true_and, and_self, Nat.zero_add, Nat.add_zero, Nat.le_refl, true_or, or_true, not_true_eq_false, not_false_eq_true, zm_ft_int, zm_ft_long, zm_ft_ref, zm_ft_null, zm_ft_b0, zm_ft_b1, i_2, i_3, i_4, i_10, io_16, io_64, io_33, io_2, cF_ev, cF_bm, va_rf, cH_0, cH_1, cH_2, cH_3, cH_4, cH_5, uT4, uT5, uT6, uT7, uB1, uB2, uB3, uG, uV, kH_o (f := g) (o := o) (n := 71 + 2 * 33) (i := 64) (j := 33) (by omega), kH_r4 (f := g) (o := o) (n := 71 + 2 * 33) (i := 64) (j := 33) (by omega), A4]
      refine ⟨fun _ => ?_, fun z => absurd (by decide) z⟩
      rw [← kH_end]
    | succ m ih =>
      intro j hj
      refine bkX3_init_80 X _ _ _ ?_
      simp only [zi_push, zi_ldi, zi_ldl, zi_lda, zi_sti, zi_stl, zi_sta, zi_inc, zi_b, zi_d, zi_u, zi_bl, zi_dl, zi_ul, zi_lcmp, zi_i2l, zi_l2i, zi_if, zi_ic, zi_nul, zi_dup, zi_pop, zi_dup_x1, zi_dup2, zi_gf, zi_pf, zi_ia, zi_is, zi_la, zi_lst, zi_aa, zi_as, zi_len, zi_new, zi_na, zi_mx, zi_mn, zi_sw, zi_swx, zi_cv, zi_cs, zi_ci, zi_obj, zi_iret, zi_lret, zi_zret, zi_aret, zi_vret, zm_s1, zm_s2, zm_k, zm_tk, zm_Rt, zm_is, List.getElem?_cons_zero, List.getElem?_cons_succ, List.set_cons_zero, List.set_cons_succ, List.length_cons, List.length_nil, List.map_cons, List.map_nil, List.sum_cons, List.sum_nil, List.nil_append, List.cons_append, Option.toList, Value.category, reduceIte, Nat.reduceAdd, Nat.reduceLeDiff, Nat.reduceLT, Nat.reduceEqDiff, Nat.reduceMul, and_true, true_and, and_self, Nat.zero_add, Nat.add_zero, Nat.le_refl, true_or, or_true, not_true_eq_false, not_false_eq_true, zm_ft_int, zm_ft_long, zm_ft_ref, zm_ft_null, zm_ft_b0, zm_ft_b1, i_2, i_3, i_4, i_10, io_16, io_64, io_33, io_2, cF_ev, cF_bm, va_rf, cH_0, cH_1, cH_2, cH_3, cH_4, cH_5, uT4, uT5, uT6, uT7, uB1, uB2, uB3, uG, uV, kH_o (f := g) (o := o) (n := 71 + 2 * j) (i := 64) (j := j) (by omega), kH_r4 (f := g) (o := o) (n := 71 + 2 * j) (i := 64) (j := j) (by omega), A4]
      refine ⟨fun z => absurd z (nI_ge (a := j) (b := 33) (by omega) (by decide)), fun _ => ⟨by omega, by omega, ?_⟩⟩
      refine zm_call.of (ctM_init (g := kH g o (71 + 2 * j) 64 j) (b := o + (71 + 2 * j)) (e := o + 70) (s := s + 1289 + 25 * j + 9) (kH_ev (e := 64) (by omega) (by omega)) (by omega) (by omega)) (by show o + (71 + 2 * j) + 2 ≤ o + 137; omega) (by show s + 1289 + 25 * j + 9 + 16 ≤ s + 2114; omega) ?_
      rw [kH_new (n := 71 + 2 * j) (by omega) (cell_bm0 (by omega)), show o + (71 + 2 * j) + 1 = o + (71 + 2 * j + 1) from rfl, kH_new (n := 71 + 2 * j + 1) (by omega) (cell_nt0 (by omega))]
      have r71 : kH g o (71 + 2 * j + 1 + 1) 64 j (o + (71 + 2 * j)) = some (.inr (1, bm_f1 (o + (71 + 2 * j) + 1))) := by
        unfold kH
        rw [if_pos ⟨by omega, by omega⟩, if_neg (by omega), if_neg (by omega), show o + (71 + 2 * j) - o = 71 + 2 * j by omega, cell_bm0 (by omega)]
      have h4 : zm_up (kH g o (71 + 2 * j + 1 + 1) 64 j) (o + 4) (.inl (3, 33, .inr (.inr (.inr (.inr (fun k => if k < j + 1 then some (o + 71 + 2 * k) else none)))))) = kH g o (71 + 2 * j + 1 + 1) 64 (j + 1) := kH_4 (j + 1) (by omega)
      simp only [zi_push, zi_ldi, zi_ldl, zi_lda, zi_sti, zi_stl, zi_sta, zi_inc, zi_b, zi_d, zi_u, zi_bl, zi_dl, zi_ul, zi_lcmp, zi_i2l, zi_l2i, zi_if, zi_ic, zi_nul, zi_dup, zi_pop, zi_dup_x1, zi_dup2, zi_gf, zi_pf, zi_ia, zi_is, zi_la, zi_lst, zi_aa, zi_as, zi_len, zi_new, zi_na, zi_mx, zi_mn, zi_sw, zi_swx, zi_cv, zi_cs, zi_ci, zi_obj, zi_iret, zi_lret, zi_zret, zi_aret, zi_vret, zm_s1, zm_s2, zm_k, zm_tk, zm_Rt, zm_is, List.getElem?_cons_zero, List.getElem?_cons_succ, List.set_cons_zero, List.set_cons_succ, List.length_cons, List.length_nil, List.map_cons, List.map_nil, List.sum_cons, List.sum_nil, List.nil_append, List.cons_append, Option.toList, Value.category, reduceIte, Nat.reduceAdd, Nat.reduceLeDiff, Nat.reduceLT, Nat.reduceEqDiff, Nat.reduceMul, and_true, true_and, and_self, Nat.zero_add, Nat.add_zero, Nat.le_refl, true_or, or_true, not_true_eq_false, not_false_eq_true, zm_ft_int, zm_ft_long, zm_ft_ref, zm_ft_null, zm_ft_b0, zm_ft_b1, i_2, i_3, i_4, i_10, io_16, io_64, io_33, io_2, cF_ev, cF_bm, va_rf, cH_0, cH_1, cH_2, cH_3, cH_4, cH_5, uT4, uT5, uT6, uT7, uB1, uB2, uB3, uG, uV, kH_r4 (f := g) (o := o) (n := 71 + 2 * j + 1 + 1) (i := 64) (j := j) (by omega), A4, r71, nI_clamp (show j < 2 ^ 31 by omega), vaup_bm, h4, nI_1]
      refine ⟨vp_in_nI (by omega) (by decide), ?_⟩
      have h := ih (j + 1) (by omega)
      rw [show 71 + 2 * (j + 1) = 71 + 2 * j + 1 + 1 by omega, show s + 1289 + 25 * (j + 1) = s + 1289 + 25 * j + 9 + 16 by omega] at h
      exact h
  have key42 : ∀ (m i : Nat), i + m = 64 → zm_V w Γ 42 [some (.ref o), some (.int (nI i)), none] [] (kH g o (6 + i) i 0, o + (6 + i), s + 119 + 18 * i) := by
    intro m
    induction m with
    | zero =>
      intro i hi
      have : i = 64 := by omega
      subst this
      refine bkX3_init_42 X _ _ _ ?_
      simp only [zi_push, zi_ldi, zi_ldl, zi_lda, zi_sti, zi_stl, zi_sta, zi_inc, zi_b, zi_d, zi_u, zi_bl, zi_dl, zi_ul, zi_lcmp, zi_i2l, zi_l2i, zi_if, zi_ic, zi_nul, zi_dup, zi_pop, zi_dup_x1, zi_dup2, zi_gf, zi_pf, zi_ia, zi_is, zi_la, zi_lst, zi_aa, zi_as, zi_len, zi_new, zi_na, zi_mx, zi_mn, zi_sw, zi_swx, zi_cv, zi_cs, zi_ci, zi_obj, zi_iret, zi_lret, zi_zret, zi_aret, zi_vret, zm_s1, zm_s2, zm_k, zm_tk, zm_Rt, zm_is, List.getElem?_cons_zero, List.getElem?_cons_succ, List.set_cons_zero, List.set_cons_succ, List.length_cons, List.length_nil, List.map_cons, List.map_nil, List.sum_cons, List.sum_nil, List.nil_append, List.cons_append, Option.toList, Value.category, reduceIte, Nat.reduceAdd, Nat.reduceLeDiff, Nat.reduceLT, Nat.reduceEqDiff, Nat.reduceMul, and_true, true_and, and_self, Nat.zero_add, Nat.add_zero, Nat.le_refl, true_or, or_true, not_true_eq_false, not_false_eq_true, zm_ft_int, zm_ft_long, zm_ft_ref, zm_ft_null, zm_ft_b0, zm_ft_b1, i_2, i_3, i_4, i_10, io_16, io_64, io_33, io_2, cF_ev, cF_bm, va_rf, cH_0, cH_1, cH_2, cH_3, cH_4, cH_5, uT4, uT5, uT6, uT7, uB1, uB2, uB3, uG, uV, kH_o (f := g) (o := o) (n := 6 + 64) (i := 64) (j := 0) (by omega), kH_r3 (f := g) (o := o) (n := 6 + 64) (i := 64) (j := 0) (by omega), A3]
      refine ⟨fun _ => ⟨by omega, by omega, ?_⟩, fun z => absurd (by decide) z⟩
      refine zm_call.of (ctE_init (o + 70)) (by show o + 70 + 1 ≤ o + 137; omega) (by show s + 119 + 1152 + 18 ≤ s + 2114; omega) ?_
      have hn : zm_up (kH g o 70 64 0) (o + 70) (.inr (2, ev_f0)) = kH g o 71 64 0 := kH_new (n := 70) (by omega) (cell_ev0 (e := 64) (by omega))
      unfold ev_f0 at hn
      rw [hn]
      simp only [zi_push, zi_ldi, zi_ldl, zi_lda, zi_sti, zi_stl, zi_sta, zi_inc, zi_b, zi_d, zi_u, zi_bl, zi_dl, zi_ul, zi_lcmp, zi_i2l, zi_l2i, zi_if, zi_ic, zi_nul, zi_dup, zi_pop, zi_dup_x1, zi_dup2, zi_gf, zi_pf, zi_ia, zi_is, zi_la, zi_lst, zi_aa, zi_as, zi_len, zi_new, zi_na, zi_mx, zi_mn, zi_sw, zi_swx, zi_cv, zi_cs, zi_ci, zi_obj, zi_iret, zi_lret, zi_zret, zi_aret, zi_vret, zm_s1, zm_s2, zm_k, zm_tk, zm_Rt, zm_is, List.getElem?_cons_zero, List.getElem?_cons_succ, List.set_cons_zero, List.set_cons_succ, List.length_cons, List.length_nil, List.map_cons, List.map_nil, List.sum_cons, List.sum_nil, List.nil_append, List.cons_append, Option.toList, Value.category, reduceIte, Nat.reduceAdd, Nat.reduceLeDiff, Nat.reduceLT, Nat.reduceEqDiff, Nat.reduceMul, and_true, true_and, and_self, Nat.zero_add, Nat.add_zero, Nat.le_refl, true_or, or_true, not_true_eq_false, not_false_eq_true, zm_ft_int, zm_ft_long, zm_ft_ref, zm_ft_null, zm_ft_b0, zm_ft_b1, i_2, i_3, i_4, i_10, io_16, io_64, io_33, io_2, cF_ev, cF_bm, va_rf, cH_0, cH_1, cH_2, cH_3, cH_4, cH_5, uT4, uT5, uT6, uT7, uB1, uB2, uB3, uG, uV]
      have h := key80 33 0 (by omega)
      rw [show s + 1289 + 25 * 0 = s + 119 + 1152 + 18 by omega] at h
      exact h
    | succ m ih =>
      intro i hi
      refine bkX3_init_42 X _ _ _ ?_
      simp only [zi_push, zi_ldi, zi_ldl, zi_lda, zi_sti, zi_stl, zi_sta, zi_inc, zi_b, zi_d, zi_u, zi_bl, zi_dl, zi_ul, zi_lcmp, zi_i2l, zi_l2i, zi_if, zi_ic, zi_nul, zi_dup, zi_pop, zi_dup_x1, zi_dup2, zi_gf, zi_pf, zi_ia, zi_is, zi_la, zi_lst, zi_aa, zi_as, zi_len, zi_new, zi_na, zi_mx, zi_mn, zi_sw, zi_swx, zi_cv, zi_cs, zi_ci, zi_obj, zi_iret, zi_lret, zi_zret, zi_aret, zi_vret, zm_s1, zm_s2, zm_k, zm_tk, zm_Rt, zm_is, List.getElem?_cons_zero, List.getElem?_cons_succ, List.set_cons_zero, List.set_cons_succ, List.length_cons, List.length_nil, List.map_cons, List.map_nil, List.sum_cons, List.sum_nil, List.nil_append, List.cons_append, Option.toList, Value.category, reduceIte, Nat.reduceAdd, Nat.reduceLeDiff, Nat.reduceLT, Nat.reduceEqDiff, Nat.reduceMul, and_true, true_and, and_self, Nat.zero_add, Nat.add_zero, Nat.le_refl, true_or, or_true, not_true_eq_false, not_false_eq_true, zm_ft_int, zm_ft_long, zm_ft_ref, zm_ft_null, zm_ft_b0, zm_ft_b1, i_2, i_3, i_4, i_10, io_16, io_64, io_33, io_2, cF_ev, cF_bm, va_rf, cH_0, cH_1, cH_2, cH_3, cH_4, cH_5, uT4, uT5, uT6, uT7, uB1, uB2, uB3, uG, uV, kH_o (f := g) (o := o) (n := 6 + i) (i := i) (j := 0) (by omega), kH_r3 (f := g) (o := o) (n := 6 + i) (i := i) (j := 0) (by omega), A3]
      refine ⟨fun z => absurd z (nI_ge (a := i) (b := 64) (by omega) (by decide)), fun _ => ⟨by omega, by omega, ?_⟩⟩
      refine zm_call.of (ctE_init (o + (6 + i))) (by show o + (6 + i) + 1 ≤ o + 137; omega) (by show s + 119 + 18 * i + 18 ≤ s + 2114; omega) ?_
      have hn : zm_up (kH g o (6 + i) i 0) (o + (6 + i)) (.inr (2, ev_f0)) = kH g o (6 + i + 1) i 0 := kH_new (n := 6 + i) (by omega) (cell_ev0 (e := i) (by omega))
      have hr := kH_ev (f := g) (o := o) (n := 6 + i + 1) (i := i) (j := 0) (e := i) (by omega) (by omega)
      have h3 : zm_up (kH g o (6 + i + 1) i 0) (o + 3) (.inl (2, 64, .inr (.inr (.inr (.inr (fun k => if k < i + 1 then some (o + 6 + k) else none)))))) = kH g o (6 + i + 1) (i + 1) 0 := kH_3 (i + 1) (by omega)
      unfold ev_f0 at hn
      rw [hn]
      simp only [zi_push, zi_ldi, zi_ldl, zi_lda, zi_sti, zi_stl, zi_sta, zi_inc, zi_b, zi_d, zi_u, zi_bl, zi_dl, zi_ul, zi_lcmp, zi_i2l, zi_l2i, zi_if, zi_ic, zi_nul, zi_dup, zi_pop, zi_dup_x1, zi_dup2, zi_gf, zi_pf, zi_ia, zi_is, zi_la, zi_lst, zi_aa, zi_as, zi_len, zi_new, zi_na, zi_mx, zi_mn, zi_sw, zi_swx, zi_cv, zi_cs, zi_ci, zi_obj, zi_iret, zi_lret, zi_zret, zi_aret, zi_vret, zm_s1, zm_s2, zm_k, zm_tk, zm_Rt, zm_is, List.getElem?_cons_zero, List.getElem?_cons_succ, List.set_cons_zero, List.set_cons_succ, List.length_cons, List.length_nil, List.map_cons, List.map_nil, List.sum_cons, List.sum_nil, List.nil_append, List.cons_append, Option.toList, Value.category, reduceIte, Nat.reduceAdd, Nat.reduceLeDiff, Nat.reduceLT, Nat.reduceEqDiff, Nat.reduceMul, and_true, true_and, and_self, Nat.zero_add, Nat.add_zero, Nat.le_refl, true_or, or_true, not_true_eq_false, not_false_eq_true, zm_ft_int, zm_ft_long, zm_ft_ref, zm_ft_null, zm_ft_b0, zm_ft_b1, i_2, i_3, i_4, i_10, io_16, io_64, io_33, io_2, cF_ev, cF_bm, va_rf, cH_0, cH_1, cH_2, cH_3, cH_4, cH_5, uT4, uT5, uT6, uT7, uB1, uB2, uB3, uG, uV, kH_r3 (f := g) (o := o) (n := 6 + i + 1) (i := i) (j := 0) (by omega), A3, hr, nI_clamp (show i < 2 ^ 31 by omega), vaup_ev, h3, nI_1]
      refine ⟨vp_in_nI (by omega) (by decide), ?_⟩
      exact ih (i + 1) (by omega)
  refine bkX3_init_0 X [some (.ref o), none, none] [] _ ?_
  simp only [zi_push, zi_ldi, zi_ldl, zi_lda, zi_sti, zi_stl, zi_sta, zi_inc, zi_b, zi_d, zi_u, zi_bl, zi_dl, zi_ul, zi_lcmp, zi_i2l, zi_l2i, zi_if, zi_ic, zi_nul, zi_dup, zi_pop, zi_dup_x1, zi_dup2, zi_gf, zi_pf, zi_ia, zi_is, zi_la, zi_lst, zi_aa, zi_as, zi_len, zi_new, zi_na, zi_mx, zi_mn, zi_sw, zi_swx, zi_cv, zi_cs, zi_ci, zi_obj, zi_iret, zi_lret, zi_zret, zi_aret, zi_vret, zm_s1, zm_s2, zm_k, zm_tk, zm_Rt, zm_is, List.getElem?_cons_zero, List.getElem?_cons_succ, List.set_cons_zero, List.set_cons_succ, List.length_cons, List.length_nil, List.map_cons, List.map_nil, List.sum_cons, List.sum_nil, List.nil_append, List.cons_append, Option.toList, Value.category, reduceIte, Nat.reduceAdd, Nat.reduceLeDiff, Nat.reduceLT, Nat.reduceEqDiff, Nat.reduceMul, and_true, true_and, and_self, Nat.zero_add, Nat.add_zero, Nat.le_refl, true_or, or_true, not_true_eq_false, not_false_eq_true, zm_ft_int, zm_ft_long, zm_ft_ref, zm_ft_null, zm_ft_b0, zm_ft_b1, i_2, i_3, i_4, i_10, io_16, io_64, io_33, io_2, cF_ev, cF_bm, va_rf, cH_0, cH_1, cH_2, cH_3, cH_4, cH_5, uT4, uT5, uT6, uT7, uB1, uB2, uB3, uG, uV, cl_f0]
  refine ⟨by omega, by omega, ?_⟩
  refine zm_call.of (ctB_init (g := zm_up g o (.inr (3, [.null, .null, .null, .null, .int 0, .int 0, .int 0, .int 0]))) (b := o + 1) (s := s + 4)) (by show o + 1 + 2 ≤ o + 137; omega) (by show s + 4 + 16 ≤ s + 2114; omega) ?_
  have t2 : Int32.toNatClampNeg 2 = 2 := by decide
  have t33 : Int32.toNatClampNeg 33 = 33 := by decide
  have t64 : Int32.toNatClampNeg 64 = 64 := by decide
  simp only [zi_push, zi_ldi, zi_ldl, zi_lda, zi_sti, zi_stl, zi_sta, zi_inc, zi_b, zi_d, zi_u, zi_bl, zi_dl, zi_ul, zi_lcmp, zi_i2l, zi_l2i, zi_if, zi_ic, zi_nul, zi_dup, zi_pop, zi_dup_x1, zi_dup2, zi_gf, zi_pf, zi_ia, zi_is, zi_la, zi_lst, zi_aa, zi_as, zi_len, zi_new, zi_na, zi_mx, zi_mn, zi_sw, zi_swx, zi_cv, zi_cs, zi_ci, zi_obj, zi_iret, zi_lret, zi_zret, zi_aret, zi_vret, zm_s1, zm_s2, zm_k, zm_tk, zm_Rt, zm_is, List.getElem?_cons_zero, List.getElem?_cons_succ, List.set_cons_zero, List.set_cons_succ, List.length_cons, List.length_nil, List.map_cons, List.map_nil, List.sum_cons, List.sum_nil, List.nil_append, List.cons_append, Option.toList, Value.category, reduceIte, Nat.reduceAdd, Nat.reduceLeDiff, Nat.reduceLT, Nat.reduceEqDiff, Nat.reduceMul, and_true, true_and, and_self, Nat.zero_add, Nat.add_zero, Nat.le_refl, true_or, or_true, not_true_eq_false, not_false_eq_true, zm_ft_int, zm_ft_long, zm_ft_ref, zm_ft_null, zm_ft_b0, zm_ft_b1, i_2, i_3, i_4, i_10, io_16, io_64, io_33, io_2, cF_ev, cF_bm, va_rf, cH_0, cH_1, cH_2, cH_3, cH_4, cH_5, uT4, uT5, uT6, uT7, uB1, uB2, uB3, uG, uV, bH, zz_1, zz_2, zz_3, zz_4, zz_5, zz_same, zm_up_self, t2, t33, t64, Nat.add_assoc]
  refine ⟨by decide, by omega, by omega, by decide, by omega, by omega, by decide, by omega, by omega, ?_⟩
  rw [kH_6]
  exact key42 64 0 (by omega)
theorem C00_rows : cRows C00 := fun j hj => ⟨hj, Nat.zero_le _, rfl, fun k _ => Nat.le_refl _⟩
/-- the reference as it is made -/
def M00 : mS := (fun _ => 0, fun _ _ => 0, fun _ => 0)
theorem RR_00 : RR C00 (r_begin M00) 0 0 4 := begin_rel C00_rows (fun _ => 0) (fun _ => 0) rfl rfl rfl rfl rfl rfl rfl rfl M00
def md_f0 : List Value := [.int 0, .int 0, .int 0, .int 0, .null, .int 0, .null, .null, .null, .null, .null, .null, .null, .null, .null, .null, .null, .int 0, .int 0, .int 0, .null, .null, .null, .null, .null, .null, .null, .null, .null]
/-- its object with fields fs, and k arrays -/
def rH (f : Nat → Option zO) (q k : Nat) (fs : List Value) : Nat → Option zO := fun a => if a = q then some (.inr (4, fs)) else if q < a ∧ a < q + k + 1 then some (m_cell q M00 (a - q)) else f a
theorem rH_q (f : Nat → Option zO) (q k : Nat) (fs : List Value) : rH f q k fs q = some (.inr (4, fs)) := by
  unfold rH
  rw [if_pos rfl]
theorem rH_put (f : Nat → Option zO) (q k : Nat) (fs fs' : List Value) : zm_up (rH f q k fs) q (.inr (4, fs')) = rH f q k fs' := by
  funext a
  by_cases h : a = q
  · rw [h, zm_up_self, rH_q]
  · rw [zm_up_ne _ _ h]
    unfold rH
    rw [if_neg h, if_neg h]
theorem rH_new (f : Nat → Option zO) (q k : Nat) (fs : List Value) {x : zO} (hx : m_cell q M00 (k + 1) = x) : zm_up (rH f q k fs) (q + (k + 1)) x = rH f q (k + 1) fs := by
  funext a
  by_cases h : a = q + (k + 1)
  · subst h
    rw [zm_up_self]
    unfold rH
    rw [if_neg (by omega), if_pos ⟨by omega, by omega⟩, show q + (k + 1) - q = k + 1 by omega, hx]
  · rw [zm_up_ne _ _ h]
    unfold rH
    by_cases h0 : a = q
    · rw [if_pos h0, if_pos h0]
    · rw [if_neg h0, if_neg h0]
      by_cases hr : q < a ∧ a < q + k + 1
      · rw [if_pos hr, if_pos (show q < a ∧ a < q + (k + 1) + 1 from ⟨by omega, by omega⟩)]
      · rw [if_neg hr, if_neg (show ¬ (q < a ∧ a < q + (k + 1) + 1) by omega)]
theorem rH_0 (f : Nat → Option zO) (q : Nat) (fs : List Value) : zm_up f q (.inr (4, fs)) = rH f q 0 fs := by
  funext a
  by_cases h : a = q
  · rw [h, zm_up_self, rH_q]
  · rw [zm_up_ne _ _ h]
    unfold rH
    rw [if_neg h, if_neg (show ¬ (q < a ∧ a < q + 0 + 1) by omega)]
theorem rH_end (f : Nat → Option zO) (q : Nat) {fs : List Value} (hf : m_cell q M00 0 = .inr (4, fs)) : rH f q 21 fs = mH f q M00 := by
  funext a
  unfold rH mH
  by_cases h : a = q
  · subst h
    rw [if_pos rfl, if_pos ⟨by omega, by omega⟩, show a - a = 0 by omega, hf]
  · rw [if_neg h]
    by_cases hr : q < a ∧ a < q + 21 + 1
    · rw [if_pos hr, if_pos (show q ≤ a ∧ a < q + 22 from ⟨by omega, by omega⟩)]
    · rw [if_neg hr, if_neg (show ¬ (q ≤ a ∧ a < q + 22) by omega)]
theorem rN_1 (f : Nat → Option zO) (q : Nat) (fs : List Value) : zm_up (rH f q 0 fs) (q + 1) (.inl (0, 17, .inl (fun _ => 0))) = rH f q 1 fs := rH_new f q 0 fs rfl
theorem rN_2 (f : Nat → Option zO) (q : Nat) (fs : List Value) : zm_up (rH f q 1 fs) (q + 2) (.inl (0, 64, .inl (fun _ => 0))) = rH f q 2 fs := rH_new f q 1 fs rfl
theorem rN_3 (f : Nat → Option zO) (q : Nat) (fs : List Value) : zm_up (rH f q 2 fs) (q + 3) (.inl (0, 64, .inl (fun _ => 0))) = rH f q 3 fs := rH_new f q 2 fs rfl
theorem rN_4 (f : Nat → Option zO) (q : Nat) (fs : List Value) : zm_up (rH f q 3 fs) (q + 4) (.inl (0, 64, .inl (fun _ => 0))) = rH f q 4 fs := rH_new f q 3 fs rfl
theorem rN_5 (f : Nat → Option zO) (q : Nat) (fs : List Value) : zm_up (rH f q 4 fs) (q + 5) (.inl (0, 64, .inl (fun _ => 0))) = rH f q 5 fs := rH_new f q 4 fs rfl
theorem rN_6 (f : Nat → Option zO) (q : Nat) (fs : List Value) : zm_up (rH f q 5 fs) (q + 6) (.inl (0, 64, .inl (fun _ => 0))) = rH f q 6 fs := rH_new f q 5 fs rfl
theorem rN_7 (f : Nat → Option zO) (q : Nat) (fs : List Value) : zm_up (rH f q 6 fs) (q + 7) (.inl (0, 64, .inl (fun _ => 0))) = rH f q 7 fs := rH_new f q 6 fs rfl
theorem rN_8 (f : Nat → Option zO) (q : Nat) (fs : List Value) : zm_up (rH f q 7 fs) (q + 8) (.inl (0, 64, .inl (fun _ => 0))) = rH f q 8 fs := rH_new f q 7 fs rfl
theorem rN_9 (f : Nat → Option zO) (q : Nat) (fs : List Value) : zm_up (rH f q 8 fs) (q + 9) (.inl (0, 64, .inl (fun _ => 0))) = rH f q 9 fs := rH_new f q 8 fs rfl
theorem rN_10 (f : Nat → Option zO) (q : Nat) (fs : List Value) : zm_up (rH f q 9 fs) (q + 10) (.inl (0, 256, .inl (fun _ => 0))) = rH f q 10 fs := rH_new f q 9 fs rfl
theorem rN_11 (f : Nat → Option zO) (q : Nat) (fs : List Value) : zm_up (rH f q 10 fs) (q + 11) (.inl (0, 64, .inl (fun _ => 0))) = rH f q 11 fs := rH_new f q 10 fs rfl
theorem rN_12 (f : Nat → Option zO) (q : Nat) (fs : List Value) : zm_up (rH f q 11 fs) (q + 12) (.inl (0, 2, .inl (fun _ => 0))) = rH f q 12 fs := rH_new f q 11 fs rfl
theorem rN_13 (f : Nat → Option zO) (q : Nat) (fs : List Value) : zm_up (rH f q 12 fs) (q + 13) (.inl (0, 64, .inl (fun _ => 0))) = rH f q 13 fs := rH_new f q 12 fs rfl
theorem rN_14 (f : Nat → Option zO) (q : Nat) (fs : List Value) : zm_up (rH f q 13 fs) (q + 14) (.inl (0, 1024, .inl (fun _ => 0))) = rH f q 14 fs := rH_new f q 13 fs rfl
theorem rN_15 (f : Nat → Option zO) (q : Nat) (fs : List Value) : zm_up (rH f q 14 fs) (q + 15) (.inl (0, 64, .inl (fun _ => 0))) = rH f q 15 fs := rH_new f q 14 fs rfl
theorem rN_16 (f : Nat → Option zO) (q : Nat) (fs : List Value) : zm_up (rH f q 15 fs) (q + 16) (.inl (0, 64, .inl (fun _ => 0))) = rH f q 16 fs := rH_new f q 15 fs rfl
theorem rN_17 (f : Nat → Option zO) (q : Nat) (fs : List Value) : zm_up (rH f q 16 fs) (q + 17) (.inl (0, 64, .inl (fun _ => 0))) = rH f q 17 fs := rH_new f q 16 fs rfl
theorem rN_18 (f : Nat → Option zO) (q : Nat) (fs : List Value) : zm_up (rH f q 17 fs) (q + 18) (.inl (0, 64, .inl (fun _ => 0))) = rH f q 18 fs := rH_new f q 17 fs rfl
theorem rN_19 (f : Nat → Option zO) (q : Nat) (fs : List Value) : zm_up (rH f q 18 fs) (q + 19) (.inl (0, 64, .inl (fun _ => 0))) = rH f q 19 fs := rH_new f q 18 fs rfl
theorem rN_20 (f : Nat → Option zO) (q : Nat) (fs : List Value) : zm_up (rH f q 19 fs) (q + 20) (.inl (0, 64, .inl (fun _ => 0))) = rH f q 20 fs := rH_new f q 19 fs rfl
theorem rN_21 (f : Nat → Option zO) (q : Nat) (fs : List Value) : zm_up (rH f q 20 fs) (q + 21) (.inl (1, 64, .inr (.inl (fun _ => 0)))) = rH f q 21 fs := rH_new f q 20 fs rfl
set_option maxRecDepth 16000 in
theorem ctR_init {q s : Nat} : zm_C w mX4_init [.ref q] (zm_up g q (.inr (4, md_f0)), q + 1, s) none (mH g q (r_begin M00), q + 22, s + 2387) := by
  refine zm_C.of (mc := 21) (ms := 2387) rfl rfl (by decide) (Nat.le_of_ble_eq_true rfl) ?_
  intro Γ X
  refine bkX4_init_0 X [some (.ref q)] [] _ ?_
  have t2 : Int32.toNatClampNeg 2 = 2 := by decide
  have t17 : Int32.toNatClampNeg 17 = 17 := by decide
  have t64 : Int32.toNatClampNeg 64 = 64 := by decide
  have t256 : Int32.toNatClampNeg 256 = 256 := by decide
  have t1024 : Int32.toNatClampNeg 1024 = 1024 := by decide
  rw [md_f0, rH_0]
  simp only [zi_push, zi_ldi, zi_ldl, zi_lda, zi_sti, zi_stl, zi_sta, zi_inc, zi_b, zi_d, zi_u, zi_bl, zi_dl, zi_ul, zi_lcmp, zi_i2l, zi_l2i, zi_if, zi_ic, zi_nul, zi_dup, zi_pop, zi_dup_x1, zi_dup2, zi_gf, zi_pf, zi_ia, zi_is, zi_la, zi_lst, zi_aa, zi_as, zi_len, zi_new, zi_na, zi_mx, zi_mn, zi_sw, zi_swx, zi_cv, zi_cs, zi_ci, zi_obj, zi_iret, zi_lret, zi_zret, zi_aret, zi_vret, zm_s1, zm_s2, zm_k, zm_tk, zm_Rt, zm_is, List.getElem?_cons_zero, List.getElem?_cons_succ, List.set_cons_zero, List.set_cons_succ, List.length_cons, List.length_nil, List.map_cons, List.map_nil, List.sum_cons, List.sum_nil, List.nil_append, List.cons_append, Option.toList, Value.category, reduceIte, Nat.reduceAdd, Nat.reduceLeDiff, Nat.reduceLT, Nat.reduceEqDiff, Nat.reduceMul, and_true, true_and, and_self, Nat.zero_add, Nat.add_zero, Nat.le_refl, true_or, or_true, not_true_eq_false, not_false_eq_true, zm_ft_int, zm_ft_long, zm_ft_ref, zm_ft_null, zm_ft_b0, zm_ft_b1, i_2, i_3, i_4, i_10, io_16, io_64, io_33, io_2, cF_ev, cF_bm, va_rf, cH_0, cH_1, cH_2, cH_3, cH_4, cH_5, uT4, uT5, uT6, uT7, uB1, uB2, uB3, uG, uV, rH_q, rH_put, rN_1, rN_2, rN_3, rN_4, rN_5, rN_6, rN_7, rN_8, rN_9, rN_10, rN_11, rN_12, rN_13, rN_14, rN_15, rN_16, rN_17, rN_18, rN_19, rN_20, rN_21, t2, t17, t64, t256, t1024, Nat.add_assoc]
  refine ⟨by decide, by omega, by omega, by decide, by omega, by omega, by decide, by omega, by omega, by decide, by omega, by omega, by decide, by omega, by omega, by decide, by omega, by omega, by decide, by omega, by omega, by decide, by omega, by omega, by decide, by omega, by omega, by decide, by omega, by omega, by decide, by omega, by omega, by decide, by omega, by omega, by decide, by omega, by omega, by decide, by omega, by omega, by decide, by omega, by omega, by decide, by omega, by omega, by decide, by omega, by omega, by decide, by omega, by omega, by decide, by omega, by omega, by decide, by omega, by omega, by decide, ?_⟩
  have e : rH g q 21 [.int 0, .int 0, .int 0, .int 0, .ref (q + 1), .int 0, .ref (q + 2), .ref (q + 3), .ref (q + 4), .ref (q + 5), .ref (q + 6), .ref (q + 7), .ref (q + 8), .ref (q + 9), .ref (q + 10), .ref (q + 11), .ref (q + 12), .int 0, .int 0, .int 0, .ref (q + 13), .ref (q + 14), .ref (q + 15), .ref (q + 16), .ref (q + 17), .ref (q + 18), .ref (q + 19), .ref (q + 20), .ref (q + 21)] = mH g q M00 := rH_end g q rfl
  rw [e]
  refine zm_call.of (ctR_begin) (Nat.le_refl _) (Nat.le_refl _) ?_
  simp only [zi_push, zi_ldi, zi_ldl, zi_lda, zi_sti, zi_stl, zi_sta, zi_inc, zi_b, zi_d, zi_u, zi_bl, zi_dl, zi_ul, zi_lcmp, zi_i2l, zi_l2i, zi_if, zi_ic, zi_nul, zi_dup, zi_pop, zi_dup_x1, zi_dup2, zi_gf, zi_pf, zi_ia, zi_is, zi_la, zi_lst, zi_aa, zi_as, zi_len, zi_new, zi_na, zi_mx, zi_mn, zi_sw, zi_swx, zi_cv, zi_cs, zi_ci, zi_obj, zi_iret, zi_lret, zi_zret, zi_aret, zi_vret, zm_s1, zm_s2, zm_k, zm_tk, zm_Rt, zm_is, List.getElem?_cons_zero, List.getElem?_cons_succ, List.set_cons_zero, List.set_cons_succ, List.length_cons, List.length_nil, List.map_cons, List.map_nil, List.sum_cons, List.sum_nil, List.nil_append, List.cons_append, Option.toList, Value.category, reduceIte, Nat.reduceAdd, Nat.reduceLeDiff, Nat.reduceLT, Nat.reduceEqDiff, Nat.reduceMul, and_true, true_and, and_self, Nat.zero_add, Nat.add_zero, Nat.le_refl, true_or, or_true, not_true_eq_false, not_false_eq_true, zm_ft_int, zm_ft_long, zm_ft_ref, zm_ft_null, zm_ft_b0, zm_ft_b1, i_2, i_3, i_4, i_10, io_16, io_64, io_33, io_2, cF_ev, cF_bm, va_rf, cH_0, cH_1, cH_2, cH_3, cH_4, cH_5, uT4, uT5, uT6, uT7, uB1, uB2, uB3, uG, uV]
end
