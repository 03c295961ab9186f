set_option maxRecDepth 20000 in
theorem bkLs_r {w : zW} {Γ : zC} {N S : Nat} {Rt : zR} (X : zm_X w Γ mLs N S Rt) : ∀ lv st h, (zi_lda 3 (zi_push (.int 0) (zi_lda 0 (zi_ldi 1 (zi_ldi 2 (zi_cv w mS3 3 3 N S (zi_lst 1 (zi_push (.int 0) (zi_iret Rt))))))))) lv st h → zm_V w Γ 0 lv st h := (zs_aload_n X rfl dL_share_0 (zs_iconst X (by decide) dL_share_1 (zs_aload_n X rfl dL_share_2 (zs_iload_n X rfl dL_share_3 (zs_iload_n X rfl dL_share_4 (zs_cv X (M' := mS3) (n := 2) kd_X3_share ki_X3 (by decide +kernel) (by decide) kw_L_7 rfl ks_X3_share kl_X3_share dL_share_5 (zs_last X (fun _ => rfl) dL_share_8 (zs_goto X dL_share_9 (by decide) (zs_iconst X (by decide) dL_share_16 (zs_iret X rfl dL_share_17))))))))))
set_option maxRecDepth 20000 in
theorem bkLs_t {w : zW} {Γ : zC} {N S : Nat} {Rt : zR} (X : zm_X w Γ mLs N S Rt) : ∀ lv st h, (zi_lda 3 (zi_push (.int 0) (zi_lda 0 (zi_ldi 1 (zi_ldi 2 (zm_V w Γ 5)))))) lv st h → zm_V w Γ 0 lv st h := (zs_aload_n X rfl dL_share_0 (zs_iconst X (by decide) dL_share_1 (zs_aload_n X rfl dL_share_2 (zs_iload_n X rfl dL_share_3 (zs_iload_n X rfl dL_share_4 (fun _ _ _ h => h))))))
set_option maxRecDepth 20000 in
theorem bkLs_c {w : zW} {Γ : zC} {N S : Nat} {Rt : zR} (X : zm_X w Γ mLs N S Rt) : ∀ lv st h, (zi_sta 4 (zi_push (.int 1) (zi_iret Rt))) lv st h → zm_V w Γ 12 lv st h := (zs_astore X (by decide) dL_share_12 (zs_iconst X (by decide) dL_share_14 (zs_iret X rfl dL_share_15)))

def wsL : List Cond := Cond.codeWith yL_share cL_share 5 (some .int) [(0, 9, 12, 13)] :: (zm_tb ++ xg)
/-- the law's share returns r -/
def zm_CL (w : zW) (a1 a2 : Nat) (As : List Value) (h : zH) (r : Option Value) (h' : zH) : Prop := ∃ mc ms : Nat, h'.2.1 = h.2.1 + mc ∧ h'.2.2 = h.2.2 + ms ∧ Met w.1 yL_share wsL { frames := 7, cells := mc, slots := ms, locals := 114 } (va_Pc As (zm_UY w a1 a2 h)) (zm_Q w r h') mc ms (fun q => w.2.2.2.1 ≤ q)
theorem met_ofWH {l : Launch} {y : MethodName} {ws ws' : List Cond} {rm : Room} {Pc : Array Value → State → Prop} {Qc : Array Value → State → Outcome → State → Prop} {mc ms : Nat} {free : Addr → Prop} {cc : ByteArray} {maxL : Nat} {ret : Option FieldType} {hh : List (Nat × Nat × Nat × Nat)}
    (hy : plainName y.cls = true) (hw : ws = Cond.codeWith y cc maxL ret hh :: ws')
    (body : ∀ p e s m args below meth c s₁, BodyLoose p l y (headSpec ws rm) cc maxL ret e s m args below meth c s₁ → c.maxLocals = maxL → Pc args s →
      W p l e (headSpec ws rm).room s m args below meth c s.heap [] 0 0 (MQ below Qc args s mc ms free) (entryFrame m args maxL)) : Met l y ws rm Pc Qc mc ms free := by
  refine MetFree.of_bodyS (code := cc) (maxLocals := maxL) (ret := ret) hy ?_ ?_
  · intro args s m h hn
    obtain ⟨m9, meth, c, hn9, h1, h2, h3, h4, -, h5, h6, -⟩ := Cond.codeWith_spec (atoms_spec (ws := ws) h _ (by rw [hw]; exact List.mem_cons_self))
    cases hn.symm.trans hn9
    exact ⟨meth, c, h1, h2, h3, h4, h5, h6⟩
  · intro p e s m args below meth c s₁ B hml hP _
    have hh0 : s₁.heap = s.heap := by rw [B.state]; rfl
    obtain ⟨t, a1, o, b1, b2, b3⟩ := body p e s m args below meth c s₁ B hml hP s₁ hh0 (Stand.of_body B)
    exact ⟨t, o, a1, b1, b2, ⟨b3.1, b3.2⟩⟩
theorem xg_good : ∀ q ∈ zm_tb ++ xg, (q.onTables && q.keeps) = true ∨ ∃ ty, q = .arrayClass ty := by
  intro q hq
  rcases List.mem_append.mp hq with h | h
  · exact zm_good q h
  · exact good_of_word (List.mem_filter.mp h).2
theorem ws3_in : GoodIn (zm_tb ++ xg) ws3 := by
  intro q hq
  rcases List.mem_cons.mp hq with rfl | hq
  · exact ⟨List.mem_append_left _ kd_X3_share, zm_good _ kd_X3_share⟩
  · exact ⟨hq, xg_good q hq⟩
theorem zm_UYat {w : zW} {a1 a2 : Nat} {h : zH} {H : Heap} {s U : State} (hP : zm_P w h H) (hKK : va_K w.2.1 vwCl (zm_tys w.2.2.1) s) (hNw : ∀ q ∈ zm_nw, va_Nw q s) (hY : zm_Y w a1 a2 s) (hU : U.heap = H) (hW : s.WarmedH U.vm) : zm_UY w a1 a2 h U := ⟨zm_Uat hP hKK hNw hU hW, hY.warm hW⟩
theorem zm_blindY {w : zW} {a1 a2 : Nat} {h : zH} {As : List Value} : FrameBlind (va_Pc As (zm_UY w a1 a2 h)) := fun a U g mk q => by
  obtain ⟨q0, ⟨q1, q2, q3⟩, q4⟩ := q
  exact ⟨q0, ⟨q1, va_K.moved (u := U) (U := U.calling g mk a) (Vm.Alike.refl U.vm) q2, zm_nwC q3 rfl⟩, q4.same rfl⟩
theorem zm_CL.of {w : zW} {a1 a2 : Nat} {As : List Value} {h h' : zH} {r : Option Value} {mc ms : Nat} (e1 : h'.2.1 = h.2.1 + mc) (e2 : h'.2.2 = h.2.2 + ms) (hn : (lg_sl As).length ≤ 5)
    (k : ∀ (p : Program) (e : Env) (R : Room) (s : State) (m : MethodId) (args : Array Value) (below : List Frame) (meth : Method) (c : Code) (Qw : State → Prop), R.frames = 7 → R.locals = 114 → R.cells = mc → R.slots = ms → zm_X w (p, e, R, s, m, args, below, meth, c, h, Qw, 5) mLs h'.2.1 h'.2.2 (zm_Rt r h') → zm_Y w a1 a2 s → c.exceptionTable.toList = tableOf [(0, 9, 12, 13)] → (∀ q ∈ zm_tb ++ xg, q.before args s = true) → zm_V w (p, e, R, s, m, args, below, meth, c, h, Qw, 5) 0 (zm_en 5 As) [] h) : zm_CL w a1 a2 As h r h' := by
  refine ⟨mc, ms, e1, e2, ?_⟩
  refine met_ofWH (cc := cL_share) (maxL := 5) (ret := some .int) (by decide) rfl ?_
  intro p e s m args below meth c s₁ B hml hv
  obtain ⟨rfl, ⟨hP, hK, hN⟩, hY⟩ := hv
  have hx := B.exec
  have hb := B.bytes
  have hr := B.returns
  have hts := atoms_spec (ws := wsL) B.pre
  have hown : s.vm.findClass RL = some m.cls := findClass_of_methodNamed B.named
  have hlocks := B.notSynchronized
  have hnm : meth.name = "share" := (name_of_methodNamed B.named B.method).1
  have htb := vx_table (x := yL_share) B (hts _ List.mem_cons_self)
  have hl := lv_entry As (n := 5) hn
  rw [lg_entry_eq]
  refine k p e _ s m As.toArray below meth c _ rfl rfl rfl rfl ⟨hx, hb, hml, rfl, hown, fun q hq => hts q (List.mem_cons_of_mem _ (List.mem_append_left _ hq)), hK, hN, Nat.le_refl _, Nat.le_refl _, ?_, ?_, hnm, ?_⟩ hY htb (fun q hq => hts q (List.mem_cons_of_mem _ hq)) s.heap [] _ 0 0 hP (fun q hq => by cases hq) (zm_lv.of hl (fun j v hj => zm_en_at hj)) rfl rfl
  · show h'.2.1 ≤ h.2.1 + mc
    omega
  · show h'.2.2 ≤ h.2.2 + ms
    omega
  · rintro v h2 pc lv ⟨rfl, rfl⟩ hrt
    intro H locs ls cells slots hP2 hL hl2 g1 g2
    have hc : cells = mc := by omega
    have hs : slots = ms := by omega
    subst hc; subst hs
    rcases hrt with ⟨rfl, a1, a2⟩ | ⟨x, rfl, a1, a2⟩ | ⟨x, rfl, a0, a1, a2⟩ | ⟨x, rfl, a1, a2⟩ | ⟨q, rt, rfl, a1, a3, a4, a2⟩
    · exact W.vret hx hb (hr.trans a1) (fun t ht _ => ⟨rfl, by rw [ht]; exact hP2⟩) hL a2 hlocks
    · exact W.iret hx hb (hr.trans a1) (fun t ht _ => ⟨rfl, by rw [ht]; exact hP2⟩) hL a2 hlocks
    · exact W.zret hx hb (hr.trans a1) (by rcases a0 with rfl | rfl <;> rfl) (fun t ht _ => ⟨rfl, by rw [ht]; exact hP2⟩) hL a2 hlocks
    · exact W.lret hx hb (hr.trans a1) (fun t ht _ => ⟨rfl, by rw [ht]; exact hP2⟩) hL a2 hlocks
    · exact W.aret hx hb (hr.trans a1) a3 a4 (fun t ht _ => ⟨rfl, by rw [ht]; exact hP2⟩) hL a2 hlocks
section
variable {w : zW} {a1 a2 o ao : Nat} {y x : Int32} {h : zH}
theorem ctL_ret {v : Int64} {F : Nat → Int64} (hC : zm_C w mS3 [.ref o, .int y, .int x] h (some (.long v)) h) (hobj : zm_is h o 3) (hout : h.1 ao = some (.inl (1, 1, .inr (.inl F)))) : zm_CL w a1 a2 [.ref o, .int y, .int x, .ref ao] h (some (.int 0)) (zm_up h.1 ao (.inl (1, 1, .inr (.inl (vp_updL F 0 v)))), h.2) := by
  refine zm_CL.of (mc := 0) (ms := 0) rfl rfl (Nat.le_of_ble_eq_true rfl) ?_
  intro p e R s m args below meth c Qw hR1 hR2 hR3 hR4 X hY htb hts
  refine bkLs_r X [some (.ref o), some (.int y), some (.int x), some (.ref ao), none] [] _ ?_
  simp only [zi_push, zi_ldi, zi_ldl, zi_lda, zi_sti, zi_stl, zi_sta, zi_inc, zi_b, zi_d, zi_u, zi_bl, zi_dl, zi_ul, zi_lcmp, zi_i2l, zi_l2i, zi_if, zi_ic, zi_nul, zi_dup, zi_pop, zi_dup_x1, zi_dup2, zi_gf, zi_pf, zi_ia, zi_is, zi_la, zi_lst, zi_aa, zi_as, zi_len, zi_new, zi_na, zi_mx, zi_mn, zi_sw, zi_swx, zi_cv, zi_cs, zi_ci, zi_obj, zi_iret, zi_lret, zi_zret, zi_aret, zi_vret, zm_s1, zm_s2, zm_k, zm_tk, zm_Rt, zm_is, List.getElem?_cons_zero, List.getElem?_cons_succ, List.set_cons_zero, List.set_cons_succ, List.length_cons, List.length_nil, List.map_cons, List.map_nil, List.sum_cons, List.sum_nil, List.nil_append, List.cons_append, Option.toList, Value.category, reduceIte, Nat.reduceAdd, Nat.reduceLeDiff, Nat.reduceLT, Nat.reduceEqDiff, Nat.reduceMul, and_true, true_and, and_self, Nat.zero_add, Nat.add_zero, Nat.le_refl, true_or, or_true, not_true_eq_false, not_false_eq_true, zm_ft_int, zm_ft_long, zm_ft_ref, zm_ft_null, zm_ft_b0, zm_ft_b1, i_2, i_3, i_4, i_10, io_16, io_64, io_33, io_2, cF_ev, cF_bm, va_rf, cH_0, cH_1, cH_2, cH_3, cH_4, cH_5, uT4, uT5, uT6, uT7, uB1, uB2, uB3, uG, uV]
  refine ⟨hobj, ?_⟩
  refine zm_call.of (hC) (Nat.le_refl _) (Nat.le_refl _) ?_
  simp only [zi_push, zi_ldi, zi_ldl, zi_lda, zi_sti, zi_stl, zi_sta, zi_inc, zi_b, zi_d, zi_u, zi_bl, zi_dl, zi_ul, zi_lcmp, zi_i2l, zi_l2i, zi_if, zi_ic, zi_nul, zi_dup, zi_pop, zi_dup_x1, zi_dup2, zi_gf, zi_pf, zi_ia, zi_is, zi_la, zi_lst, zi_aa, zi_as, zi_len, zi_new, zi_na, zi_mx, zi_mn, zi_sw, zi_swx, zi_cv, zi_cs, zi_ci, zi_obj, zi_iret, zi_lret, zi_zret, zi_aret, zi_vret, zm_s1, zm_s2, zm_k, zm_tk, zm_Rt, zm_is, List.getElem?_cons_zero, List.getElem?_cons_succ, List.set_cons_zero, List.set_cons_succ, List.length_cons, List.length_nil, List.map_cons, List.map_nil, List.sum_cons, List.sum_nil, List.nil_append, List.cons_append, Option.toList, Value.category, reduceIte, Nat.reduceAdd, Nat.reduceLeDiff, Nat.reduceLT, Nat.reduceEqDiff, Nat.reduceMul, and_true, true_and, and_self, Nat.zero_add, Nat.add_zero, Nat.le_refl, true_or, or_true, not_true_eq_false, not_false_eq_true, zm_ft_int, zm_ft_long, zm_ft_ref, zm_ft_null, zm_ft_b0, zm_ft_b1, i_2, i_3, i_4, i_10, io_16, io_64, io_33, io_2, cF_ev, cF_bm, va_rf, cH_0, cH_1, cH_2, cH_3, cH_4, cH_5, uT4, uT5, uT6, uT7, uB1, uB2, uB3, uG, uV, hout, sb_cl0]
  rw [← nI_0]
  exact vp_in_nI (by omega) (by decide)
theorem ctL_thr (hX : zm_CX w a1 a2 [.ref o, .int y, .int x] h) (hobj : zm_is h o 3) : zm_CL w a1 a2 [.ref o, .int y, .int x, .ref ao] h (some (.int 1)) (h.1, h.2.1 + 1, h.2.2 + 6) := by
  refine zm_CL.of (mc := 1) (ms := 6) rfl rfl (Nat.le_of_ble_eq_true rfl) ?_
  intro p e R s m args below meth c Qw hR1 hR2 hR3 hR4 X hY htb hts
  have X' := X
  obtain ⟨hx, hb, hml, hnl, hown, hts0, hKK, hNw, hfr, hlo, hN, hS, hnm, hrt⟩ := X'
  refine bkLs_t X [some (.ref o), some (.int y), some (.int x), some (.ref ao), none] [] _ ?_
  simp only [zi_push, zi_ldi, zi_ldl, zi_lda, zi_sti, zi_stl, zi_sta, zi_inc, zi_b, zi_d, zi_u, zi_bl, zi_dl, zi_ul, zi_lcmp, zi_i2l, zi_l2i, zi_if, zi_ic, zi_nul, zi_dup, zi_pop, zi_dup_x1, zi_dup2, zi_gf, zi_pf, zi_ia, zi_is, zi_la, zi_lst, zi_aa, zi_as, zi_len, zi_new, zi_na, zi_mx, zi_mn, zi_sw, zi_swx, zi_cv, zi_cs, zi_ci, zi_obj, zi_iret, zi_lret, zi_zret, zi_aret, zi_vret, zm_s1, zm_s2, zm_k, zm_tk, zm_Rt, zm_is, List.getElem?_cons_zero, List.getElem?_cons_succ, List.set_cons_zero, List.set_cons_succ, List.length_cons, List.length_nil, List.map_cons, List.map_nil, List.sum_cons, List.sum_nil, List.nil_append, List.cons_append, Option.toList, Value.category, reduceIte, Nat.reduceAdd, Nat.reduceLeDiff, Nat.reduceLT, Nat.reduceEqDiff, Nat.reduceMul, and_true, true_and, and_self, Nat.zero_add, Nat.add_zero, Nat.le_refl, true_or, or_true, not_true_eq_false, not_false_eq_true, zm_ft_int, zm_ft_long, zm_ft_ref, zm_ft_null, zm_ft_b0, zm_ft_b1, i_2, i_3, i_4, i_10, io_16, io_64, io_33, io_2, cF_ev, cF_bm, va_rf, cH_0, cH_1, cH_2, cH_3, cH_4, cH_5, uT4, uT5, uT6, uT7, uB1, uB2, uB3, uG, uV]
  intro H locs ls cells slots hP hL hl g1 g2
  have hc0 : cells = 0 := by omega
  have hs0 : slots = 0 := by omega
  subst hc0; subst hs0
  obtain ⟨fs, hf⟩ := hobj.of
  have hr := vx_runV (g := F0 m 5 ls [.int x, .int y, .ref o, .int 0, .ref ao]) (As := [.int y, .int x]) (b := o) (rest := [.int 0, .ref ao]) (p := p) (e := e) (below := below) (meth := meth) (locs := locs) (cells := 0) (slots := 0) ⟨hx, hb, hml, hown, hts⟩ hX ⟨callB_of (ws' := zm_tb ++ xg) 2 hts ws3_in rfl rfl rfl (hts0 _ ki_X3) (hts0 _ kw_L_7) (by decide +kernel) ⟨by rw [hR1]; exact Nat.le_refl _, by rw [hR2]; exact Nat.le_refl _⟩, hts0 _ ks_X3_share, hts0 _ kl_X3_share⟩ ⟨zm_blindY, va_recv hKK (hP.one hf) (ci := 3) (q0 := 0) rfl rfl, fun U hU hW => ⟨rfl, zm_UYat hP hKK hNw hY hU hW⟩⟩ rfl rfl hl.1 rfl (lv_room (Nat.le_of_ble_eq_true rfl)) dL_share_5 ⟨by rw [hR3]; exact Nat.le_refl _, by rw [hR4]; exact Nat.le_refl _⟩
  intro T hT XX
  rcases hr T hT XX with ⟨v, st₀, t, T', L, -, -, -, -, -, hq, -⟩ | ⟨q, st₀, t, T', L, E, ce, -, X2, hL', e1, -, ⟨rfl, hPt⟩, hce, hcv, hcl, st⟩
  · exact hq.elim
  · have hw := vx_catch (p := p) (l := w.1) (e := e) (R := R) (below := below) (meth := meth) (locs := locs ++ L) (cells := 0 + 1) (slots := 0 + 6) (H := T'.heap) (Q := Qw) (ls := ls) (rest := [.int 0, .ref ao]) (pc := 5) (own := RL) (name := "java/lang/ArithmeticException") hown [] ⟨0, 9, 12, 13⟩ [] htb (fun z hz => by cases hz) (by decide) (by decide) (hts0 _ kw_L_13) (xn_use hY.1 _ (by simp [xn])) (by rw [e1]; exact hce) hcv hcl (bkLs_c X [some (.ref o), some (.int y), some (.int x), some (.ref ao), none] [.ref q] (h.1, h.2.1 + 1, h.2.2 + 6) (by simp only [zi_push, zi_ldi, zi_ldl, zi_lda, zi_sti, zi_stl, zi_sta, zi_inc, zi_b, zi_d, zi_u, zi_bl, zi_dl, zi_ul, zi_lcmp, zi_i2l, zi_l2i, zi_if, zi_ic, zi_nul, zi_dup, zi_pop, zi_dup_x1, zi_dup2, zi_gf, zi_pf, zi_ia, zi_is, zi_la, zi_lst, zi_aa, zi_as, zi_len, zi_new, zi_na, zi_mx, zi_mn, zi_sw, zi_swx, zi_cv, zi_cs, zi_ci, zi_obj, zi_iret, zi_lret, zi_zret, zi_aret, zi_vret, zm_s1, zm_s2, zm_k, zm_tk, zm_Rt, zm_is, List.getElem?_cons_zero, List.getElem?_cons_succ, List.set_cons_zero, List.set_cons_succ, List.length_cons, List.length_nil, List.map_cons, List.map_nil, List.sum_cons, List.sum_nil, List.nil_append, List.cons_append, Option.toList, Value.category, reduceIte, Nat.reduceAdd, Nat.reduceLeDiff, Nat.reduceLT, Nat.reduceEqDiff, Nat.reduceMul, and_true, true_and, and_self, Nat.zero_add, Nat.add_zero, Nat.le_refl, true_or, or_true, not_true_eq_false, not_false_eq_true, zm_ft_int, zm_ft_long, zm_ft_ref, zm_ft_null, zm_ft_b0, zm_ft_b1, i_2, i_3, i_4, i_10, io_16, io_64, io_33, io_2, cF_ev, cF_bm, va_rf, cH_0, cH_1, cH_2, cH_3, cH_4, cH_5, uT4, uT5, uT6, uT7, uB1, uB2, uB3, uG, uV]) T'.heap (locs ++ L) ls (0 + 1) (0 + 6) (by rw [e1]; exact hPt) (fun z hz => by
      rcases List.mem_append.mp hz with h1 | h1
      · exact hL z h1
      · exact hL' z h1) hl rfl rfl)
    obtain ⟨t2, b1, b2⟩ := hw T' rfl X2
    exact ⟨t2, st.trans b1, b2⟩
end
