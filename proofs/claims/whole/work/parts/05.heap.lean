theorem zm_P.at {w : zW} {h : zH} {H : Heap} {a : Nat} {o : zO} (hP : zm_P w h H) (ha : h.1 a = some o) : va_at w.2.1 vwCl (a, zm_E w.2.2.1 o) H := (hP.2.2.2 a o ha).2
theorem zm_P.one {w : zW} {h : zH} {H : Heap} {a : Nat} {o : zO} (hP : zm_P w h H) (ha : h.1 a = some o) : va_P w.2.1 vwCl [(a, zm_E w.2.2.1 o)] H := by
  intro k q hk
  have hz : k < 1 := (List.getElem?_eq_some_iff.mp hk).1
  rw [show k = 0 by omega] at hk
  cases hk
  exact hP.at ha
theorem zm_P.set {w : zW} {h : zH} {H H1 : Heap} {a : Nat} {o : zO} (hP : zm_P w h H) (ha : w.2.2.2.1 ≤ a) (he : va_at w.2.1 vwCl (a, zm_E w.2.2.1 o) H1) (hz : H1.size = H.size) (hq : ∀ q : Nat, q ≠ a → H1[q]? = H[q]?) : zm_P w (zm_up h.1 a o, h.2) H1 := by
  refine ⟨hz.trans hP.1, hP.2.1, fun q hq' => ?_, fun b o' hb => ?_⟩
  · rw [hq q (by omega)]
    exact hP.2.2.1 q hq'
  · by_cases hba : b = a
    · subst hba
      have hb' : some o = some o' := (zm_up_self h.1 b o).symm.trans hb
      cases hb'
      exact ⟨ha, he⟩
    · have hb' : h.1 b = some o' := (zm_up_ne h.1 o hba).symm.trans hb
      exact ⟨(hP.2.2.2 b o' hb').1, (hP.2.2.2 b o' hb').2.kept (hq b hba)⟩
theorem zm_P.push {w : zW} {h : zH} {H H1 : Heap} {n : Nat} {o : zO} (hP : zm_P w h H) (he : va_at w.2.1 vwCl (H.size, zm_E w.2.2.1 o) H1) (hz : H1.size = H.size + 1) (hq : ∀ q : Nat, q < H.size → H1[q]? = H[q]?) : zm_P w (zm_up h.1 h.2.1 o, h.2.1 + 1, n) H1 := by
  have hs := hP.1
  have hB := hP.2.1
  refine ⟨by rw [hz, hs], Nat.le_trans hB (Nat.le_succ _), fun q hq' => ?_, fun b o' hb => ?_⟩
  · rw [hq q (by omega)]
    exact hP.2.2.1 q hq'
  · by_cases hba : b = h.2.1
    · subst hba
      have hb' : some o = some o' := (zm_up_self h.1 h.2.1 o).symm.trans hb
      cases hb'
      rw [hs] at he
      exact ⟨hB, he⟩
    · have hb' : h.1 b = some o' := (zm_up_ne h.1 o hba).symm.trans hb
      exact ⟨(hP.2.2.2 b o' hb').1, (hP.2.2.2 b o' hb').2.kept (hq b (hP.at hb').lt)⟩
theorem zm_locs {B a k : Nat} {locs : List Loc} (h : ∀ q ∈ locs, B ≤ q.base) (ha : B ≤ a) : ∀ q ∈ locs ++ [⟨a, k⟩], B ≤ q.base := by
  intro q hq
  rcases List.mem_append.mp hq with h1 | h1
  · exact h q h1
  · rw [List.mem_singleton.mp h1]
    exact ha
def zm_tk : Nat → List Value → List Value → List Value × List Value
  | 0, acc, st => (acc, st)
  | k + 1, acc, v :: st => zm_tk k (v :: acc) st
  | _ + 1, acc, [] => (acc, [])
theorem zm_tk_eq : ∀ (k : Nat) (acc st : List Value), (zm_tk k acc st).1 = (st.take k).reverse ++ acc ∧ (zm_tk k acc st).2 = st.drop k
  | 0, acc, st => by simp [zm_tk]
  | k + 1, acc, v :: st => by
    have h := zm_tk_eq k (v :: acc) st
    simp [zm_tk, h.1, h.2]
  | k + 1, acc, [] => by simp [zm_tk]
theorem zm_tk_st {k : Nat} {st As r : List Value} (h : zm_tk k [] st = (As, r)) : st = As.reverse ++ r := by
  have q := zm_tk_eq k [] st
  rw [h] at q
  obtain ⟨q1, q2⟩ := q
  simp only [List.append_nil] at q1
  dsimp only at q1 q2
  rw [q1, q2, List.reverse_reverse, List.take_append_drop]
def zm_call (w : zW) (M' : zM) (As : List Value) (h : zH) (N S : Nat) (r : List Value) (lv : zL) (K : zB) : Prop := ∃ v h', zm_C w M' As h v h' ∧ h'.2.1 ≤ N ∧ h'.2.2 ≤ S ∧ K lv (v.toList ++ r) h'
theorem zm_call.of {w : zW} {M' : zM} {As : List Value} {h : zH} {N S : Nat} {r : List Value} {lv : zL} {K : zB} {v : Option Value} {h' : zH} (hC : zm_C w M' As h v h') (h1 : h'.2.1 ≤ N) (h2 : h'.2.2 ≤ S) (k : K lv (v.toList ++ r) h') : zm_call w M' As h N S r lv K := ⟨v, h', hC, h1, h2, k⟩
def zi_cv (w : zW) (M' : zM) (ci k N S : Nat) (K : zB) (lv : zL) (st : List Value) (h : zH) : Prop := match zm_tk k [] st with
  | (.ref b :: As, r) => As.length + 1 = k ∧ zm_is h b ci ∧ (r.map fun v => v.category).sum ≤ 8 ∧ zm_call w M' (.ref b :: As) h N S r lv K
  | _ => False
def zi_cs (w : zW) (M' : zM) (k N S : Nat) (K : zB) (lv : zL) (st : List Value) (h : zH) : Prop := match zm_tk k [] st with
  | (As, r) => As.length = k ∧ (r.map fun v => v.category).sum ≤ 8 ∧ zm_call w M' As h N S r lv K
def zi_ci (w : zW) (M' : zM) (k N S : Nat) (K : zB) (lv : zL) (st : List Value) (h : zH) : Prop := match zm_tk k [] st with
  | (.ref b :: As, r) => As.length + 1 = k ∧ (r.map fun v => v.category).sum ≤ 8 ∧ zm_call w M' (.ref b :: As) h N S r lv K
  | _ => False
def zi_obj (K : zB) (lv : zL) (st : List Value) (h : zH) : Prop := match st with
  | .ref _ :: r => (r.map fun v => v.category).sum ≤ 8 ∧ K lv r h
  | _ => False
theorem zs_gf {w : zW} {Γ : zC} {M : zM} {N S : Nat} {Rt : zR} (X : zm_X w Γ M N S Rt) {pc : Nat} {K : zB} {ci k idx NN : Nat} {C : String} {T : u_T} (hc : vwCl[ci]? = some (C, T, NN)) (hkN : k < NN) (hin : ∀ q ∈ u_ws C T NN, q ∈ zm_tb) (hlk : Cond.fieldLink M.1.cls idx (T k).1 (T k).2.1 (T k).2.2.1 ∈ zm_tb) (hd : decode M.2.1 pc = .ok (.getfield idx, 3)) (hK : ∀ lv st h, K lv st h → zm_V w Γ (pc + 3) lv st h) : ∀ lv st h, zi_gf ci k K lv st h → zm_V w Γ pc lv st h := by
  intro lv st h hk
  obtain ⟨p, e, R, s, m, args, below, meth, c, h0, Qw, nL⟩ := Γ
  obtain ⟨hx, hb, hml, hnl, hown, hts, hKK, hNw, hfr, hlo, hN, hS, hnm, hrt⟩ := X
  unfold zi_gf at hk
  split at hk
  · rename_i a r
    split at hk
    · rename_i c' fs ha
      obtain ⟨rfl, hk⟩ := hk
      split at hk
      · rename_i v hv
        intro H locs ls cells slots hP hL hl h1 h2
        exact va_get (D := w.2.1) (ws := [(a, .inr (c', fs))]) hx hb hts hin hown hKK (hP.one ha) 0 rfl hc k hkN (hts _ hlk) (fun _ q => q) hv hd (hK _ _ _ hk H locs ls cells slots hP hL hl h1 h2)
      · exact hk.elim
    · exact hk.elim
  · exact hk.elim
theorem zs_gfN {w : zW} {Γ : zC} {M : zM} {N S : Nat} {Rt : zR} (X : zm_X w Γ M N S Rt) {pc : Nat} {K : zB} {host : String} {ci k idx NN : Nat} {C : String} {T : u_T} (hc : vwCl[ci]? = some (C, T, NN)) (hkN : k < NN) (hin : ∀ q ∈ u_ws C T NN, q ∈ zm_tb) (hlk : Cond.fieldLinkNest M.1.cls idx (T k).1 (T k).2.1 (T k).2.2.1 host ∈ zm_nw) (hd : decode M.2.1 pc = .ok (.getfield idx, 3)) (hK : ∀ lv st h, K lv st h → zm_V w Γ (pc + 3) lv st h) : ∀ lv st h, zi_gf ci k K lv st h → zm_V w Γ pc lv st h := by
  intro lv st h hk
  obtain ⟨p, e, R, s, m, args, below, meth, c, h0, Qw, nL⟩ := Γ
  obtain ⟨hx, hb, hml, hnl, hown, hts, hKK, hNw, hfr, hlo, hN, hS, hnm, hrt⟩ := X
  unfold zi_gf at hk
  split at hk
  · rename_i a r
    split at hk
    · rename_i c' fs ha
      obtain ⟨rfl, hk⟩ := hk
      split at hk
      · rename_i v hv
        intro H locs ls cells slots hP hL hl h1 h2
        exact va_getN (D := w.2.1) (ws := [(a, .inr (c', fs))]) hx hb hts hin hown hKK (hP.one ha) 0 rfl hc k hkN (va_Nw.use rfl (hNw _ hlk)) (fun _ q => q) hv hd (hK _ _ _ hk H locs ls cells slots hP hL hl h1 h2)
      · exact hk.elim
    · exact hk.elim
  · exact hk.elim
theorem zs_pf {w : zW} {Γ : zC} {M : zM} {N S : Nat} {Rt : zR} (X : zm_X w Γ M N S Rt) {pc : Nat} {K : zB} {ci k idx NN : Nat} {C : String} {T : u_T} (hc : vwCl[ci]? = some (C, T, NN)) (hkN : k < NN) (hin : ∀ q ∈ u_ws C T NN, q ∈ zm_tb) (hlk : Cond.fieldLink M.1.cls idx (T k).1 (T k).2.1 (T k).2.2.1 ∈ zm_tb) (ty0 : Nat → FieldType) (hty : ∀ k, k < NN → parseFieldDescriptor (T k).2.2.1 = some (ty0 k)) (hnm' : ∀ a, a < NN → ∀ b, b < NN → a ≠ b → (T a).2.1 ≠ (T b).2.1) {ty : FieldType} (hdt : ty0 k = ty) (hfin : (T k).2.2.2 = false) (hd : decode M.2.1 pc = .ok (.putfield idx, 3)) (hK : ∀ lv st h, K lv st h → zm_V w Γ (pc + 3) lv st h) : ∀ lv st h, zi_pf ci k ty K lv st h → zm_V w Γ pc lv st h := by
  intro lv st h hk
  obtain ⟨p, e, R, s, m, args, below, meth, c, h0, Qw, nL⟩ := Γ
  obtain ⟨hx, hb, hml, hnl, hown, hts, hKK, hNw, hfr, hlo, hN, hS, hnm, hrt⟩ := X
  unfold zi_pf at hk
  split at hk
  · rename_i v a r
    split at hk
    · rename_i c' fs ha
      obtain ⟨rfl, ⟨hn, hfit⟩, hl', hk⟩ := hk
      intro H locs ls cells slots hP hL hl h1 h2
      have hap := va_apart (own := C) hts hin ty0 hty hnm' hKK hc
      obtain ⟨hBa, r', g1, cell, q1, q2, q3, q4⟩ := hP.2.2.2 a _ ha
      have hr : r' = (C, T, NN) := Option.some.inj (g1.symm.trans hc)
      subst hr
      obtain ⟨hSl, hfc, kC, hkC, hkind⟩ := hKK.1 _ _ hc
      obtain ⟨cf, kf, fi, f, hi, hsl⟩ := hSl k hkN
      have hlay := hts _ (hin _ (u_in_lay hkN))
      unfold u_lay at hlay
      rw [if_neg (by rw [hfin]; decide)] at hlay
      have hst := (u_facts hfc hkC (u_lays hts hin hkN) hi).1
      have h6 := u_store hfc hkC hkind hlay hi (by rw [hty k hkN, hdt]) hn hfit
      refine W.putK hx hb (f := f) ⟨hown, hts _ hlk, ⟨_, _, _, hi⟩, hst⟩ (by rw [q2]; exact h6) q1 q3 (by rw [hsl]; exact k2_hasslot (q4 k hkN)) rfl rfl hd fun H' e1 e2 e3 => ?_
      rw [hsl] at e1 ⊢
      exact hK _ _ _ hk H' _ ls cells slots (hP.set hBa ⟨_, hc, t_OB.to (V := updV (vp_V fs) k v) ⟨_, e1, q2, q3, t_set q4 hap hkN v⟩ (fun j _ => vp_updV_set hl' v j)⟩ e2 e3) (zm_locs hL hBa) hl h1 h2
    · exact hk.elim
  · exact hk.elim
theorem zs_pfN {w : zW} {Γ : zC} {M : zM} {N S : Nat} {Rt : zR} (X : zm_X w Γ M N S Rt) {pc : Nat} {K : zB} {host : String} {ci k idx NN : Nat} {C : String} {T : u_T} (hc : vwCl[ci]? = some (C, T, NN)) (hkN : k < NN) (hin : ∀ q ∈ u_ws C T NN, q ∈ zm_tb) (hlk : Cond.fieldLinkNest M.1.cls idx (T k).1 (T k).2.1 (T k).2.2.1 host ∈ zm_nw) (ty0 : Nat → FieldType) (hty : ∀ k, k < NN → parseFieldDescriptor (T k).2.2.1 = some (ty0 k)) (hnm' : ∀ a, a < NN → ∀ b, b < NN → a ≠ b → (T a).2.1 ≠ (T b).2.1) {ty : FieldType} (hdt : ty0 k = ty) (hfin : (T k).2.2.2 = false) (hd : decode M.2.1 pc = .ok (.putfield idx, 3)) (hK : ∀ lv st h, K lv st h → zm_V w Γ (pc + 3) lv st h) : ∀ lv st h, zi_pf ci k ty K lv st h → zm_V w Γ pc lv st h := by
  intro lv st h hk
  obtain ⟨p, e, R, s, m, args, below, meth, c, h0, Qw, nL⟩ := Γ
  obtain ⟨hx, hb, hml, hnl, hown, hts, hKK, hNw, hfr, hlo, hN, hS, hnm, hrt⟩ := X
  unfold zi_pf at hk
  split at hk
  · rename_i v a r
    split at hk
    · rename_i c' fs ha
      obtain ⟨rfl, ⟨hn, hfit⟩, hl', hk⟩ := hk
      intro H locs ls cells slots hP hL hl h1 h2
      have hap := va_apart (own := C) hts hin ty0 hty hnm' hKK hc
      obtain ⟨hBa, r', g1, cell, q1, q2, q3, q4⟩ := hP.2.2.2 a _ ha
      have hr : r' = (C, T, NN) := Option.some.inj (g1.symm.trans hc)
      subst hr
      obtain ⟨hSl, hfc, kC, hkC, hkind⟩ := hKK.1 _ _ hc
      obtain ⟨cf, kf, fi, f, hi, hsl⟩ := hSl k hkN
      have hlay := hts _ (hin _ (u_in_lay hkN))
      unfold u_lay at hlay
      rw [if_neg (by rw [hfin]; decide)] at hlay
      have hst := (u_facts hfc hkC (u_lays hts hin hkN) hi).1
      have h6 := u_store hfc hkC hkind hlay hi (by rw [hty k hkN, hdt]) hn hfit
      refine va_WputK hx hb (f := f) hown (va_Nw.use rfl (hNw _ hlk)) hi hst (by rw [q2]; exact h6) q1 q3 (by rw [hsl]; exact k2_hasslot (q4 k hkN)) rfl rfl hd fun H' e1 e2 e3 => ?_
      rw [hsl] at e1 ⊢
      exact hK _ _ _ hk H' _ ls cells slots (hP.set hBa ⟨_, hc, t_OB.to (V := updV (vp_V fs) k v) ⟨_, e1, q2, q3, t_set q4 hap hkN v⟩ (fun j _ => vp_updV_set hl' v j)⟩ e2 e3) (zm_locs hL hBa) hl h1 h2
    · exact hk.elim
  · exact hk.elim
theorem zs_pfF {w : zW} {Γ : zC} {M : zM} {N S : Nat} {Rt : zR} (X : zm_X w Γ M N S Rt) {pc : Nat} {K : zB} {ci k idx NN : Nat} {C : String} {T : u_T} (hc : vwCl[ci]? = some (C, T, NN)) (hkN : k < NN) (hin : ∀ q ∈ u_ws C T NN, q ∈ zm_tb) (hlk : Cond.fieldLink M.1.cls idx (T k).1 (T k).2.1 (T k).2.2.1 ∈ zm_tb) (ty0 : Nat → FieldType) (hty : ∀ k, k < NN → parseFieldDescriptor (T k).2.2.1 = some (ty0 k)) (hnm' : ∀ a, a < NN → ∀ b, b < NN → a ≠ b → (T a).2.1 ≠ (T b).2.1) {ty : FieldType} (hdt : ty0 k = ty) (hfin : (T k).2.2.2 = true) (hin2 : M.1.name = "<init>") (hdecl : (T k).1 = M.1.cls) (hd : decode M.2.1 pc = .ok (.putfield idx, 3)) (hK : ∀ lv st h, K lv st h → zm_V w Γ (pc + 3) lv st h) : ∀ lv st h, zi_pf ci k ty K lv st h → zm_V w Γ pc lv st h := by
  intro lv st h hk
  obtain ⟨p, e, R, s, m, args, below, meth, c, h0, Qw, nL⟩ := Γ
  obtain ⟨hx, hb, hml, hnl, hown, hts, hKK, hNw, hfr, hlo, hN, hS, hnm, hrt⟩ := X
  unfold zi_pf at hk
  split at hk
  · rename_i v a r
    split at hk
    · rename_i c' fs ha
      obtain ⟨rfl, ⟨hn, hfit⟩, hl', hk⟩ := hk
      intro H locs ls cells slots hP hL hl h1 h2
      have hap := va_apart (own := C) hts hin ty0 hty hnm' hKK hc
      obtain ⟨hBa, r', g1, cell, q1, q2, q3, q4⟩ := hP.2.2.2 a _ ha
      have hr : r' = (C, T, NN) := Option.some.inj (g1.symm.trans hc)
      subst hr
      obtain ⟨hSl, hfc, kC, hkC, hkind⟩ := hKK.1 _ _ hc
      obtain ⟨cf, kf, fi, f, hi, hsl⟩ := hSl k hkN
      have hlay := hts _ (hin _ (u_in_lay hkN))
      unfold u_lay at hlay
      rw [if_pos hfin] at hlay
      have hst := (u_facts hfc hkC (u_lays hts hin hkN) hi).1
      have hcf : m.cls = cf := by
        obtain ⟨_, _, c2, _, _, _, -, -, hf', -, -, -, hown2, -⟩ := Cond.laysFinal_spec hlay
        have e1 : c2 = cf := by have := hi.symm.trans hf'; simp at this; exact this.1.symm
        rw [hdecl] at hown2
        rw [← e1]; exact Option.some.inj (hown.symm.trans hown2)
      have h6 := u_fits hfc hkC hkind (Or.inr hlay) hi (by rw [hty k hkN, hdt]) hn hfit
      refine W.putFinK hx hb hown (hts _ hlk) hi hst hcf (hnm.trans hin2) (by rw [q2]; exact h6) q1 q3 (by rw [hsl]; exact k2_hasslot (q4 k hkN)) rfl rfl hd fun H' e1 e2 e3 => ?_
      rw [hsl] at e1 ⊢
      exact hK _ _ _ hk H' _ ls cells slots (hP.set hBa ⟨_, hc, t_OB.to (V := updV (vp_V fs) k v) ⟨_, e1, q2, q3, t_set q4 hap hkN v⟩ (fun j _ => vp_updV_set hl' v j)⟩ e2 e3) (zm_locs hL hBa) hl h1 h2
    · exact hk.elim
  · exact hk.elim
theorem zs_iald {w : zW} {Γ : zC} {M : zM} {N S : Nat} {Rt : zR} (X : zm_X w Γ M N S Rt) {pc : Nat} {K : zB} {t : Nat} (ht : ∀ dA : Nat → ClassId, (zm_tys dA)[t]? = some (dA t, .int)) (hd : decode M.2.1 pc = .ok (.iaload, 1)) (hK : ∀ lv st h, K lv st h → zm_V w Γ (pc + 1) lv st h) : ∀ lv st h, zi_ia t K lv st h → zm_V w Γ pc lv st h := by
  intro lv st h hk
  obtain ⟨p, e, R, s, m, args, below, meth, c, h0, Qw, nL⟩ := Γ
  obtain ⟨hx, hb, hml, hnl, hown, hts, hKK, hNw, hfr, hlo, hN, hS, hnm, hrt⟩ := X
  unfold zi_ia at hk
  split at hk
  · rename_i i a r
    split at hk
    · rename_i t' n f ha
      obtain ⟨rfl, hin, hk⟩ := hk
      intro H locs ls cells slots hP hL hl h1 h2
      exact va_iald (D := w.2.1) (ws := [(a, .inl (w.2.2.1 t', n, .inl f))]) hx hb hKK (hP.one ha) 0 t' rfl (ht _) hin hd (hK _ _ _ hk H locs ls cells slots hP hL hl h1 h2)
    · exact hk.elim
  · exact hk.elim
theorem zs_lald {w : zW} {Γ : zC} {M : zM} {N S : Nat} {Rt : zR} (X : zm_X w Γ M N S Rt) {pc : Nat} {K : zB} {t : Nat} (ht : ∀ dA : Nat → ClassId, (zm_tys dA)[t]? = some (dA t, .long)) (hd : decode M.2.1 pc = .ok (.laload, 1)) (hK : ∀ lv st h, K lv st h → zm_V w Γ (pc + 1) lv st h) : ∀ lv st h, zi_la t K lv st h → zm_V w Γ pc lv st h := by
  intro lv st h hk
  obtain ⟨p, e, R, s, m, args, below, meth, c, h0, Qw, nL⟩ := Γ
  obtain ⟨hx, hb, hml, hnl, hown, hts, hKK, hNw, hfr, hlo, hN, hS, hnm, hrt⟩ := X
  unfold zi_la at hk
  split at hk
  · rename_i i a r
    split at hk
    · rename_i t' n f ha
      obtain ⟨rfl, hin, hk⟩ := hk
      intro H locs ls cells slots hP hL hl h1 h2
      exact va_lald (D := w.2.1) (ws := [(a, .inl (w.2.2.1 t', n, .inr (.inl f)))]) hx hb hKK (hP.one ha) 0 t' rfl (ht _) hin hd (hK _ _ _ hk H locs ls cells slots hP hL hl h1 h2)
    · exact hk.elim
  · exact hk.elim
theorem zs_aald {w : zW} {Γ : zC} {M : zM} {N S : Nat} {Rt : zR} (X : zm_X w Γ M N S Rt) {pc : Nat} {K : zB} {t : Nat} {C : String} (ht : ∀ dA : Nat → ClassId, (zm_tys dA)[t]? = some (dA t, .object C)) (hd : decode M.2.1 pc = .ok (.aaload, 1)) (hK : ∀ lv st h, K lv st h → zm_V w Γ (pc + 1) lv st h) : ∀ lv st h, zi_aa t K lv st h → zm_V w Γ pc lv st h := by
  intro lv st h hk
  obtain ⟨p, e, R, s, m, args, below, meth, c, h0, Qw, nL⟩ := Γ
  obtain ⟨hx, hb, hml, hnl, hown, hts, hKK, hNw, hfr, hlo, hN, hS, hnm, hrt⟩ := X
  unfold zi_aa at hk
  split at hk
  · rename_i i a r
    split at hk
    · rename_i t' n f ha
      obtain ⟨rfl, hin, hk⟩ := hk
      intro H locs ls cells slots hP hL hl h1 h2
      exact va_aldq (D := w.2.1) (ws := [(a, .inl (w.2.2.1 t', n, .inr (.inr (.inr (.inr f)))))]) hx hb hKK (hP.one ha) 0 t' rfl (ht _) hin hd (hK _ _ _ hk H locs ls cells slots hP hL hl h1 h2)
    · exact hk.elim
  · exact hk.elim
theorem zs_iast {w : zW} {Γ : zC} {M : zM} {N S : Nat} {Rt : zR} (X : zm_X w Γ M N S Rt) {pc : Nat} {K : zB} {t : Nat} (ht : ∀ dA : Nat → ClassId, (zm_tys dA)[t]? = some (dA t, .int)) (hd : decode M.2.1 pc = .ok (.iastore, 1)) (hK : ∀ lv st h, K lv st h → zm_V w Γ (pc + 1) lv st h) : ∀ lv st h, zi_is t K lv st h → zm_V w Γ pc lv st h := by
  intro lv st h hk
  obtain ⟨p, e, R, s, m, args, below, meth, c, h0, Qw, nL⟩ := Γ
  obtain ⟨hx, hb, hml, hnl, hown, hts, hKK, hNw, hfr, hlo, hN, hS, hnm, hrt⟩ := X
  unfold zi_is at hk
  split at hk
  · rename_i x i a r
    split at hk
    · rename_i t' n f ha
      obtain ⟨rfl, hin, hk⟩ := hk
      intro H locs ls cells slots hP hL hl h1 h2
      have hBa := (hP.2.2.2 a _ ha).1
      refine W.iast hx hb (hP.at ha) ((hKK.2 t' _ (ht _)).1 n (fun j => .int (f j))) (fun q => by cases q) (by show ¬ (i < 0 ∨ (arrV _ _ _).slots.size ≤ _); rw [arrV_size]; exact hin) rfl rfl hd fun H1 e z oq => ?_
      refine hK _ _ _ hk H1 _ ls cells slots (hP.set hBa ?_ z oq) (zm_locs hL hBa) hl h1 h2
      show H1[a]? = some (vp_cell _ _)
      rw [e]
      rw [vp_cell_i, vp_cell_i, arrV_store]
      congr 2
      funext q
      by_cases hq : q = i.toNatClampNeg
      · subst hq
        simp [updV, upd]
      · simp [updV, upd, hq]
    · exact hk.elim
  · exact hk.elim
theorem zs_last {w : zW} {Γ : zC} {M : zM} {N S : Nat} {Rt : zR} (X : zm_X w Γ M N S Rt) {pc : Nat} {K : zB} {t : Nat} (ht : ∀ dA : Nat → ClassId, (zm_tys dA)[t]? = some (dA t, .long)) (hd : decode M.2.1 pc = .ok (.lastore, 1)) (hK : ∀ lv st h, K lv st h → zm_V w Γ (pc + 1) lv st h) : ∀ lv st h, zi_lst t K lv st h → zm_V w Γ pc lv st h := by
  intro lv st h hk
  obtain ⟨p, e, R, s, m, args, below, meth, c, h0, Qw, nL⟩ := Γ
  obtain ⟨hx, hb, hml, hnl, hown, hts, hKK, hNw, hfr, hlo, hN, hS, hnm, hrt⟩ := X
  unfold zi_lst at hk
  split at hk
  · rename_i x i a r
    split at hk
    · rename_i t' n f ha
      obtain ⟨rfl, hin, hk⟩ := hk
      intro H locs ls cells slots hP hL hl h1 h2
      have hBa := (hP.2.2.2 a _ ha).1
      refine W.last hx hb (hP.at ha) ((hKK.2 t' _ (ht _)).1 n (fun j => .long (f j))) (fun q => by cases q) (by show ¬ (i < 0 ∨ (arrV _ _ _).slots.size ≤ _); rw [arrV_size]; exact hin) rfl rfl hd fun H1 e z oq => ?_
      refine hK _ _ _ hk H1 _ ls cells slots (hP.set hBa ?_ z oq) (zm_locs hL hBa) hl h1 h2
      show H1[a]? = some (vp_cell _ _)
      rw [e]
      rw [vp_cell_l, vp_cell_l, arrV_store]
      congr 2
      funext q
      by_cases hq : q = i.toNatClampNeg
      · subst hq
        simp [updV, vp_updL]
      · simp [updV, vp_updL, hq]
    · exact hk.elim
  · exact hk.elim
theorem zs_aast {w : zW} {Γ : zC} {M : zM} {N S : Nat} {Rt : zR} (X : zm_X w Γ M N S Rt) {pc : Nat} {K : zB} {t ci NN : Nat} {C : String} {T : u_T} (hc : vwCl[ci]? = some (C, T, NN)) (ht : ∀ dA : Nat → ClassId, (zm_tys dA)[t]? = some (dA t, .object C)) (hd : decode M.2.1 pc = .ok (.aastore, 1)) (hK : ∀ lv st h, K lv st h → zm_V w Γ (pc + 1) lv st h) : ∀ lv st h, zi_as t ci K lv st h → zm_V w Γ pc lv st h := by
  intro lv st h hk
  obtain ⟨p, e, R, s, m, args, below, meth, c, h0, Qw, nL⟩ := Γ
  obtain ⟨hx, hb, hml, hnl, hown, hts, hKK, hNw, hfr, hlo, hN, hS, hnm, hrt⟩ := X
  unfold zi_as at hk
  split at hk
  · rename_i v i a r
    split at hk
    · rename_i t' n f ha
      obtain ⟨rfl, hin, hvi, hk⟩ := hk
      obtain ⟨fs, hv⟩ := hvi.of
      intro H locs ls cells slots hP hL hl h1 h2
      have hBa := (hP.2.2.2 a _ ha).1
      have hlt : i.toNatClampNeg < n := Nat.not_le.mp fun q => hin (Or.inr q)
      have h0' : ¬ i < 0 := fun q => hin (Or.inl q)
      obtain ⟨r', hr', cellV, g1, g2, g3, -⟩ := hP.at hv
      have hcls := (hKK.1 ci _ hc).2
      obtain ⟨kA, comp, k1, k2, k3, -⟩ := (hKK.2 t' _ (ht _)).2
      have hcomp : comp = w.2.1.1 ci := Option.some.inj (k3.symm.trans hcls.1)
      subst hcomp
      obtain ⟨kC, hkC, -⟩ := hcls.2
      refine W.aast hx hb (hP.at ha) (fun q h => by cases h) (fun h => by cases h) k1 k2 rfl hkC ⟨h0', by show _ < (arrV _ _ _).slots.size; rw [arrV_size]; exact hlt⟩ g1 (fun q h => by rw [g3] at h; cases h) (by rw [g2]; exact hkC) (by rw [g2]; exact va_assign hcls) rfl rfl hd fun H1 e z oq => ?_
      refine hK _ _ _ hk H1 _ ls cells slots (hP.set hBa ?_ z oq) (zm_locs hL hBa) hl h1 h2
      show H1[a]? = some (vp_cell _ _)
      rw [e]
      rw [vp_cell_q, vp_cell_q, arrV_store]
      congr 2
      funext q
      by_cases hq : q = i.toNatClampNeg
      · subst hq
        simp [updV, va_up, va_rf]
      · simp [updV, va_up, hq]
    · exact hk.elim
  · exact hk.elim
theorem zs_alen {w : zW} {Γ : zC} {M : zM} {N S : Nat} {Rt : zR} (X : zm_X w Γ M N S Rt) {pc : Nat} {K : zB} {t : Nat} {ty : FieldType} (ht : ∀ dA : Nat → ClassId, (zm_tys dA)[t]? = some (dA t, ty)) (hd : decode M.2.1 pc = .ok (.arraylength, 1)) (hK : ∀ lv st h, K lv st h → zm_V w Γ (pc + 1) lv st h) : ∀ lv st h, zi_len t K lv st h → zm_V w Γ pc lv st h := by
  intro lv st h hk
  obtain ⟨p, e, R, s, m, args, below, meth, c, h0, Qw, nL⟩ := Γ
  obtain ⟨hx, hb, hml, hnl, hown, hts, hKK, hNw, hfr, hlo, hN, hS, hnm, hrt⟩ := X
  unfold zi_len at hk
  split at hk
  · rename_i a r
    split at hk
    · rename_i t' x ha
      obtain ⟨rfl, hk⟩ := hk
      intro H locs ls cells slots hP hL hl h1 h2
      exact va_alen (D := w.2.1) (ws := [(a, .inl (w.2.2.1 t', x))]) hx hb hKK (hP.one ha) 0 t' rfl (ht _) rfl hd (hK _ _ _ hk H locs ls cells slots hP hL hl h1 h2)
    · exact hk.elim
  · exact hk.elim
theorem zs_new {w : zW} {Γ : zC} {M : zM} {N S : Nat} {Rt : zR} (X : zm_X w Γ M N S Rt) {pc : Nat} {K : zB} {ci nf idx : Nat} {fs : List Value} {C : String} {T : u_T} (hc : vwCl[ci]? = some (C, T, nf)) (hin : ∀ q ∈ u_ws C T nf, q ∈ zm_tb) (ty0 : Nat → FieldType) (hty : ∀ k, k < nf → parseFieldDescriptor (T k).2.2.1 = some (ty0 k)) (hfs : ∀ j, j < nf → defaultValue (ty0 j) = vp_V fs j) (w1 : Cond.classLink M.1.cls idx C ∈ zm_tb) (w2 : Cond.instantiable C nf ∈ zm_tb) (w3 : Cond.initialized C ∈ zm_tb) (hd : decode M.2.1 pc = .ok (.new idx, 3)) (hK : ∀ lv st h, K lv st h → zm_V w Γ (pc + 3) lv st h) : ∀ lv st h, zi_new N S ci nf fs K lv st h → zm_V w Γ pc lv st h := by
  intro lv st h hk
  obtain ⟨p, e, R, s, m, args, below, meth, c, h0, Qw, nL⟩ := Γ
  obtain ⟨hx, hb, hml, hnl, hown, hts, hKK, hNw, hfr, hlo, hN, hS, hnm, hrt⟩ := X
  obtain ⟨b1, b2, hk⟩ := hk
  intro H locs ls cells slots hP hL hl h1 h2
  have hKn := hKK.1 ci _ hc
  have hsz := hP.1
  refine W.newcK hx hb hown (hts _ w1) (hts _ w2) (hts _ w3) rfl hd (by omega) (by omega) hKn.2.1 hsz fun H1 kC hkC e1 z1 o1 => ?_
  refine hK _ _ _ hk H1 locs ls (cells + 1) (slots + nf) (hP.push (o := .inr (ci, fs)) ?_ (by rw [z1, hsz]) (fun q hq => o1 q (by rw [← hsz]; exact hq))) hL hl (by show h.2.1 + 1 = _; omega) (by show h.2.2 + nf = _; omega)
  rw [hsz]
  exact ⟨_, hc, (u_born ty0 hts hin hKn hkC e1 hty).to hfs⟩
theorem zs_newa {w : zW} {Γ : zC} {M : zM} {N S : Nat} {Rt : zR} (X : zm_X w Γ M N S Rt) {pc : Nat} {K : zB} {t : Nat} {atype : ArrayType} {d : (Nat → Int32) ⊕ (Nat → Int64) ⊕ (Nat → UInt32) ⊕ (Nat → UInt64) ⊕ (Nat → Option Nat)} (ht : ∀ dA : Nat → ClassId, (zm_tys dA)[t]? = some (dA t, newarray.typeOf atype)) (hz : ∀ (cA : ClassId) (n : Nat), vp_cell cA (n, d) = arrV cA n (fun _ => defaultValue (newarray.typeOf atype))) (hcb : componentBytes (newarray.typeOf atype) ≤ 8) (hnr : ∀ C, newarray.typeOf atype ≠ .object C) (w1 : Cond.arrayClass (newarray.typeOf atype) ∈ zm_tb) (hd : decode M.2.1 pc = .ok (.newarray atype, 2)) (hK : ∀ lv st h, K lv st h → zm_V w Γ (pc + 2) lv st h) : ∀ lv st h, zi_na N S t d K lv st h → zm_V w Γ pc lv st h := by
  intro lv st h hk
  obtain ⟨p, e, R, s, m, args, below, meth, c, h0, Qw, nL⟩ := Γ
  obtain ⟨hx, hb, hml, hnl, hown, hts, hKK, hNw, hfr, hlo, hN, hS, hnm, hrt⟩ := X
  unfold zi_na at hk
  split at hk
  · rename_i n r
    obtain ⟨a1, a2, b1, b2, hk⟩ := hk
    intro H locs ls cells slots hP hL hl h1 h2
    have hsz := hP.1
    refine va_newaK hx hb (hts _ w1) rfl hd rfl a1 rfl (Nat.le_trans (Nat.mul_le_mul a2 hcb) (by decide)) (by omega) (by omega) hsz fun H1 cA e1 z1 o1 hAr hNm => ?_
    have hcA : cA = w.2.2.1 t := by
      have g := (hKK.2 t _ (ht _)).2
      generalize hT : newarray.typeOf atype = T at *
      cases T with
      | object C => exact absurd rfl (hnr C)
      | _ => exact Option.some.inj (hNm.symm.trans g)
    subst hcA
    refine hK _ _ _ hk H1 locs ls (cells + 1) (slots + n.toNatClampNeg) (hP.push (o := .inl (t, n.toNatClampNeg, d)) ?_ (by rw [z1, hsz]) (fun q hq => o1 q (by rw [← hsz]; exact hq))) hL hl (by show h.2.1 + 1 = _; omega) (by show h.2.2 + n.toNatClampNeg = _; omega)
    rw [hsz]
    show H1[h.2.1]? = some (vp_cell _ _)
    rw [hz]
    exact e1
  · exact hk.elim
theorem zs_anew {w : zW} {Γ : zC} {M : zM} {N S : Nat} {Rt : zR} (X : zm_X w Γ M N S Rt) {pc : Nat} {K : zB} {t idx : Nat} {C : String} (ht : ∀ dA : Nat → ClassId, (zm_tys dA)[t]? = some (dA t, .object C)) (w1 : Cond.classLink M.1.cls idx C ∈ zm_tb) (w2 : Cond.arrayOver (.object C) ∈ zm_nw) (hd : decode M.2.1 pc = .ok (.anewarray idx, 3)) (hK : ∀ lv st h, K lv st h → zm_V w Γ (pc + 3) lv st h) : ∀ lv st h, zi_na N S t (.inr (.inr (.inr (.inr (fun _ => none))))) K lv st h → zm_V w Γ pc lv st h := by
  intro lv st h hk
  obtain ⟨p, e, R, s, m, args, below, meth, c, h0, Qw, nL⟩ := Γ
  obtain ⟨hx, hb, hml, hnl, hown, hts, hKK, hNw, hfr, hlo, hN, hS, hnm, hrt⟩ := X
  unfold zi_na at hk
  split at hk
  · rename_i n r
    obtain ⟨a1, a2, b1, b2, hk⟩ := hk
    intro H locs ls cells slots hP hL hl h1 h2
    have hsz := hP.1
    refine W.anew hx hb hown (hts _ w1) (va_AO.use (hNw _ w2)) rfl hd rfl a1 (by omega) (by omega) (by omega) fun cA kA comp f1 f2 f3 f4 => ?_
    have hcA : cA = w.2.2.1 t := by
      obtain ⟨kA', comp', k1, k2, k3, k4⟩ := (hKK.2 t _ (ht _)).2
      exact Option.some.inj (f1.symm.trans k4)
    subst hcA
    generalize hH1 : H.push ({ cls := w.2.2.1 t, slots := Array.replicate n.toNatClampNeg .null, vm := .none } : Cell) = H1
    have z1 : H1.size = H.size + 1 := by rw [← hH1, Array.size_push]
    have e1 : H1[H.size]? = some (arrV (w.2.2.1 t) n.toNatClampNeg (fun _ => .null)) := by rw [← hH1, Array.getElem?_push_size, ← arrV_new]
    have o1 : ∀ q : Nat, q < H.size → H1[q]? = H[q]? := fun q hq => by rw [← hH1, Array.getElem?_push, if_neg (Nat.ne_of_lt hq)]
    have hk' := hK _ _ _ hk H1 locs ls (cells + 1) (slots + n.toNatClampNeg) (hP.push (o := .inl (t, n.toNatClampNeg, .inr (.inr (.inr (.inr (fun _ => none)))))) (by
      show H1[H.size]? = some (vp_cell _ _)
      rw [vp_cell_q]
      exact e1) z1 o1) hL hl (by show h.2.1 + 1 = _; omega) (by show h.2.2 + n.toNatClampNeg = _; omega)
    rw [← hsz] at hk'
    exact hk'
  · exact hk.elim
theorem zs_mx {w : zW} {Γ : zC} {M : zM} {N S : Nat} {Rt : zR} (X : zm_X w Γ M N S Rt) {pc : Nat} {K : zB} {idx : Nat} (hlo9 : 1 ≤ M.2.2.2.2.1 ∧ 21 ≤ M.2.2.2.2.2) (hNc : True) (w1 : Cond.methodLink M.1.cls idx Lib.Math.max.name ∈ zm_tb) (w2 : Cond.static Lib.Math.max.name ∈ zm_tb) (w3 : Cond.initialized "java/lang/Math" ∈ zm_tb) (w4 : Cond.code Lib.Math.max.name Lib.Math.max.code 2 (some .int) ∈ zm_tb) (hd : decode M.2.1 pc = .ok (.invokestatic idx, 3)) (hK : ∀ lv st h, K lv st h → zm_V w Γ (pc + 3) lv st h) : ∀ lv st h, zi_mx N S K lv st h → zm_V w Γ pc lv st h := by
  intro lv st h hk
  obtain ⟨p, e, R, s, m, args, below, meth, c, h0, Qw, nL⟩ := Γ
  obtain ⟨hx, hb, hml, hnl, hown, hts, hKK, hNw, hfr, hlo, hN, hS, hnm, hrt⟩ := X
  unfold zi_mx at hk
  split at hk
  · obtain ⟨a1, a2, a3, hk⟩ := hk
    intro H locs ls cells slots hP hL hl h1 h2
    exact va_mmax hx hb (by rw [hml, ← hnl]; exact hl.1.symm) hown (hts _ w1) (hts _ w2) (hts _ w3) (hts _ w4) (by omega) (by omega) (by omega) (by omega) hd (hK _ _ _ hk H locs ls cells slots hP hL hl h1 h2)
  · exact hk.elim
theorem zs_mn {w : zW} {Γ : zC} {M : zM} {N S : Nat} {Rt : zR} (X : zm_X w Γ M N S Rt) {pc : Nat} {K : zB} {idx : Nat} (hlo9 : 1 ≤ M.2.2.2.2.1 ∧ 21 ≤ M.2.2.2.2.2) (hNc : True) (w1 : Cond.methodLink M.1.cls idx Lib.Math.min.name ∈ zm_tb) (w2 : Cond.static Lib.Math.min.name ∈ zm_tb) (w3 : Cond.initialized "java/lang/Math" ∈ zm_tb) (w4 : Cond.code Lib.Math.min.name Lib.Math.min.code 2 (some .int) ∈ zm_tb) (hd : decode M.2.1 pc = .ok (.invokestatic idx, 3)) (hK : ∀ lv st h, K lv st h → zm_V w Γ (pc + 3) lv st h) : ∀ lv st h, zi_mn N S K lv st h → zm_V w Γ pc lv st h := by
  intro lv st h hk
  obtain ⟨p, e, R, s, m, args, below, meth, c, h0, Qw, nL⟩ := Γ
  obtain ⟨hx, hb, hml, hnl, hown, hts, hKK, hNw, hfr, hlo, hN, hS, hnm, hrt⟩ := X
  unfold zi_mn at hk
  split at hk
  · obtain ⟨a1, a2, a3, hk⟩ := hk
    intro H locs ls cells slots hP hL hl h1 h2
    exact va_mmin hx hb (by rw [hml, ← hnl]; exact hl.1.symm) hown (hts _ w1) (hts _ w2) (hts _ w3) (hts _ w4) (by omega) (by omega) (by omega) (by omega) hd (hK _ _ _ hk H locs ls cells slots hP hL hl h1 h2)
  · exact hk.elim
theorem zs_obj {w : zW} {Γ : zC} {M : zM} {N S : Nat} {Rt : zR} (X : zm_X w Γ M N S Rt) {pc : Nat} {K : zB} {idx : Nat} (hlo9 : 1 ≤ M.2.2.2.2.1 ∧ 20 ≤ M.2.2.2.2.2) (w1 : Cond.methodLink M.1.cls idx objectInit ∈ zm_tb) (w2 : Cond.instanceMethod objectInit ∈ zm_tb) (w3 : Cond.code objectInit ⟨#[0xb1]⟩ 1 none ∈ zm_tb) (hd : decode M.2.1 pc = .ok (.invokespecial idx, 3)) (hK : ∀ lv st h, K lv st h → zm_V w Γ (pc + 3) lv st h) : ∀ lv st h, zi_obj K lv st h → zm_V w Γ pc lv st h := by
  intro lv st h hk
  obtain ⟨p, e, R, s, m, args, below, meth, c, h0, Qw, nL⟩ := Γ
  obtain ⟨hx, hb, hml, hnl, hown, hts, hKK, hNw, hfr, hlo, hN, hS, hnm, hrt⟩ := X
  unfold zi_obj at hk
  split at hk
  · rename_i b r
    obtain ⟨a1, hk⟩ := hk
    intro H locs ls cells slots hP hL hl h1 h2
    exact W.objInit hx hb hown (hts _ w1) (hts _ w2) (hts _ w3) rfl (by rw [hml, ← hnl]; exact hl.1) (rest := r) rfl hd (by omega) (by show 2 * 0 + _ + 12 ≤ _; omega) (hK _ _ _ hk H locs ls cells slots hP hL hl h1 h2)
  · exact hk.elim
theorem zm_go {w : zW} {p : Program} {e : Env} {R : Room} {s : State} {m : MethodId} {args : Array Value} {below : List Frame} {meth : Method} {c : Code} {h0 : zH} {Qw : State → Prop} {nL : Nat} {H : Heap} {locs : List Loc} {cells slots mc ms pc : Nat} {ls : Array Slot} {st0 rest : List Value} {r : Option Value} {h' : zH} {a : Array Value} {lv : zL}
    (hr : va_Run p w.1 e R s m args below meth c H locs cells slots mc ms (F0 m pc ls st0) rest (zm_Q w r h' a) (fun q => w.2.2.2.1 ≤ q)) (hL : ∀ q ∈ locs, w.2.2.2.1 ≤ q.base) (hl : zm_lv ls nL lv) (e1 : h'.2.1 = h0.2.1 + (cells + mc)) (e2 : h'.2.2 = h0.2.2 + (slots + ms))
    (kk : zm_V w (p, e, R, s, m, args, below, meth, c, h0, Qw, nL) (pc + 3) lv (r.toList ++ rest) h') : W p w.1 e R s m args below meth c H locs cells slots Qw (F0 m pc ls st0) := by
  intro T hT XX
  obtain ⟨v, st₀, t, T', L, -, X', hL', e1', -, ⟨hv, hPt⟩, st⟩ := hr T hT XX
  cases hv
  obtain ⟨t2, a1, b1⟩ := kk T'.heap (locs ++ L) ls (cells + mc) (slots + ms) (by rw [e1']; exact hPt) (fun q hq => by
    rcases List.mem_append.mp hq with h | h
    · exact hL q h
    · exact hL' q h) hl e1 e2 T' rfl X'
  exact ⟨t2, st t2 a1, b1⟩
theorem zm_blind {w : zW} {h : zH} {As : List Value} : FrameBlind (va_Pc As (zm_U w h)) := fun a U g mk q => by
  obtain ⟨q0, q1, q2, q3⟩ := q
  exact ⟨q0, q1, va_K.moved (u := U) (U := U.calling g mk a) (Vm.Alike.refl U.vm) q2, zm_nwC q3 rfl⟩
theorem zm_gi {M : zM} (h : Cond.code M.1 M.2.1 M.2.2.1 M.2.2.2.1 ∈ zm_tb) : GoodIn zm_tb (zm_ws M) := by
  intro x hx
  rcases List.mem_cons.mp hx with rfl | hx
  · exact ⟨h, zm_good _ h⟩
  · exact ⟨hx, zm_good _ hx⟩
theorem zm_Uat {w : zW} {h : zH} {H : Heap} {s U : State} (hP : zm_P w h H) (hKK : va_K w.2.1 vwCl (zm_tys w.2.2.1) s) (hNw : ∀ q ∈ zm_nw, va_Nw q s) (hU : U.heap = H) (hW : s.WarmedH U.vm) : zm_U w h U := ⟨by rw [hU]; exact hP, va_K.moved hW.alike hKK, zm_nwW hNw hW⟩
theorem zs_cv {w : zW} {Γ : zC} {M : zM} {N S : Nat} {Rt : zR} (X : zm_X w Γ M N S Rt) {pc : Nat} {K : zB} {M' : zM} {n idx : Nat} (hcd : Cond.code M'.1 M'.2.1 M'.2.2.1 M'.2.2.2.1 ∈ zm_tb) (w4 : Cond.initialized M'.1.cls ∈ zm_tb) (hy : M'.1.cls ≠ "java/lang/invoke/MethodHandle" ∧ M'.1.cls ≠ "java/lang/invoke/VarHandle" ∧ (parseMethodDescriptor M'.1.desc).map (fun d => d.parameters.length) = some n) (hR : M'.2.2.2.2.1 + 1 ≤ M.2.2.2.2.1 ∧ 8 + (M'.2.2.1 + 11) + M'.2.2.2.2.2 ≤ M.2.2.2.2.2) (w1 : Cond.methodLink M.1.cls idx M'.1 ∈ zm_tb) {ci NN : Nat} {C : String} {T : u_T} (hc : vwCl[ci]? = some (C, T, NN)) (w2 : Cond.instanceMethod M'.1 ∈ zm_tb) (w3 : Cond.selects C M'.1 M'.1 ∈ zm_tb) (hd : decode M.2.1 pc = .ok (.invokevirtual idx, 3)) (hK : ∀ lv st h, K lv st h → zm_V w Γ (pc + 3) lv st h) : ∀ lv st h, zi_cv w M' ci (n + 1) N S K lv st h → zm_V w Γ pc lv st h := by
  intro lv st h hk
  obtain ⟨p, e, R, s, m, args, below, meth, c, h0, Qw, nL⟩ := Γ
  obtain ⟨hx, hb, hml, hnl, hown, hts, hKK, hNw, hfr, hlo, hN, hS, hnm, hrt⟩ := X
  unfold zi_cv at hk
  split at hk
  · rename_i b As r htk
    obtain ⟨hlen, hob, hcat, v, h', ⟨mc, ms, e1, e2, hM⟩, b1, b2, hk⟩ := hk
    intro H locs ls cells slots hP hL hl h1 h2
    have hst := zm_tk_st htk
    have hR2 : M'.2.2.2.2.1 + 1 ≤ R.frames ∧ 8 + (M'.2.2.1 + 11) + M'.2.2.2.2.2 ≤ R.locals := by omega
    refine zm_go (h' := h') (va_runV (As := As) (rest := r) ⟨hx, hb, hml, hown, hts⟩ hM ⟨callB_of (ws' := zm_tb) n hts (zm_gi hcd) rfl rfl rfl (hts _ w4) (hts _ w1) hy hR2, hts _ w2, hts _ w3⟩ ⟨zm_blind, (hob.of.elim fun fs hf => va_recv hKK (hP.one hf) (ci := ci) (q0 := 0) hc rfl), fun U hU hW => ⟨rfl, zm_Uat hP hKK hNw hU hW⟩⟩ rfl (by omega) (hl.1.trans hnl) (by rw [show (F0 m pc ls st).stack = st from rfl, hst]; simp) (lv_room hcat) hd ⟨by omega, by omega⟩) hL hl (by omega) (by omega) (hK _ _ _ hk)
  · exact hk.elim
theorem zs_cvN {w : zW} {Γ : zC} {M : zM} {N S : Nat} {Rt : zR} (X : zm_X w Γ M N S Rt) {pc : Nat} {K : zB} {M' : zM} {n idx : Nat} (hcd : Cond.code M'.1 M'.2.1 M'.2.2.1 M'.2.2.2.1 ∈ zm_tb) (w4 : Cond.initialized M'.1.cls ∈ zm_tb) (hy : M'.1.cls ≠ "java/lang/invoke/MethodHandle" ∧ M'.1.cls ≠ "java/lang/invoke/VarHandle" ∧ (parseMethodDescriptor M'.1.desc).map (fun d => d.parameters.length) = some n) (hR : M'.2.2.2.2.1 + 1 ≤ M.2.2.2.2.1 ∧ 8 + (M'.2.2.1 + 11) + M'.2.2.2.2.2 ≤ M.2.2.2.2.2) {host : String} (w1 : Cond.methodLinkNest M.1.cls idx M'.1 host ∈ zm_nw) {ci NN : Nat} {C : String} {T : u_T} (hc : vwCl[ci]? = some (C, T, NN)) (w2 : Cond.instanceMethod M'.1 ∈ zm_tb) (w3 : Cond.selects C M'.1 M'.1 ∈ zm_tb) (hd : decode M.2.1 pc = .ok (.invokevirtual idx, 3)) (hK : ∀ lv st h, K lv st h → zm_V w Γ (pc + 3) lv st h) : ∀ lv st h, zi_cv w M' ci (n + 1) N S K lv st h → zm_V w Γ pc lv st h := by
  intro lv st h hk
  obtain ⟨p, e, R, s, m, args, below, meth, c, h0, Qw, nL⟩ := Γ
  obtain ⟨hx, hb, hml, hnl, hown, hts, hKK, hNw, hfr, hlo, hN, hS, hnm, hrt⟩ := X
  unfold zi_cv at hk
  split at hk
  · rename_i b As r htk
    obtain ⟨hlen, hob, hcat, v, h', ⟨mc, ms, e1, e2, hM⟩, b1, b2, hk⟩ := hk
    intro H locs ls cells slots hP hL hl h1 h2
    have hst := zm_tk_st htk
    have hR2 : M'.2.2.2.2.1 + 1 ≤ R.frames ∧ 8 + (M'.2.2.1 + 11) + M'.2.2.2.2.2 ≤ R.locals := by omega
    refine zm_go (h' := h') (va_runVN (As := As) (rest := r) ⟨hx, hb, hml, hown, hts⟩ hM ⟨va_cnB (ws' := zm_tb) n hts (zm_gi hcd) rfl rfl rfl (hNw _ w1) (hts _ w4) hy hR2, hts _ w2, hts _ w3⟩ ⟨zm_blind, (hob.of.elim fun fs hf => va_recv hKK (hP.one hf) (ci := ci) (q0 := 0) hc rfl), fun U hU hW => ⟨rfl, zm_Uat hP hKK hNw hU hW⟩⟩ rfl (by omega) (hl.1.trans hnl) (by rw [show (F0 m pc ls st).stack = st from rfl, hst]; simp) (lv_room hcat) hd ⟨by omega, by omega⟩) hL hl (by omega) (by omega) (hK _ _ _ hk)
  · exact hk.elim
theorem zs_ci {w : zW} {Γ : zC} {M : zM} {N S : Nat} {Rt : zR} (X : zm_X w Γ M N S Rt) {pc : Nat} {K : zB} {M' : zM} {n idx : Nat} (hcd : Cond.code M'.1 M'.2.1 M'.2.2.1 M'.2.2.2.1 ∈ zm_tb) (w4 : Cond.initialized M'.1.cls ∈ zm_tb) (hy : M'.1.cls ≠ "java/lang/invoke/MethodHandle" ∧ M'.1.cls ≠ "java/lang/invoke/VarHandle" ∧ (parseMethodDescriptor M'.1.desc).map (fun d => d.parameters.length) = some n) (hR : M'.2.2.2.2.1 + 1 ≤ M.2.2.2.2.1 ∧ 8 + (M'.2.2.1 + 11) + M'.2.2.2.2.2 ≤ M.2.2.2.2.2) (w1 : Cond.methodLink M.1.cls idx M'.1 ∈ zm_tb) (w2 : Cond.instanceMethod M'.1 ∈ zm_tb) (hy1 : M'.1.name = "<init>") (hy2 : M'.2.2.2.1 = none) (hd : decode M.2.1 pc = .ok (.invokespecial idx, 3)) (hK : ∀ lv st h, K lv st h → zm_V w Γ (pc + 3) lv st h) : ∀ lv st h, zi_ci w M' (n + 1) N S K lv st h → zm_V w Γ pc lv st h := by
  intro lv st h hk
  obtain ⟨p, e, R, s, m, args, below, meth, c, h0, Qw, nL⟩ := Γ
  obtain ⟨hx, hb, hml, hnl, hown, hts, hKK, hNw, hfr, hlo, hN, hS, hnm, hrt⟩ := X
  unfold zi_ci at hk
  split at hk
  · rename_i b As r htk
    obtain ⟨hlen, hcat, v, h', ⟨mc, ms, e1, e2, hM⟩, b1, b2, hk⟩ := hk
    intro H locs ls cells slots hP hL hl h1 h2
    have hst := zm_tk_st htk
    have hR2 : M'.2.2.2.2.1 + 1 ≤ R.frames ∧ 8 + (M'.2.2.1 + 11) + M'.2.2.2.2.2 ≤ R.locals := by omega
    refine zm_go (h' := h') (va_runI (As := As) (rest := r) ⟨hx, hb, hml, hown, hts⟩ hM ⟨hy2 ▸ callB_of (ws' := zm_tb) n hts (zm_gi hcd) rfl rfl rfl (hts _ w4) (hts _ w1) hy hR2, hy1, hts _ w2⟩ ⟨zm_blind, fun U hU hW => ⟨rfl, zm_Uat hP hKK hNw hU hW⟩⟩ rfl (by omega) (hl.1.trans hnl) (by rw [show (F0 m pc ls st).stack = st from rfl, hst]; simp) (lv_room hcat) hd ⟨by omega, by omega⟩) hL hl (by omega) (by omega) (hK _ _ _ hk)
  · exact hk.elim
theorem zs_ciN {w : zW} {Γ : zC} {M : zM} {N S : Nat} {Rt : zR} (X : zm_X w Γ M N S Rt) {pc : Nat} {K : zB} {M' : zM} {n idx : Nat} (hcd : Cond.code M'.1 M'.2.1 M'.2.2.1 M'.2.2.2.1 ∈ zm_tb) (w4 : Cond.initialized M'.1.cls ∈ zm_tb) (hy : M'.1.cls ≠ "java/lang/invoke/MethodHandle" ∧ M'.1.cls ≠ "java/lang/invoke/VarHandle" ∧ (parseMethodDescriptor M'.1.desc).map (fun d => d.parameters.length) = some n) (hR : M'.2.2.2.2.1 + 1 ≤ M.2.2.2.2.1 ∧ 8 + (M'.2.2.1 + 11) + M'.2.2.2.2.2 ≤ M.2.2.2.2.2) {host : String} (w1 : Cond.methodLinkNest M.1.cls idx M'.1 host ∈ zm_nw) (w2 : Cond.instanceMethod M'.1 ∈ zm_tb) (hy1 : M'.1.name = "<init>") (hy2 : M'.2.2.2.1 = none) (hd : decode M.2.1 pc = .ok (.invokespecial idx, 3)) (hK : ∀ lv st h, K lv st h → zm_V w Γ (pc + 3) lv st h) : ∀ lv st h, zi_ci w M' (n + 1) N S K lv st h → zm_V w Γ pc lv st h := by
  intro lv st h hk
  obtain ⟨p, e, R, s, m, args, below, meth, c, h0, Qw, nL⟩ := Γ
  obtain ⟨hx, hb, hml, hnl, hown, hts, hKK, hNw, hfr, hlo, hN, hS, hnm, hrt⟩ := X
  unfold zi_ci at hk
  split at hk
  · rename_i b As r htk
    obtain ⟨hlen, hcat, v, h', ⟨mc, ms, e1, e2, hM⟩, b1, b2, hk⟩ := hk
    intro H locs ls cells slots hP hL hl h1 h2
    have hst := zm_tk_st htk
    have hR2 : M'.2.2.2.2.1 + 1 ≤ R.frames ∧ 8 + (M'.2.2.1 + 11) + M'.2.2.2.2.2 ≤ R.locals := by omega
    refine zm_go (h' := h') (va_runIN (As := As) (rest := r) ⟨hx, hb, hml, hown, hts⟩ hM ⟨hy2 ▸ va_cnB (ws' := zm_tb) n hts (zm_gi hcd) rfl rfl rfl (hNw _ w1) (hts _ w4) hy hR2, hy1, hts _ w2⟩ ⟨zm_blind, fun U hU hW => ⟨rfl, zm_Uat hP hKK hNw hU hW⟩⟩ rfl (by omega) (hl.1.trans hnl) (by rw [show (F0 m pc ls st).stack = st from rfl, hst]; simp) (lv_room hcat) hd ⟨by omega, by omega⟩) hL hl (by omega) (by omega) (hK _ _ _ hk)
  · exact hk.elim
theorem zs_cs {w : zW} {Γ : zC} {M : zM} {N S : Nat} {Rt : zR} (X : zm_X w Γ M N S Rt) {pc : Nat} {K : zB} {M' : zM} {n idx : Nat} (hcd : Cond.code M'.1 M'.2.1 M'.2.2.1 M'.2.2.2.1 ∈ zm_tb) (w4 : Cond.initialized M'.1.cls ∈ zm_tb) (hy : M'.1.cls ≠ "java/lang/invoke/MethodHandle" ∧ M'.1.cls ≠ "java/lang/invoke/VarHandle" ∧ (parseMethodDescriptor M'.1.desc).map (fun d => d.parameters.length) = some n) (hR : M'.2.2.2.2.1 + 1 ≤ M.2.2.2.2.1 ∧ 8 + (M'.2.2.1 + 11) + M'.2.2.2.2.2 ≤ M.2.2.2.2.2) (w1 : Cond.methodLink M.1.cls idx M'.1 ∈ zm_tb) (w2 : Cond.static M'.1 ∈ zm_tb) (hd : decode M.2.1 pc = .ok (.invokestatic idx, 3)) (hK : ∀ lv st h, K lv st h → zm_V w Γ (pc + 3) lv st h) : ∀ lv st h, zi_cs w M' (n) N S K lv st h → zm_V w Γ pc lv st h := by
  intro lv st h hk
  obtain ⟨p, e, R, s, m, args, below, meth, c, h0, Qw, nL⟩ := Γ
  obtain ⟨hx, hb, hml, hnl, hown, hts, hKK, hNw, hfr, hlo, hN, hS, hnm, hrt⟩ := X
  unfold zi_cs at hk
  generalize htk : zm_tk n [] st = q at hk
  obtain ⟨As, r⟩ := q
  obtain ⟨hlen, hcat, v, h', ⟨mc, ms, e1, e2, hM⟩, b1, b2, hk⟩ := hk
  intro H locs ls cells slots hP hL hl h1 h2
  have hst := zm_tk_st htk
  have hR2 : M'.2.2.2.2.1 + 1 ≤ R.frames ∧ 8 + (M'.2.2.1 + 11) + M'.2.2.2.2.2 ≤ R.locals := by omega
  refine zm_go (h' := h') (va_runS (As := As) (rest := r) ⟨hx, hb, hml, hown, hts⟩ hM ⟨callB_of (ws' := zm_tb) n hts (zm_gi hcd) rfl rfl rfl (hts _ w4) (hts _ w1) hy hR2, hts _ w2⟩ ⟨zm_blind, fun U hU hW => ⟨rfl, zm_Uat hP hKK hNw hU hW⟩⟩ rfl hlen (hl.1.trans hnl) (by rw [show (F0 m pc ls st).stack = st from rfl, hst]) (lv_room hcat) hd ⟨by omega, by omega⟩) hL hl (by omega) (by omega) (hK _ _ _ hk)
theorem zs_csN {w : zW} {Γ : zC} {M : zM} {N S : Nat} {Rt : zR} (X : zm_X w Γ M N S Rt) {pc : Nat} {K : zB} {M' : zM} {n idx : Nat} (hcd : Cond.code M'.1 M'.2.1 M'.2.2.1 M'.2.2.2.1 ∈ zm_tb) (w4 : Cond.initialized M'.1.cls ∈ zm_tb) (hy : M'.1.cls ≠ "java/lang/invoke/MethodHandle" ∧ M'.1.cls ≠ "java/lang/invoke/VarHandle" ∧ (parseMethodDescriptor M'.1.desc).map (fun d => d.parameters.length) = some n) (hR : M'.2.2.2.2.1 + 1 ≤ M.2.2.2.2.1 ∧ 8 + (M'.2.2.1 + 11) + M'.2.2.2.2.2 ≤ M.2.2.2.2.2) {host : String} (w1 : Cond.methodLinkNest M.1.cls idx M'.1 host ∈ zm_nw) (w2 : Cond.static M'.1 ∈ zm_tb) (hd : decode M.2.1 pc = .ok (.invokestatic idx, 3)) (hK : ∀ lv st h, K lv st h → zm_V w Γ (pc + 3) lv st h) : ∀ lv st h, zi_cs w M' (n) N S K lv st h → zm_V w Γ pc lv st h := by
  intro lv st h hk
  obtain ⟨p, e, R, s, m, args, below, meth, c, h0, Qw, nL⟩ := Γ
  obtain ⟨hx, hb, hml, hnl, hown, hts, hKK, hNw, hfr, hlo, hN, hS, hnm, hrt⟩ := X
  unfold zi_cs at hk
  generalize htk : zm_tk n [] st = q at hk
  obtain ⟨As, r⟩ := q
  obtain ⟨hlen, hcat, v, h', ⟨mc, ms, e1, e2, hM⟩, b1, b2, hk⟩ := hk
  intro H locs ls cells slots hP hL hl h1 h2
  have hst := zm_tk_st htk
  have hR2 : M'.2.2.2.2.1 + 1 ≤ R.frames ∧ 8 + (M'.2.2.1 + 11) + M'.2.2.2.2.2 ≤ R.locals := by omega
  refine zm_go (h' := h') (va_runSN (As := As) (rest := r) ⟨hx, hb, hml, hown, hts⟩ hM ⟨va_cnB (ws' := zm_tb) n hts (zm_gi hcd) rfl rfl rfl (hNw _ w1) (hts _ w4) hy hR2, hts _ w2, trivial⟩ ⟨zm_blind, fun U hU hW => ⟨rfl, zm_Uat hP hKK hNw hU hW⟩⟩ rfl hlen (hl.1.trans hnl) (by rw [show (F0 m pc ls st).stack = st from rfl, hst]) (lv_room hcat) hd ⟨by omega, by omega⟩) hL hl (by omega) (by omega) (hK _ _ _ hk)
def zi_iret (Rt : zR) (lv : zL) (st : List Value) (h : zH) : Prop := match st with
  | [.int x] => Rt (some (.int x)) h
  | _ => False
theorem zs_iret {w : zW} {Γ : zC} {M : zM} {N S : Nat} {Rt : zR} (X : zm_X w Γ M N S Rt) {pc : Nat} (hr : M.2.2.2.1 = some .int) (hd : decode M.2.1 pc = .ok (.ireturn, 1)) : ∀ lv st h, zi_iret Rt lv st h → zm_V w Γ pc lv st h := by
  intro lv st h hk
  obtain ⟨p, e, R, s, m, args, below, meth, c, h0, Qw, nL⟩ := Γ
  obtain ⟨-, -, -, -, -, -, -, -, -, -, -, -, -, hrt⟩ := X
  unfold zi_iret at hk
  split at hk
  · rename_i x
    exact hrt (some (.int x)) h pc lv hk (Or.inr (Or.inl ⟨x, rfl, hr, hd⟩))
  · exact hk.elim
def zi_lret (Rt : zR) (lv : zL) (st : List Value) (h : zH) : Prop := match st with
  | [.long x] => Rt (some (.long x)) h
  | _ => False
theorem zs_lret {w : zW} {Γ : zC} {M : zM} {N S : Nat} {Rt : zR} (X : zm_X w Γ M N S Rt) {pc : Nat} (hr : M.2.2.2.1 = some .long) (hd : decode M.2.1 pc = .ok (.lreturn, 1)) : ∀ lv st h, zi_lret Rt lv st h → zm_V w Γ pc lv st h := by
  intro lv st h hk
  obtain ⟨p, e, R, s, m, args, below, meth, c, h0, Qw, nL⟩ := Γ
  obtain ⟨-, -, -, -, -, -, -, -, -, -, -, -, -, hrt⟩ := X
  unfold zi_lret at hk
  split at hk
  · rename_i x
    exact hrt (some (.long x)) h pc lv hk (Or.inr (Or.inr (Or.inr (Or.inl ⟨x, rfl, hr, hd⟩))))
  · exact hk.elim
def zi_zret (Rt : zR) (lv : zL) (st : List Value) (h : zH) : Prop := match st with
  | [.int x] => (x = 0 ∨ x = 1) ∧ Rt (some (.int x)) h
  | _ => False
theorem zs_zret {w : zW} {Γ : zC} {M : zM} {N S : Nat} {Rt : zR} (X : zm_X w Γ M N S Rt) {pc : Nat} (hr : M.2.2.2.1 = some .boolean) (hd : decode M.2.1 pc = .ok (.ireturn, 1)) : ∀ lv st h, zi_zret Rt lv st h → zm_V w Γ pc lv st h := by
  intro lv st h hk
  obtain ⟨p, e, R, s, m, args, below, meth, c, h0, Qw, nL⟩ := Γ
  obtain ⟨-, -, -, -, -, -, -, -, -, -, -, -, -, hrt⟩ := X
  unfold zi_zret at hk
  split at hk
  · rename_i x
    exact hrt (some (.int x)) h pc lv hk.2 (Or.inr (Or.inr (Or.inl ⟨x, rfl, hk.1, hr, hd⟩)))
  · exact hk.elim
def zi_aret (Rt : zR) (lv : zL) (st : List Value) (h : zH) : Prop := match st with
  | [.ref a] => Rt (some (.ref a)) h
  | [.null] => Rt (some .null) h
  | _ => False
theorem zs_aret {w : zW} {Γ : zC} {M : zM} {N S : Nat} {Rt : zR} (X : zm_X w Γ M N S Rt) {pc : Nat} {rt : FieldType} (hr : M.2.2.2.1 = some rt) (hrt' : (∃ n, rt = .object n) ∨ ∃ t, rt = .array t) (hd : decode M.2.1 pc = .ok (.areturn, 1)) : ∀ lv st h, zi_aret Rt lv st h → zm_V w Γ pc lv st h := by
  intro lv st h hk
  obtain ⟨p, e, R, s, m, args, below, meth, c, h0, Qw, nL⟩ := Γ
  obtain ⟨-, -, -, -, -, -, -, -, -, -, -, -, -, hrt⟩ := X
  unfold zi_aret at hk
  split at hk
  · rename_i a
    exact hrt (some (.ref a)) h pc lv hk (Or.inr (Or.inr (Or.inr (Or.inr ⟨.ref a, rt, rfl, hr, hrt', Or.inr ⟨a, rfl⟩, hd⟩))))
  · exact hrt (some .null) h pc lv hk (Or.inr (Or.inr (Or.inr (Or.inr ⟨.null, rt, rfl, hr, hrt', Or.inl rfl, hd⟩))))
  · exact hk.elim
def zi_vret (Rt : zR) (lv : zL) (st : List Value) (h : zH) : Prop := match st with
  | [] => Rt none h
  | _ => False
theorem zs_vret {w : zW} {Γ : zC} {M : zM} {N S : Nat} {Rt : zR} (X : zm_X w Γ M N S Rt) {pc : Nat} (hr : M.2.2.2.1 = none) (hd : decode M.2.1 pc = .ok (.return_, 1)) : ∀ lv st h, zi_vret Rt lv st h → zm_V w Γ pc lv st h := by
  intro lv st h hk
  obtain ⟨p, e, R, s, m, args, below, meth, c, h0, Qw, nL⟩ := Γ
  obtain ⟨-, -, -, -, -, -, -, -, -, -, -, -, -, hrt⟩ := X
  unfold zi_vret at hk
  split at hk
  · exact hrt none h pc lv hk (Or.inl ⟨rfl, hr, hd⟩)
  · exact hk.elim
/-- the entry's locals -/
def zm_en (n : Nat) (As : List Value) : zL := (List.range n).map (fun i => ((lv_args 0 As).find? (fun q => q.1 == i)).map (fun q => q.2))
theorem zm_en_at {n : Nat} {As : List Value} {j : Nat} {v : Value} (h : (zm_en n As)[j]? = some (some v)) : (j, v) ∈ lv_args 0 As := by
  unfold zm_en at h
  rw [List.getElem?_map] at h
  cases hr : (List.range n)[j]? with
  | none => rw [hr] at h; cases h
  | some i =>
    rw [hr] at h
    have hj : i = j := by
      obtain ⟨q1, q2⟩ := List.getElem?_eq_some_iff.mp hr
      simpa using q2.symm
    subst hj
    simp only [Option.map_some, Option.some.injEq] at h
    cases hf : (lv_args 0 As).find? (fun q => q.1 == i) with
    | none => rw [hf] at h; cases h
    | some q =>
      rw [hf] at h
      simp only [Option.map_some, Option.some.injEq] at h
      have h1 := List.find?_some hf
      have h2 := List.mem_of_find?_eq_some hf
      obtain ⟨a, b⟩ := q
      simp at h1 h
      subst h1; subst h
      exact h2
def zm_Rt (r : Option Value) (h' : zH) : zR := fun v h => v = r ∧ h = h'
theorem zm_C.of {w : zW} {M : zM} {As : List Value} {h h' : zH} {r : Option Value} {mc ms : Nat} (e1 : h'.2.1 = h.2.1 + mc) (e2 : h'.2.2 = h.2.2 + ms) (hy : plainName M.1.cls = true) (hn : (lg_sl As).length ≤ M.2.2.1)
    (k : ∀ Γ : zC, zm_X w Γ M h'.2.1 h'.2.2 (zm_Rt r h') → zm_V w Γ 0 (zm_en M.2.2.1 As) [] h) : zm_C w M As h r h' := by
  refine ⟨mc, ms, e1, e2, ?_⟩
  refine Met.ofW (cc := M.2.1) (maxL := M.2.2.1) (ret := M.2.2.2.1) hy rfl ?_
  intro p e s m args below meth c s₁ B hml hv
  obtain ⟨rfl, hP, hK, hN⟩ := hv
  have hx := B.exec
  have hb := B.bytes
  have hr := B.returns
  have hts := atoms_spec (ws := zm_ws M) B.pre
  have hown : s.vm.findClass M.1.cls = some m.cls := findClass_of_methodNamed B.named
  have hlocks := B.notSynchronized
  have hnm : meth.name = M.1.name := (name_of_methodNamed B.named B.method).1
  have hl := lv_entry As (n := M.2.2.1) hn
  rw [lg_entry_eq]
  refine k (p, e, _, s, m, As.toArray, below, meth, c, h, _, M.2.2.1) ⟨hx, hb, hml, rfl, hown, fun q hq => hts q (List.mem_cons_of_mem _ hq), hK, hN, Nat.le_refl _, Nat.le_refl _, ?_, ?_, hnm, ?_⟩ s.heap [] _ 0 0 hP (fun q hq => by cases hq) (zm_lv.of hl (fun j v hj => zm_en_at hj)) rfl rfl
  · show h'.2.1 ≤ h.2.1 + mc
    omega
  · show h'.2.2 ≤ h.2.2 + ms
    omega
  · rintro v h2 pc lv ⟨rfl, rfl⟩ hrt
    intro H locs ls cells slots hP2 hL hl2 g1 g2
    have hc : cells = mc := by omega
    have hs : slots = ms := by omega
    subst hc; subst hs
    rcases hrt with ⟨rfl, a1, a2⟩ | ⟨x, rfl, a1, a2⟩ | ⟨x, rfl, a0, a1, a2⟩ | ⟨x, rfl, a1, a2⟩ | ⟨q, rt, rfl, a1, a3, a4, a2⟩
    · exact W.vret hx hb (hr.trans a1) (fun t ht _ => ⟨rfl, by rw [ht]; exact hP2⟩) hL a2 hlocks
    · exact W.iret hx hb (hr.trans a1) (fun t ht _ => ⟨rfl, by rw [ht]; exact hP2⟩) hL a2 hlocks
    · exact W.zret hx hb (hr.trans a1) (by rcases a0 with rfl | rfl <;> rfl) (fun t ht _ => ⟨rfl, by rw [ht]; exact hP2⟩) hL a2 hlocks
    · exact W.lret hx hb (hr.trans a1) (fun t ht _ => ⟨rfl, by rw [ht]; exact hP2⟩) hL a2 hlocks
    · exact W.aret hx hb (hr.trans a1) a3 a4 (fun t ht _ => ⟨rfl, by rw [ht]; exact hP2⟩) hL a2 hlocks
