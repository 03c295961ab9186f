/-! the law's own rows: its script, its share -/
set_option maxRecDepth 20000 in
theorem ks_L_share : Cond.static yL_share ∈ zm_tb := List.mem_of_getElem? (i := 686) rfl
set_option maxRecDepth 20000 in
theorem kd_L_share : Cond.codeWith yL_share cL_share 5 (some .int) [(0, 9, 12, 13)] ∈ zm_tb := List.mem_of_getElem? (i := 688) rfl
abbrev mLw : zM := (yL_law, cL_law, 8, (some .boolean), 10, 404)
def zi_sc (b L : Nat) (xs : Nat → Int32) (K : zB) (lv : zL) (st : List Value) (h : zH) : Prop := match st with
  | .int i :: .ref b' :: r => b' = b ∧ vp_in i L ∧ K lv (.int (xs i.toNatClampNeg) :: r) h
  | _ => False
def zi_sl (b L : Nat) (K : zB) (lv : zL) (st : List Value) (h : zH) : Prop := match st with
  | .ref b' :: r => b' = b ∧ K lv (.int (Int32.ofNat L) :: r) h
  | _ => False
def zi_csL (w : zW) (a1 a2 N S : Nat) (K : zB) (lv : zL) (st : List Value) (h : zH) : Prop := match st with
  | .ref ao :: .int x :: .int y :: .ref o :: r => (r.map fun v => v.category).sum ≤ 8 ∧ ∃ v h', zm_CL w a1 a2 [.ref o, .int y, .int x, .ref ao] h v h' ∧ h'.2.1 ≤ N ∧ h'.2.2 ≤ S ∧ K lv (v.toList ++ r) h'
  | _ => False
/-- what the law knows of its start -/
def zm_Z (w : zW) (Γ : zC) (b L : Nat) (xs : Nat → Int32) (a1 a2 : Nat) : Prop := match Γ with
  | (_, _, _, s, _, args, _, _, _, _, _, _) => va_X b L xs s w.2.2.2.2 ∧ b < w.2.2.2.2.size ∧ w.2.2.2.2.size = w.2.2.2.1 ∧ zm_Y w a1 a2 s ∧ ∀ q ∈ zm_tb ++ xg, q.before args s = true
section
variable {w : zW} {Γ : zC} {N S : Nat} {Rt : zR} {b L : Nat} {xs : Nat → Int32} {a1 a2 : Nat}
theorem zs_sc (X : zm_X w Γ mLw N S Rt) (Z : zm_Z w Γ b L xs a1 a2) {pc : Nat} {K : zB} (hd : decode cL_law pc = .ok (.iaload, 1)) (hK : ∀ lv st h, K lv st h → zm_V w Γ (pc + 1) lv st h) : ∀ lv st h, zi_sc b L xs K lv st h → zm_V w Γ pc lv st h := by
  intro lv st h hk
  obtain ⟨p, e, R, s, m, args, below, meth, c, h0, Qw, nL⟩ := Γ
  obtain ⟨hx, hb, hml, hnl, hown, hts, hKK, hNw, hfr, hlo, hN, hS, hnm, hrt⟩ := X
  obtain ⟨z1, z2, z3, z4, z5⟩ := Z
  unfold zi_sc at hk
  split at hk
  · obtain ⟨rfl, hin, hk⟩ := hk
    intro H locs ls cells slots hP hL hl h1 h2
    have hva : va_S (fun q => w.2.2.2.1 ≤ q) w.2.2.2.2 H locs := ⟨by rw [z3, hP.1]; exact hP.2.1, fun q _ hq => hP.2.2.1 q (by omega), hL⟩
    exact va_sld hx hb z1 z2 (show ¬ (fun q => w.2.2.2.1 ≤ q) _ by show ¬ w.2.2.2.1 ≤ _; omega) hva hin hd (hK _ _ _ hk H locs ls cells slots hP hL hl h1 h2)
  · exact hk.elim
theorem zs_sl (X : zm_X w Γ mLw N S Rt) (Z : zm_Z w Γ b L xs a1 a2) {pc : Nat} {K : zB} (hd : decode cL_law pc = .ok (.arraylength, 1)) (hK : ∀ lv st h, K lv st h → zm_V w Γ (pc + 1) lv st h) : ∀ lv st h, zi_sl b L K lv st h → zm_V w Γ pc lv st h := by
  intro lv st h hk
  obtain ⟨p, e, R, s, m, args, below, meth, c, h0, Qw, nL⟩ := Γ
  obtain ⟨hx, hb, hml, hnl, hown, hts, hKK, hNw, hfr, hlo, hN, hS, hnm, hrt⟩ := X
  obtain ⟨z1, z2, z3, z4, z5⟩ := Z
  unfold zi_sl at hk
  split at hk
  · obtain ⟨rfl, hk⟩ := hk
    intro H locs ls cells slots hP hL hl h1 h2
    have hva : va_S (fun q => w.2.2.2.1 ≤ q) w.2.2.2.2 H locs := ⟨by rw [z3, hP.1]; exact hP.2.1, fun q _ hq => hP.2.2.1 q (by omega), hL⟩
    exact va_slen hx hb z1 z2 (show ¬ (fun q => w.2.2.2.1 ≤ q) _ by show ¬ w.2.2.2.1 ≤ _; omega) hva hd (hK _ _ _ hk H locs ls cells slots hP hL hl h1 h2)
  · exact hk.elim
theorem wsL_in : GoodIn (zm_tb ++ xg) (va_wsS RL 100 yL_share wsL) := by
  intro q hq
  have hz : q ∈ zm_tb ++ xg := by
    rcases List.mem_append.mp hq with h | h
    · simp only [List.mem_cons, List.not_mem_nil, or_false] at h
      rcases h with rfl | rfl | rfl
      · exact List.mem_append_left _ kw_L_100
      · exact List.mem_append_left _ ks_L_share
      · exact List.mem_append_left _ ki_L
    · rcases List.mem_cons.mp h with rfl | h
      · exact List.mem_append_left _ kd_L_share
      · exact h
  exact ⟨hz, xg_good q hz⟩
theorem zs_csL (X : zm_X w Γ mLw N S Rt) (Z : zm_Z w Γ b L xs a1 a2) {pc : Nat} {K : zB} (hd : decode cL_law pc = .ok (.invokestatic 100, 3)) (hK : ∀ lv st h, K lv st h → zm_V w Γ (pc + 3) lv st h) : ∀ lv st h, zi_csL w a1 a2 N S K lv st h → zm_V w Γ pc lv st h := by
  intro lv st h hk
  obtain ⟨p, e, R, s, m, args, below, meth, c, h0, Qw, nL⟩ := Γ
  obtain ⟨hx, hb, hml, hnl, hown, hts, hKK, hNw, hfr, hlo, hN, hS, hnm, hrt⟩ := X
  obtain ⟨z1, z2, z3, z4, z5⟩ := Z
  unfold zi_csL at hk
  split at hk
  · rename_i ao x y o r
    obtain ⟨hcat, v, h', ⟨mc, ms, e1, e2, hM⟩, b1, b2, hk⟩ := hk
    intro H locs ls cells slots hP hL hl h1 h2
    have hfr' : 10 ≤ R.frames := hfr
    have hlo' : 404 ≤ R.locals := hlo
    refine zm_go (h' := h') (vx_runSW (As := [.ref o, .int y, .int x, .ref ao]) (rest := r) ⟨hx, hb, hml, hown, z5⟩ hM (vx_cwSW (ws' := zm_tb ++ xg) 4 z5 wsL_in rfl rfl rfl (by decide +kernel) ⟨by show 7 + 1 ≤ R.frames; omega, by show 8 + (5 + 11) + 114 ≤ R.locals; omega⟩) ⟨zm_blindY, fun U hU hW => ⟨rfl, zm_UYat hP hKK hNw z4 hU hW⟩⟩ rfl rfl (hl.1.trans hnl) rfl (lv_room hcat) hd ⟨by omega, by omega⟩) hL hl (by omega) (by omega) (hK _ _ _ hk)
  · exact hk.elim
end
