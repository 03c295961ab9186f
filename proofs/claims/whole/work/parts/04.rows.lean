def zm_ws (M : zM) : List Cond := .code M.1 M.2.1 M.2.2.1 M.2.2.2.1 :: zm_tb
def zm_U (w : zW) (h : zH) (U : State) : Prop := zm_P w h U.heap ∧ va_K w.2.1 vwCl (zm_tys w.2.2.1) U ∧ ∀ q ∈ zm_nw, va_Nw q U
def zm_Q (w : zW) (r : Option Value) (h : zH) : Array Value → State → Outcome → State → Prop := fun _ _ o t => o = .returned r ∧ zm_P w h t.heap
/-- a method's contract: from h with these arguments it returns r and leaves h' -/
def zm_C (w : zW) (M : zM) (As : List Value) (h : zH) (r : Option Value) (h' : zH) : Prop :=
  ∃ mc ms : Nat, h'.2.1 = h.2.1 + mc ∧ h'.2.2 = h.2.2 + ms ∧ Met w.1 M.1 (zm_ws M) { frames := M.2.2.2.2.1, cells := mc, slots := ms, locals := M.2.2.2.2.2 } (va_Pc As (zm_U w h)) (zm_Q w r h') mc ms (fun q => w.2.2.2.1 ≤ q)
abbrev zC : Type := Program × Env × Room × State × MethodId × Array Value × List Frame × Method × Code × zH × (State → Prop) × Nat
def zm_V (w : zW) : zC → zK := fun (p, e, R, s, m, args, below, meth, c, h0, Qw, nL) pc lv st h => ∀ (H : Heap) (locs : List Loc) (ls : Array Slot) (cells slots : Nat), zm_P w h H → (∀ q ∈ locs, w.2.2.2.1 ≤ q.base) → zm_lv ls nL lv → h.2.1 = h0.2.1 + cells → h.2.2 = h0.2.2 + slots → W p w.1 e R s m args below meth c H locs cells slots Qw (F0 m pc ls st)
/-- pc is an instruction that returns v -/
def zm_rt (M : zM) (pc : Nat) (v : Option Value) : Prop :=
  (v = none ∧ M.2.2.2.1 = none ∧ decode M.2.1 pc = .ok (.return_, 1)) ∨ (∃ x : Int32, v = some (.int x) ∧ M.2.2.2.1 = some .int ∧ decode M.2.1 pc = .ok (.ireturn, 1)) ∨ (∃ x : Int32, v = some (.int x) ∧ (x = 0 ∨ x = 1) ∧ M.2.2.2.1 = some .boolean ∧ decode M.2.1 pc = .ok (.ireturn, 1)) ∨ (∃ x : Int64, v = some (.long x) ∧ M.2.2.2.1 = some .long ∧ decode M.2.1 pc = .ok (.lreturn, 1)) ∨ (∃ (q : Value) (rt : FieldType), v = some q ∧ M.2.2.2.1 = some rt ∧ ((∃ n, rt = .object n) ∨ ∃ t, rt = .array t) ∧ (q = .null ∨ ∃ a, q = .ref a) ∧ decode M.2.1 pc = .ok (.areturn, 1))
def zm_X (w : zW) (Γ : zC) (M : zM) (N S : Nat) (Rt : zR) : Prop := match Γ with
  | (p, e, R, s, m, args, below, meth, c, h0, Qw, nL) => p.tables.exec = Jvm.exec ∧ c.code = M.2.1 ∧ c.maxLocals = M.2.2.1 ∧ nL = M.2.2.1 ∧ s.vm.findClass M.1.cls = some m.cls ∧ (∀ q ∈ zm_tb, q.before args s = true) ∧ va_K w.2.1 vwCl (zm_tys w.2.2.1) s ∧ (∀ q ∈ zm_nw, va_Nw q s) ∧ M.2.2.2.2.1 ≤ R.frames ∧ M.2.2.2.2.2 ≤ R.locals ∧ N ≤ h0.2.1 + R.cells ∧ S ≤ h0.2.2 + R.slots ∧ meth.name = M.1.name ∧ ∀ v h pc lv, Rt v h → zm_rt M pc v → zm_V w (p, e, R, s, m, args, below, meth, c, h0, Qw, nL) pc lv v.toList h
theorem zs_iconst {w : zW} {Γ : zC} {M : zM} {N S : Nat} {Rt : zR} (X : zm_X w Γ M N S Rt) {pc : Nat} {K : zB} {n : Int} {v : Int32} (hv : Int32.ofInt n = v) (hd : decode M.2.1 pc = .ok (.iconst n, 1)) (hK : ∀ lv st h, K lv st h → zm_V w Γ (pc + 1) lv st h) : ∀ lv st h, zi_push (.int v) K lv st h → zm_V w Γ pc lv st h := by
  intro lv st h hk
  obtain ⟨p, e, R, s, m, args, below, meth, c, h0, Qw, nL⟩ := Γ
  obtain ⟨hx, hb, hml, hnl, hown, hts, hKK, hNw, hfr, hlo, hN, hS, hnm, hrt⟩ := X
  intro H locs ls cells slots hP hL hl h1 h2
  exact lv_iconst hx hb hd hv (hK _ _ _ hk H locs ls cells slots hP hL hl h1 h2)
theorem zs_bipush {w : zW} {Γ : zC} {M : zM} {N S : Nat} {Rt : zR} (X : zm_X w Γ M N S Rt) {pc : Nat} {K : zB} {n : Int} {v : Int32} (hv : (Int8.ofInt n).toInt32 = v) (hd : decode M.2.1 pc = .ok (.bipush n, 2)) (hK : ∀ lv st h, K lv st h → zm_V w Γ (pc + 2) lv st h) : ∀ lv st h, zi_push (.int v) K lv st h → zm_V w Γ pc lv st h := by
  intro lv st h hk
  obtain ⟨p, e, R, s, m, args, below, meth, c, h0, Qw, nL⟩ := Γ
  obtain ⟨hx, hb, hml, hnl, hown, hts, hKK, hNw, hfr, hlo, hN, hS, hnm, hrt⟩ := X
  intro H locs ls cells slots hP hL hl h1 h2
  exact lv_bipush hx hb hd hv (hK _ _ _ hk H locs ls cells slots hP hL hl h1 h2)
theorem zs_sipush {w : zW} {Γ : zC} {M : zM} {N S : Nat} {Rt : zR} (X : zm_X w Γ M N S Rt) {pc : Nat} {K : zB} {n : Int} {v : Int32} (hv : (Int16.ofInt n).toInt32 = v) (hd : decode M.2.1 pc = .ok (.sipush n, 3)) (hK : ∀ lv st h, K lv st h → zm_V w Γ (pc + 3) lv st h) : ∀ lv st h, zi_push (.int v) K lv st h → zm_V w Γ pc lv st h := by
  intro lv st h hk
  obtain ⟨p, e, R, s, m, args, below, meth, c, h0, Qw, nL⟩ := Γ
  obtain ⟨hx, hb, hml, hnl, hown, hts, hKK, hNw, hfr, hlo, hN, hS, hnm, hrt⟩ := X
  intro H locs ls cells slots hP hL hl h1 h2
  exact lv_sipush hx hb hd hv (hK _ _ _ hk H locs ls cells slots hP hL hl h1 h2)
theorem zs_lconst {w : zW} {Γ : zC} {M : zM} {N S : Nat} {Rt : zR} (X : zm_X w Γ M N S Rt) {pc : Nat} {K : zB} {n : Fin 2} {v : Int64} (hv : Int64.ofNat (n : Nat) = v) (hd : decode M.2.1 pc = .ok (.lconst n, 1)) (hK : ∀ lv st h, K lv st h → zm_V w Γ (pc + 1) lv st h) : ∀ lv st h, zi_push (.long v) K lv st h → zm_V w Γ pc lv st h := by
  intro lv st h hk
  obtain ⟨p, e, R, s, m, args, below, meth, c, h0, Qw, nL⟩ := Γ
  obtain ⟨hx, hb, hml, hnl, hown, hts, hKK, hNw, hfr, hlo, hN, hS, hnm, hrt⟩ := X
  intro H locs ls cells slots hP hL hl h1 h2
  exact lv_lconst hx hb hd hv (hK _ _ _ hk H locs ls cells slots hP hL hl h1 h2)
theorem zs_ldc {w : zW} {Γ : zC} {M : zM} {N S : Nat} {Rt : zR} (X : zm_X w Γ M N S Rt) {pc : Nat} {K : zB} {i : Nat} {v : Int32} (hw : Cond.constant M.1.cls i v ∈ zm_tb) (hd : decode M.2.1 pc = .ok (.ldc i, 2)) (hK : ∀ lv st h, K lv st h → zm_V w Γ (pc + 2) lv st h) : ∀ lv st h, zi_push (.int v) K lv st h → zm_V w Γ pc lv st h := by
  intro lv st h hk
  obtain ⟨p, e, R, s, m, args, below, meth, c, h0, Qw, nL⟩ := Γ
  obtain ⟨hx, hb, hml, hnl, hown, hts, hKK, hNw, hfr, hlo, hN, hS, hnm, hrt⟩ := X
  intro H locs ls cells slots hP hL hl h1 h2
  exact lv_ldc hx hb hown (hts _ hw) hd (hK _ _ _ hk H locs ls cells slots hP hL hl h1 h2)
theorem zs_ldcw {w : zW} {Γ : zC} {M : zM} {N S : Nat} {Rt : zR} (X : zm_X w Γ M N S Rt) {pc : Nat} {K : zB} {i : Nat} {v : Int32} (hw : Cond.constant M.1.cls i v ∈ zm_tb) (hd : decode M.2.1 pc = .ok (.ldc_w i, 3)) (hK : ∀ lv st h, K lv st h → zm_V w Γ (pc + 3) lv st h) : ∀ lv st h, zi_push (.int v) K lv st h → zm_V w Γ pc lv st h := by
  intro lv st h hk
  obtain ⟨p, e, R, s, m, args, below, meth, c, h0, Qw, nL⟩ := Γ
  obtain ⟨hx, hb, hml, hnl, hown, hts, hKK, hNw, hfr, hlo, hN, hS, hnm, hrt⟩ := X
  intro H locs ls cells slots hP hL hl h1 h2
  exact lv_ldcw hx hb hown (hts _ hw) hd (hK _ _ _ hk H locs ls cells slots hP hL hl h1 h2)
theorem zs_ldc2 {w : zW} {Γ : zC} {M : zM} {N S : Nat} {Rt : zR} (X : zm_X w Γ M N S Rt) {pc : Nat} {K : zB} {i : Nat} {v : Int64} (hw : Cond.constantLong M.1.cls i v ∈ zm_tb) (hd : decode M.2.1 pc = .ok (.ldc2_w i, 3)) (hK : ∀ lv st h, K lv st h → zm_V w Γ (pc + 3) lv st h) : ∀ lv st h, zi_push (.long v) K lv st h → zm_V w Γ pc lv st h := by
  intro lv st h hk
  obtain ⟨p, e, R, s, m, args, below, meth, c, h0, Qw, nL⟩ := Γ
  obtain ⟨hx, hb, hml, hnl, hown, hts, hKK, hNw, hfr, hlo, hN, hS, hnm, hrt⟩ := X
  intro H locs ls cells slots hP hL hl h1 h2
  exact lv_ldc2 hx hb hown (hts _ hw) hd (hK _ _ _ hk H locs ls cells slots hP hL hl h1 h2)
theorem zs_null {w : zW} {Γ : zC} {M : zM} {N S : Nat} {Rt : zR} (X : zm_X w Γ M N S Rt) {pc : Nat} {K : zB}  (hd : decode M.2.1 pc = .ok (.aconst_null, 1)) (hK : ∀ lv st h, K lv st h → zm_V w Γ (pc + 1) lv st h) : ∀ lv st h, zi_push .null K lv st h → zm_V w Γ pc lv st h := by
  intro lv st h hk
  obtain ⟨p, e, R, s, m, args, below, meth, c, h0, Qw, nL⟩ := Γ
  obtain ⟨hx, hb, hml, hnl, hown, hts, hKK, hNw, hfr, hlo, hN, hS, hnm, hrt⟩ := X
  intro H locs ls cells slots hP hL hl h1 h2
  exact lv_null hx hb hd (hK _ _ _ hk H locs ls cells slots hP hL hl h1 h2)
theorem zs_iload_n {w : zW} {Γ : zC} {M : zM} {N S : Nat} {Rt : zR} (X : zm_X w Γ M N S Rt) {pc : Nat} {K : zB} {k : Fin 4} {i : Nat} (hi : (k : Nat) = i) (hd : decode M.2.1 pc = .ok (.iload_n k, 1)) (hK : ∀ lv st h, K lv st h → zm_V w Γ (pc + 1) lv st h) : ∀ lv st h, zi_ldi i K lv st h → zm_V w Γ pc lv st h := by
  intro lv st h hk
  obtain ⟨p, e, R, s, m, args, below, meth, c, h0, Qw, nL⟩ := Γ
  obtain ⟨hx, hb, hml, hnl, hown, hts, hKK, hNw, hfr, hlo, hN, hS, hnm, hrt⟩ := X
  unfold zi_ldi at hk
  split at hk
  · rename_i x hxx
    intro H locs ls cells slots hP hL hl h1 h2
    exact lv_iload_n hx hb hd hi (hl.2.2 _ _ hxx) (hK _ _ _ hk H locs ls cells slots hP hL hl h1 h2)
  · exact hk.elim
theorem zs_iload {w : zW} {Γ : zC} {M : zM} {N S : Nat} {Rt : zR} (X : zm_X w Γ M N S Rt) {pc : Nat} {K : zB} {i : Nat} (hd : decode M.2.1 pc = .ok (.iload i, 2)) (hK : ∀ lv st h, K lv st h → zm_V w Γ (pc + 2) lv st h) : ∀ lv st h, zi_ldi i K lv st h → zm_V w Γ pc lv st h := by
  intro lv st h hk
  obtain ⟨p, e, R, s, m, args, below, meth, c, h0, Qw, nL⟩ := Γ
  obtain ⟨hx, hb, hml, hnl, hown, hts, hKK, hNw, hfr, hlo, hN, hS, hnm, hrt⟩ := X
  unfold zi_ldi at hk
  split at hk
  · rename_i x hxx
    intro H locs ls cells slots hP hL hl h1 h2
    exact lv_iload hx hb hd (hl.2.2 _ _ hxx) (hK _ _ _ hk H locs ls cells slots hP hL hl h1 h2)
  · exact hk.elim
theorem zs_lload_n {w : zW} {Γ : zC} {M : zM} {N S : Nat} {Rt : zR} (X : zm_X w Γ M N S Rt) {pc : Nat} {K : zB} {k : Fin 4} {i : Nat} (hi : (k : Nat) = i) (hd : decode M.2.1 pc = .ok (.lload_n k, 1)) (hK : ∀ lv st h, K lv st h → zm_V w Γ (pc + 1) lv st h) : ∀ lv st h, zi_ldl i K lv st h → zm_V w Γ pc lv st h := by
  intro lv st h hk
  obtain ⟨p, e, R, s, m, args, below, meth, c, h0, Qw, nL⟩ := Γ
  obtain ⟨hx, hb, hml, hnl, hown, hts, hKK, hNw, hfr, hlo, hN, hS, hnm, hrt⟩ := X
  unfold zi_ldl at hk
  split at hk
  · rename_i x hxx
    intro H locs ls cells slots hP hL hl h1 h2
    exact lv_lload_n hx hb hd hi (hl.2.2 _ _ hxx) (hK _ _ _ hk H locs ls cells slots hP hL hl h1 h2)
  · exact hk.elim
theorem zs_lload {w : zW} {Γ : zC} {M : zM} {N S : Nat} {Rt : zR} (X : zm_X w Γ M N S Rt) {pc : Nat} {K : zB} {i : Nat} (hd : decode M.2.1 pc = .ok (.lload i, 2)) (hK : ∀ lv st h, K lv st h → zm_V w Γ (pc + 2) lv st h) : ∀ lv st h, zi_ldl i K lv st h → zm_V w Γ pc lv st h := by
  intro lv st h hk
  obtain ⟨p, e, R, s, m, args, below, meth, c, h0, Qw, nL⟩ := Γ
  obtain ⟨hx, hb, hml, hnl, hown, hts, hKK, hNw, hfr, hlo, hN, hS, hnm, hrt⟩ := X
  unfold zi_ldl at hk
  split at hk
  · rename_i x hxx
    intro H locs ls cells slots hP hL hl h1 h2
    exact lv_lload hx hb hd (hl.2.2 _ _ hxx) (hK _ _ _ hk H locs ls cells slots hP hL hl h1 h2)
  · exact hk.elim
theorem zs_aload_n {w : zW} {Γ : zC} {M : zM} {N S : Nat} {Rt : zR} (X : zm_X w Γ M N S Rt) {pc : Nat} {K : zB} {k : Fin 4} {i : Nat} (hi : (k : Nat) = i) (hd : decode M.2.1 pc = .ok (.aload_n k, 1)) (hK : ∀ lv st h, K lv st h → zm_V w Γ (pc + 1) lv st h) : ∀ lv st h, zi_lda i K lv st h → zm_V w Γ pc lv st h := by
  intro lv st h hk
  obtain ⟨p, e, R, s, m, args, below, meth, c, h0, Qw, nL⟩ := Γ
  obtain ⟨hx, hb, hml, hnl, hown, hts, hKK, hNw, hfr, hlo, hN, hS, hnm, hrt⟩ := X
  unfold zi_lda at hk
  split at hk
  · rename_i x hxx
    intro H locs ls cells slots hP hL hl h1 h2
    exact lv_aload_n hx hb hd hi (hl.2.2 _ _ hxx) (hK _ _ _ hk H locs ls cells slots hP hL hl h1 h2)
  · rename_i hxx
    intro H locs ls cells slots hP hL hl h1 h2
    exact lv_aload_nN hx hb hd hi (hl.2.2 _ _ hxx) (hK _ _ _ hk H locs ls cells slots hP hL hl h1 h2)
  · exact hk.elim
theorem zs_aload {w : zW} {Γ : zC} {M : zM} {N S : Nat} {Rt : zR} (X : zm_X w Γ M N S Rt) {pc : Nat} {K : zB} {i : Nat} (hd : decode M.2.1 pc = .ok (.aload i, 2)) (hK : ∀ lv st h, K lv st h → zm_V w Γ (pc + 2) lv st h) : ∀ lv st h, zi_lda i K lv st h → zm_V w Γ pc lv st h := by
  intro lv st h hk
  obtain ⟨p, e, R, s, m, args, below, meth, c, h0, Qw, nL⟩ := Γ
  obtain ⟨hx, hb, hml, hnl, hown, hts, hKK, hNw, hfr, hlo, hN, hS, hnm, hrt⟩ := X
  unfold zi_lda at hk
  split at hk
  · rename_i x hxx
    intro H locs ls cells slots hP hL hl h1 h2
    exact lv_aload hx hb hd (hl.2.2 _ _ hxx) (hK _ _ _ hk H locs ls cells slots hP hL hl h1 h2)
  · rename_i hxx
    intro H locs ls cells slots hP hL hl h1 h2
    exact lv_aloadN hx hb hd (hl.2.2 _ _ hxx) (hK _ _ _ hk H locs ls cells slots hP hL hl h1 h2)
  · exact hk.elim
theorem zs_istore_n {w : zW} {Γ : zC} {M : zM} {N S : Nat} {Rt : zR} (X : zm_X w Γ M N S Rt) {pc : Nat} {K : zB} {k : Fin 4} {i : Nat} (hi : (k : Nat) = i) (hn : i < M.2.2.1) (hd : decode M.2.1 pc = .ok (.istore_n k, 1)) (hK : ∀ lv st h, K lv st h → zm_V w Γ (pc + 1) lv st h) : ∀ lv st h, zi_sti i K lv st h → zm_V w Γ pc lv st h := by
  intro lv st h hk
  obtain ⟨p, e, R, s, m, args, below, meth, c, h0, Qw, nL⟩ := Γ
  obtain ⟨hx, hb, hml, hnl, hown, hts, hKK, hNw, hfr, hlo, hN, hS, hnm, hrt⟩ := X
  unfold zi_sti at hk
  split at hk
  · intro H locs ls cells slots hP hL hl h1 h2
    exact lv_istore_n hx hb hd hi hl.has (by rw [hnl]; exact hn) rfl (fun ls' hl' => hK _ _ _ hk H locs ls' cells slots hP hL (zm_lv.of hl' (fun j w hj => zm_s1_at hj)) h1 h2)
  · exact hk.elim
theorem zs_istore {w : zW} {Γ : zC} {M : zM} {N S : Nat} {Rt : zR} (X : zm_X w Γ M N S Rt) {pc : Nat} {K : zB} {i : Nat} (hn : i < M.2.2.1) (hd : decode M.2.1 pc = .ok (.istore i, 2)) (hK : ∀ lv st h, K lv st h → zm_V w Γ (pc + 2) lv st h) : ∀ lv st h, zi_sti i K lv st h → zm_V w Γ pc lv st h := by
  intro lv st h hk
  obtain ⟨p, e, R, s, m, args, below, meth, c, h0, Qw, nL⟩ := Γ
  obtain ⟨hx, hb, hml, hnl, hown, hts, hKK, hNw, hfr, hlo, hN, hS, hnm, hrt⟩ := X
  unfold zi_sti at hk
  split at hk
  · intro H locs ls cells slots hP hL hl h1 h2
    exact lv_istore hx hb hd hl.has (by rw [hnl]; exact hn) rfl (fun ls' hl' => hK _ _ _ hk H locs ls' cells slots hP hL (zm_lv.of hl' (fun j w hj => zm_s1_at hj)) h1 h2)
  · exact hk.elim
theorem zs_lstore_n {w : zW} {Γ : zC} {M : zM} {N S : Nat} {Rt : zR} (X : zm_X w Γ M N S Rt) {pc : Nat} {K : zB} {k : Fin 4} {i : Nat} (hi : (k : Nat) = i) (hn : i + 1 < M.2.2.1) (hd : decode M.2.1 pc = .ok (.lstore_n k, 1)) (hK : ∀ lv st h, K lv st h → zm_V w Γ (pc + 1) lv st h) : ∀ lv st h, zi_stl i K lv st h → zm_V w Γ pc lv st h := by
  intro lv st h hk
  obtain ⟨p, e, R, s, m, args, below, meth, c, h0, Qw, nL⟩ := Γ
  obtain ⟨hx, hb, hml, hnl, hown, hts, hKK, hNw, hfr, hlo, hN, hS, hnm, hrt⟩ := X
  unfold zi_stl at hk
  split at hk
  · intro H locs ls cells slots hP hL hl h1 h2
    exact lv_lstore_n hx hb hd hi hl.has (by rw [hnl]; exact hn) rfl (fun ls' hl' => hK _ _ _ hk H locs ls' cells slots hP hL (zm_lv.of hl' (fun j w hj => zm_s2_at hj)) h1 h2)
  · exact hk.elim
theorem zs_lstore {w : zW} {Γ : zC} {M : zM} {N S : Nat} {Rt : zR} (X : zm_X w Γ M N S Rt) {pc : Nat} {K : zB} {i : Nat} (hn : i + 1 < M.2.2.1) (hd : decode M.2.1 pc = .ok (.lstore i, 2)) (hK : ∀ lv st h, K lv st h → zm_V w Γ (pc + 2) lv st h) : ∀ lv st h, zi_stl i K lv st h → zm_V w Γ pc lv st h := by
  intro lv st h hk
  obtain ⟨p, e, R, s, m, args, below, meth, c, h0, Qw, nL⟩ := Γ
  obtain ⟨hx, hb, hml, hnl, hown, hts, hKK, hNw, hfr, hlo, hN, hS, hnm, hrt⟩ := X
  unfold zi_stl at hk
  split at hk
  · intro H locs ls cells slots hP hL hl h1 h2
    exact lv_lstore hx hb hd hl.has (by rw [hnl]; exact hn) rfl (fun ls' hl' => hK _ _ _ hk H locs ls' cells slots hP hL (zm_lv.of hl' (fun j w hj => zm_s2_at hj)) h1 h2)
  · exact hk.elim
theorem zs_astore_n {w : zW} {Γ : zC} {M : zM} {N S : Nat} {Rt : zR} (X : zm_X w Γ M N S Rt) {pc : Nat} {K : zB} {k : Fin 4} {i : Nat} (hi : (k : Nat) = i) (hn : i < M.2.2.1) (hd : decode M.2.1 pc = .ok (.astore_n k, 1)) (hK : ∀ lv st h, K lv st h → zm_V w Γ (pc + 1) lv st h) : ∀ lv st h, zi_sta i K lv st h → zm_V w Γ pc lv st h := by
  intro lv st h hk
  obtain ⟨p, e, R, s, m, args, below, meth, c, h0, Qw, nL⟩ := Γ
  obtain ⟨hx, hb, hml, hnl, hown, hts, hKK, hNw, hfr, hlo, hN, hS, hnm, hrt⟩ := X
  unfold zi_sta at hk
  split at hk
  · intro H locs ls cells slots hP hL hl h1 h2
    exact lv_astore_n hx hb hd hi hl.has (by rw [hnl]; exact hn) rfl (fun ls' hl' => hK _ _ _ hk H locs ls' cells slots hP hL (zm_lv.of hl' (fun j w hj => zm_s1_at hj)) h1 h2)
  · intro H locs ls cells slots hP hL hl h1 h2
    exact lv_astore_nN hx hb hd hi hl.has (by rw [hnl]; exact hn) rfl (fun ls' hl' => hK _ _ _ hk H locs ls' cells slots hP hL (zm_lv.of hl' (fun j w hj => zm_s1_at hj)) h1 h2)
  · exact hk.elim
theorem zs_astore {w : zW} {Γ : zC} {M : zM} {N S : Nat} {Rt : zR} (X : zm_X w Γ M N S Rt) {pc : Nat} {K : zB} {i : Nat} (hn : i < M.2.2.1) (hd : decode M.2.1 pc = .ok (.astore i, 2)) (hK : ∀ lv st h, K lv st h → zm_V w Γ (pc + 2) lv st h) : ∀ lv st h, zi_sta i K lv st h → zm_V w Γ pc lv st h := by
  intro lv st h hk
  obtain ⟨p, e, R, s, m, args, below, meth, c, h0, Qw, nL⟩ := Γ
  obtain ⟨hx, hb, hml, hnl, hown, hts, hKK, hNw, hfr, hlo, hN, hS, hnm, hrt⟩ := X
  unfold zi_sta at hk
  split at hk
  · intro H locs ls cells slots hP hL hl h1 h2
    exact lv_astore hx hb hd hl.has (by rw [hnl]; exact hn) rfl (fun ls' hl' => hK _ _ _ hk H locs ls' cells slots hP hL (zm_lv.of hl' (fun j w hj => zm_s1_at hj)) h1 h2)
  · intro H locs ls cells slots hP hL hl h1 h2
    exact lv_astoreN hx hb hd hl.has (by rw [hnl]; exact hn) rfl (fun ls' hl' => hK _ _ _ hk H locs ls' cells slots hP hL (zm_lv.of hl' (fun j w hj => zm_s1_at hj)) h1 h2)
  · exact hk.elim
theorem zs_iinc {w : zW} {Γ : zC} {M : zM} {N S : Nat} {Rt : zR} (X : zm_X w Γ M N S Rt) {pc : Nat} {K : zB} {i : Nat} {n : Int} {d : Int32} (hv : Int32.ofInt n = d) (hn : i < M.2.2.1) (hd : decode M.2.1 pc = .ok (.iinc i n, 3)) (hK : ∀ lv st h, K lv st h → zm_V w Γ (pc + 3) lv st h) : ∀ lv st h, zi_inc i d K lv st h → zm_V w Γ pc lv st h := by
  intro lv st h hk
  obtain ⟨p, e, R, s, m, args, below, meth, c, h0, Qw, nL⟩ := Γ
  obtain ⟨hx, hb, hml, hnl, hown, hts, hKK, hNw, hfr, hlo, hN, hS, hnm, hrt⟩ := X
  unfold zi_inc at hk
  split at hk
  · rename_i x hxx
    intro H locs ls cells slots hP hL hl h1 h2
    obtain ⟨k, hk'⟩ := List.getElem?_of_mem (zm_prs_mem.mpr hxx)
    exact lv_iinc hx hb hd hl.has hk' (by rw [hv]) (by rw [hnl]; exact hn) rfl (fun ls' hl' => hK _ _ _ hk H locs ls' cells slots hP hL (zm_lv.of hl' (fun j w hj => zm_s1_at hj)) h1 h2)
  · exact hk.elim
theorem zs_iadd {w : zW} {Γ : zC} {M : zM} {N S : Nat} {Rt : zR} (X : zm_X w Γ M N S Rt) {pc : Nat} {K : zB}  (hd : decode M.2.1 pc = .ok (.iadd, 1)) (hK : ∀ lv st h, K lv st h → zm_V w Γ (pc + 1) lv st h) : ∀ lv st h, zi_b (fun x y => x + y) K lv st h → zm_V w Γ pc lv st h := by
  intro lv st h hk
  obtain ⟨p, e, R, s, m, args, below, meth, c, h0, Qw, nL⟩ := Γ
  obtain ⟨hx, hb, hml, hnl, hown, hts, hKK, hNw, hfr, hlo, hN, hS, hnm, hrt⟩ := X
  unfold zi_b at hk
  split at hk
  · intro H locs ls cells slots hP hL hl h1 h2
    exact lv_iadd hx hb hd (hK _ _ _ hk H locs ls cells slots hP hL hl h1 h2)
  · exact hk.elim
theorem zs_isub {w : zW} {Γ : zC} {M : zM} {N S : Nat} {Rt : zR} (X : zm_X w Γ M N S Rt) {pc : Nat} {K : zB}  (hd : decode M.2.1 pc = .ok (.isub, 1)) (hK : ∀ lv st h, K lv st h → zm_V w Γ (pc + 1) lv st h) : ∀ lv st h, zi_b (fun x y => x - y) K lv st h → zm_V w Γ pc lv st h := by
  intro lv st h hk
  obtain ⟨p, e, R, s, m, args, below, meth, c, h0, Qw, nL⟩ := Γ
  obtain ⟨hx, hb, hml, hnl, hown, hts, hKK, hNw, hfr, hlo, hN, hS, hnm, hrt⟩ := X
  unfold zi_b at hk
  split at hk
  · intro H locs ls cells slots hP hL hl h1 h2
    exact lv_isub hx hb hd (hK _ _ _ hk H locs ls cells slots hP hL hl h1 h2)
  · exact hk.elim
theorem zs_imul {w : zW} {Γ : zC} {M : zM} {N S : Nat} {Rt : zR} (X : zm_X w Γ M N S Rt) {pc : Nat} {K : zB}  (hd : decode M.2.1 pc = .ok (.imul, 1)) (hK : ∀ lv st h, K lv st h → zm_V w Γ (pc + 1) lv st h) : ∀ lv st h, zi_b (fun x y => x * y) K lv st h → zm_V w Γ pc lv st h := by
  intro lv st h hk
  obtain ⟨p, e, R, s, m, args, below, meth, c, h0, Qw, nL⟩ := Γ
  obtain ⟨hx, hb, hml, hnl, hown, hts, hKK, hNw, hfr, hlo, hN, hS, hnm, hrt⟩ := X
  unfold zi_b at hk
  split at hk
  · intro H locs ls cells slots hP hL hl h1 h2
    exact lv_imul hx hb hd (hK _ _ _ hk H locs ls cells slots hP hL hl h1 h2)
  · exact hk.elim
theorem zs_iand {w : zW} {Γ : zC} {M : zM} {N S : Nat} {Rt : zR} (X : zm_X w Γ M N S Rt) {pc : Nat} {K : zB}  (hd : decode M.2.1 pc = .ok (.iand, 1)) (hK : ∀ lv st h, K lv st h → zm_V w Γ (pc + 1) lv st h) : ∀ lv st h, zi_b (fun x y => x &&& y) K lv st h → zm_V w Γ pc lv st h := by
  intro lv st h hk
  obtain ⟨p, e, R, s, m, args, below, meth, c, h0, Qw, nL⟩ := Γ
  obtain ⟨hx, hb, hml, hnl, hown, hts, hKK, hNw, hfr, hlo, hN, hS, hnm, hrt⟩ := X
  unfold zi_b at hk
  split at hk
  · intro H locs ls cells slots hP hL hl h1 h2
    exact lv_iand hx hb hd (hK _ _ _ hk H locs ls cells slots hP hL hl h1 h2)
  · exact hk.elim
theorem zs_ior {w : zW} {Γ : zC} {M : zM} {N S : Nat} {Rt : zR} (X : zm_X w Γ M N S Rt) {pc : Nat} {K : zB}  (hd : decode M.2.1 pc = .ok (.ior, 1)) (hK : ∀ lv st h, K lv st h → zm_V w Γ (pc + 1) lv st h) : ∀ lv st h, zi_b (fun x y => x ||| y) K lv st h → zm_V w Γ pc lv st h := by
  intro lv st h hk
  obtain ⟨p, e, R, s, m, args, below, meth, c, h0, Qw, nL⟩ := Γ
  obtain ⟨hx, hb, hml, hnl, hown, hts, hKK, hNw, hfr, hlo, hN, hS, hnm, hrt⟩ := X
  unfold zi_b at hk
  split at hk
  · intro H locs ls cells slots hP hL hl h1 h2
    exact lv_ior hx hb hd (hK _ _ _ hk H locs ls cells slots hP hL hl h1 h2)
  · exact hk.elim
theorem zs_ixor {w : zW} {Γ : zC} {M : zM} {N S : Nat} {Rt : zR} (X : zm_X w Γ M N S Rt) {pc : Nat} {K : zB}  (hd : decode M.2.1 pc = .ok (.ixor, 1)) (hK : ∀ lv st h, K lv st h → zm_V w Γ (pc + 1) lv st h) : ∀ lv st h, zi_b (fun x y => x ^^^ y) K lv st h → zm_V w Γ pc lv st h := by
  intro lv st h hk
  obtain ⟨p, e, R, s, m, args, below, meth, c, h0, Qw, nL⟩ := Γ
  obtain ⟨hx, hb, hml, hnl, hown, hts, hKK, hNw, hfr, hlo, hN, hS, hnm, hrt⟩ := X
  unfold zi_b at hk
  split at hk
  · intro H locs ls cells slots hP hL hl h1 h2
    exact lv_ixor hx hb hd (hK _ _ _ hk H locs ls cells slots hP hL hl h1 h2)
  · exact hk.elim
theorem zs_ishl {w : zW} {Γ : zC} {M : zM} {N S : Nat} {Rt : zR} (X : zm_X w Γ M N S Rt) {pc : Nat} {K : zB}  (hd : decode M.2.1 pc = .ok (.ishl, 1)) (hK : ∀ lv st h, K lv st h → zm_V w Γ (pc + 1) lv st h) : ∀ lv st h, zi_b (fun x y => x <<< (y &&& 31)) K lv st h → zm_V w Γ pc lv st h := by
  intro lv st h hk
  obtain ⟨p, e, R, s, m, args, below, meth, c, h0, Qw, nL⟩ := Γ
  obtain ⟨hx, hb, hml, hnl, hown, hts, hKK, hNw, hfr, hlo, hN, hS, hnm, hrt⟩ := X
  unfold zi_b at hk
  split at hk
  · intro H locs ls cells slots hP hL hl h1 h2
    exact lv_ishl hx hb hd (hK _ _ _ hk H locs ls cells slots hP hL hl h1 h2)
  · exact hk.elim
theorem zs_ishr {w : zW} {Γ : zC} {M : zM} {N S : Nat} {Rt : zR} (X : zm_X w Γ M N S Rt) {pc : Nat} {K : zB}  (hd : decode M.2.1 pc = .ok (.ishr, 1)) (hK : ∀ lv st h, K lv st h → zm_V w Γ (pc + 1) lv st h) : ∀ lv st h, zi_b (fun x y => x >>> (y &&& 31)) K lv st h → zm_V w Γ pc lv st h := by
  intro lv st h hk
  obtain ⟨p, e, R, s, m, args, below, meth, c, h0, Qw, nL⟩ := Γ
  obtain ⟨hx, hb, hml, hnl, hown, hts, hKK, hNw, hfr, hlo, hN, hS, hnm, hrt⟩ := X
  unfold zi_b at hk
  split at hk
  · intro H locs ls cells slots hP hL hl h1 h2
    exact lv_ishr hx hb hd (hK _ _ _ hk H locs ls cells slots hP hL hl h1 h2)
  · exact hk.elim
theorem zs_iushr {w : zW} {Γ : zC} {M : zM} {N S : Nat} {Rt : zR} (X : zm_X w Γ M N S Rt) {pc : Nat} {K : zB}  (hd : decode M.2.1 pc = .ok (.iushr, 1)) (hK : ∀ lv st h, K lv st h → zm_V w Γ (pc + 1) lv st h) : ∀ lv st h, zi_b (fun x y => (x.toUInt32 >>> (y.toUInt32 &&& Int32.toUInt32 31)).toInt32) K lv st h → zm_V w Γ pc lv st h := by
  intro lv st h hk
  obtain ⟨p, e, R, s, m, args, below, meth, c, h0, Qw, nL⟩ := Γ
  obtain ⟨hx, hb, hml, hnl, hown, hts, hKK, hNw, hfr, hlo, hN, hS, hnm, hrt⟩ := X
  unfold zi_b at hk
  split at hk
  · intro H locs ls cells slots hP hL hl h1 h2
    exact lv_iushr hx hb hd rfl (hK _ _ _ hk H locs ls cells slots hP hL hl h1 h2)
  · exact hk.elim
theorem zs_idiv {w : zW} {Γ : zC} {M : zM} {N S : Nat} {Rt : zR} (X : zm_X w Γ M N S Rt) {pc : Nat} {K : zB}  (hd : decode M.2.1 pc = .ok (.idiv, 1)) (hK : ∀ lv st h, K lv st h → zm_V w Γ (pc + 1) lv st h) : ∀ lv st h, zi_d (fun x y => x / y) K lv st h → zm_V w Γ pc lv st h := by
  intro lv st h hk
  obtain ⟨p, e, R, s, m, args, below, meth, c, h0, Qw, nL⟩ := Γ
  obtain ⟨hx, hb, hml, hnl, hown, hts, hKK, hNw, hfr, hlo, hN, hS, hnm, hrt⟩ := X
  unfold zi_d at hk
  split at hk
  · intro H locs ls cells slots hP hL hl h1 h2
    exact lv_idiv hx hb hd hk.1 (hK _ _ _ hk.2 H locs ls cells slots hP hL hl h1 h2)
  · exact hk.elim
theorem zs_irem {w : zW} {Γ : zC} {M : zM} {N S : Nat} {Rt : zR} (X : zm_X w Γ M N S Rt) {pc : Nat} {K : zB}  (hd : decode M.2.1 pc = .ok (.irem, 1)) (hK : ∀ lv st h, K lv st h → zm_V w Γ (pc + 1) lv st h) : ∀ lv st h, zi_d (fun x y => x - x / y * y) K lv st h → zm_V w Γ pc lv st h := by
  intro lv st h hk
  obtain ⟨p, e, R, s, m, args, below, meth, c, h0, Qw, nL⟩ := Γ
  obtain ⟨hx, hb, hml, hnl, hown, hts, hKK, hNw, hfr, hlo, hN, hS, hnm, hrt⟩ := X
  unfold zi_d at hk
  split at hk
  · intro H locs ls cells slots hP hL hl h1 h2
    exact lv_irem hx hb hd hk.1 (hK _ _ _ hk.2 H locs ls cells slots hP hL hl h1 h2)
  · exact hk.elim
theorem zs_ineg {w : zW} {Γ : zC} {M : zM} {N S : Nat} {Rt : zR} (X : zm_X w Γ M N S Rt) {pc : Nat} {K : zB}  (hd : decode M.2.1 pc = .ok (.ineg, 1)) (hK : ∀ lv st h, K lv st h → zm_V w Γ (pc + 1) lv st h) : ∀ lv st h, zi_u (fun x => -x) K lv st h → zm_V w Γ pc lv st h := by
  intro lv st h hk
  obtain ⟨p, e, R, s, m, args, below, meth, c, h0, Qw, nL⟩ := Γ
  obtain ⟨hx, hb, hml, hnl, hown, hts, hKK, hNw, hfr, hlo, hN, hS, hnm, hrt⟩ := X
  unfold zi_u at hk
  split at hk
  · intro H locs ls cells slots hP hL hl h1 h2
    exact lv_ineg hx hb hd (hK _ _ _ hk H locs ls cells slots hP hL hl h1 h2)
  · exact hk.elim
theorem zs_ladd {w : zW} {Γ : zC} {M : zM} {N S : Nat} {Rt : zR} (X : zm_X w Γ M N S Rt) {pc : Nat} {K : zB}  (hd : decode M.2.1 pc = .ok (.ladd, 1)) (hK : ∀ lv st h, K lv st h → zm_V w Γ (pc + 1) lv st h) : ∀ lv st h, zi_bl (fun x y => x + y) K lv st h → zm_V w Γ pc lv st h := by
  intro lv st h hk
  obtain ⟨p, e, R, s, m, args, below, meth, c, h0, Qw, nL⟩ := Γ
  obtain ⟨hx, hb, hml, hnl, hown, hts, hKK, hNw, hfr, hlo, hN, hS, hnm, hrt⟩ := X
  unfold zi_bl at hk
  split at hk
  · intro H locs ls cells slots hP hL hl h1 h2
    exact lv_ladd hx hb hd (hK _ _ _ hk H locs ls cells slots hP hL hl h1 h2)
  · exact hk.elim
theorem zs_lsub {w : zW} {Γ : zC} {M : zM} {N S : Nat} {Rt : zR} (X : zm_X w Γ M N S Rt) {pc : Nat} {K : zB}  (hd : decode M.2.1 pc = .ok (.lsub, 1)) (hK : ∀ lv st h, K lv st h → zm_V w Γ (pc + 1) lv st h) : ∀ lv st h, zi_bl (fun x y => x - y) K lv st h → zm_V w Γ pc lv st h := by
  intro lv st h hk
  obtain ⟨p, e, R, s, m, args, below, meth, c, h0, Qw, nL⟩ := Γ
  obtain ⟨hx, hb, hml, hnl, hown, hts, hKK, hNw, hfr, hlo, hN, hS, hnm, hrt⟩ := X
  unfold zi_bl at hk
  split at hk
  · intro H locs ls cells slots hP hL hl h1 h2
    exact lv_lsub hx hb hd (hK _ _ _ hk H locs ls cells slots hP hL hl h1 h2)
  · exact hk.elim
theorem zs_lmul {w : zW} {Γ : zC} {M : zM} {N S : Nat} {Rt : zR} (X : zm_X w Γ M N S Rt) {pc : Nat} {K : zB}  (hd : decode M.2.1 pc = .ok (.lmul, 1)) (hK : ∀ lv st h, K lv st h → zm_V w Γ (pc + 1) lv st h) : ∀ lv st h, zi_bl (fun x y => x * y) K lv st h → zm_V w Γ pc lv st h := by
  intro lv st h hk
  obtain ⟨p, e, R, s, m, args, below, meth, c, h0, Qw, nL⟩ := Γ
  obtain ⟨hx, hb, hml, hnl, hown, hts, hKK, hNw, hfr, hlo, hN, hS, hnm, hrt⟩ := X
  unfold zi_bl at hk
  split at hk
  · intro H locs ls cells slots hP hL hl h1 h2
    exact lv_lmul hx hb hd (hK _ _ _ hk H locs ls cells slots hP hL hl h1 h2)
  · exact hk.elim
theorem zs_land {w : zW} {Γ : zC} {M : zM} {N S : Nat} {Rt : zR} (X : zm_X w Γ M N S Rt) {pc : Nat} {K : zB}  (hd : decode M.2.1 pc = .ok (.land, 1)) (hK : ∀ lv st h, K lv st h → zm_V w Γ (pc + 1) lv st h) : ∀ lv st h, zi_bl (fun x y => x &&& y) K lv st h → zm_V w Γ pc lv st h := by
  intro lv st h hk
  obtain ⟨p, e, R, s, m, args, below, meth, c, h0, Qw, nL⟩ := Γ
  obtain ⟨hx, hb, hml, hnl, hown, hts, hKK, hNw, hfr, hlo, hN, hS, hnm, hrt⟩ := X
  unfold zi_bl at hk
  split at hk
  · intro H locs ls cells slots hP hL hl h1 h2
    exact lv_land hx hb hd (hK _ _ _ hk H locs ls cells slots hP hL hl h1 h2)
  · exact hk.elim
theorem zs_lor {w : zW} {Γ : zC} {M : zM} {N S : Nat} {Rt : zR} (X : zm_X w Γ M N S Rt) {pc : Nat} {K : zB}  (hd : decode M.2.1 pc = .ok (.lor, 1)) (hK : ∀ lv st h, K lv st h → zm_V w Γ (pc + 1) lv st h) : ∀ lv st h, zi_bl (fun x y => x ||| y) K lv st h → zm_V w Γ pc lv st h := by
  intro lv st h hk
  obtain ⟨p, e, R, s, m, args, below, meth, c, h0, Qw, nL⟩ := Γ
  obtain ⟨hx, hb, hml, hnl, hown, hts, hKK, hNw, hfr, hlo, hN, hS, hnm, hrt⟩ := X
  unfold zi_bl at hk
  split at hk
  · intro H locs ls cells slots hP hL hl h1 h2
    exact lv_lor hx hb hd (hK _ _ _ hk H locs ls cells slots hP hL hl h1 h2)
  · exact hk.elim
theorem zs_ldiv {w : zW} {Γ : zC} {M : zM} {N S : Nat} {Rt : zR} (X : zm_X w Γ M N S Rt) {pc : Nat} {K : zB}  (hd : decode M.2.1 pc = .ok (.ldiv, 1)) (hK : ∀ lv st h, K lv st h → zm_V w Γ (pc + 1) lv st h) : ∀ lv st h, zi_dl (fun x y => x / y) K lv st h → zm_V w Γ pc lv st h := by
  intro lv st h hk
  obtain ⟨p, e, R, s, m, args, below, meth, c, h0, Qw, nL⟩ := Γ
  obtain ⟨hx, hb, hml, hnl, hown, hts, hKK, hNw, hfr, hlo, hN, hS, hnm, hrt⟩ := X
  unfold zi_dl at hk
  split at hk
  · intro H locs ls cells slots hP hL hl h1 h2
    exact lv_ldiv hx hb hd hk.1 (hK _ _ _ hk.2 H locs ls cells slots hP hL hl h1 h2)
  · exact hk.elim
theorem zs_lrem {w : zW} {Γ : zC} {M : zM} {N S : Nat} {Rt : zR} (X : zm_X w Γ M N S Rt) {pc : Nat} {K : zB}  (hd : decode M.2.1 pc = .ok (.lrem, 1)) (hK : ∀ lv st h, K lv st h → zm_V w Γ (pc + 1) lv st h) : ∀ lv st h, zi_dl (fun x y => x - x / y * y) K lv st h → zm_V w Γ pc lv st h := by
  intro lv st h hk
  obtain ⟨p, e, R, s, m, args, below, meth, c, h0, Qw, nL⟩ := Γ
  obtain ⟨hx, hb, hml, hnl, hown, hts, hKK, hNw, hfr, hlo, hN, hS, hnm, hrt⟩ := X
  unfold zi_dl at hk
  split at hk
  · intro H locs ls cells slots hP hL hl h1 h2
    exact lv_lrem hx hb hd hk.1 (hK _ _ _ hk.2 H locs ls cells slots hP hL hl h1 h2)
  · exact hk.elim
theorem zs_lneg {w : zW} {Γ : zC} {M : zM} {N S : Nat} {Rt : zR} (X : zm_X w Γ M N S Rt) {pc : Nat} {K : zB}  (hd : decode M.2.1 pc = .ok (.lneg, 1)) (hK : ∀ lv st h, K lv st h → zm_V w Γ (pc + 1) lv st h) : ∀ lv st h, zi_ul (fun x => -x) K lv st h → zm_V w Γ pc lv st h := by
  intro lv st h hk
  obtain ⟨p, e, R, s, m, args, below, meth, c, h0, Qw, nL⟩ := Γ
  obtain ⟨hx, hb, hml, hnl, hown, hts, hKK, hNw, hfr, hlo, hN, hS, hnm, hrt⟩ := X
  unfold zi_ul at hk
  split at hk
  · intro H locs ls cells slots hP hL hl h1 h2
    exact lv_lneg hx hb hd (hK _ _ _ hk H locs ls cells slots hP hL hl h1 h2)
  · exact hk.elim
theorem zs_lcmp {w : zW} {Γ : zC} {M : zM} {N S : Nat} {Rt : zR} (X : zm_X w Γ M N S Rt) {pc : Nat} {K : zB}  (hd : decode M.2.1 pc = .ok (.lcmp, 1)) (hK : ∀ lv st h, K lv st h → zm_V w Γ (pc + 1) lv st h) : ∀ lv st h, zi_lcmp K lv st h → zm_V w Γ pc lv st h := by
  intro lv st h hk
  obtain ⟨p, e, R, s, m, args, below, meth, c, h0, Qw, nL⟩ := Γ
  obtain ⟨hx, hb, hml, hnl, hown, hts, hKK, hNw, hfr, hlo, hN, hS, hnm, hrt⟩ := X
  unfold zi_lcmp at hk
  split at hk
  · intro H locs ls cells slots hP hL hl h1 h2
    exact W.lcmp hx hb hd (hK _ _ _ hk H locs ls cells slots hP hL hl h1 h2)
  · exact hk.elim
theorem zs_i2l {w : zW} {Γ : zC} {M : zM} {N S : Nat} {Rt : zR} (X : zm_X w Γ M N S Rt) {pc : Nat} {K : zB}  (hd : decode M.2.1 pc = .ok (.i2l, 1)) (hK : ∀ lv st h, K lv st h → zm_V w Γ (pc + 1) lv st h) : ∀ lv st h, zi_i2l K lv st h → zm_V w Γ pc lv st h := by
  intro lv st h hk
  obtain ⟨p, e, R, s, m, args, below, meth, c, h0, Qw, nL⟩ := Γ
  obtain ⟨hx, hb, hml, hnl, hown, hts, hKK, hNw, hfr, hlo, hN, hS, hnm, hrt⟩ := X
  unfold zi_i2l at hk
  split at hk
  · intro H locs ls cells slots hP hL hl h1 h2
    exact lv_i2l hx hb hd rfl (hK _ _ _ hk H locs ls cells slots hP hL hl h1 h2)
  · exact hk.elim
theorem zs_l2i {w : zW} {Γ : zC} {M : zM} {N S : Nat} {Rt : zR} (X : zm_X w Γ M N S Rt) {pc : Nat} {K : zB}  (hd : decode M.2.1 pc = .ok (.l2i, 1)) (hK : ∀ lv st h, K lv st h → zm_V w Γ (pc + 1) lv st h) : ∀ lv st h, zi_l2i K lv st h → zm_V w Γ pc lv st h := by
  intro lv st h hk
  obtain ⟨p, e, R, s, m, args, below, meth, c, h0, Qw, nL⟩ := Γ
  obtain ⟨hx, hb, hml, hnl, hown, hts, hKK, hNw, hfr, hlo, hN, hS, hnm, hrt⟩ := X
  unfold zi_l2i at hk
  split at hk
  · intro H locs ls cells slots hP hL hl h1 h2
    exact lv_l2i hx hb hd rfl (hK _ _ _ hk H locs ls cells slots hP hL hl h1 h2)
  · exact hk.elim
theorem zs_dup {w : zW} {Γ : zC} {M : zM} {N S : Nat} {Rt : zR} (X : zm_X w Γ M N S Rt) {pc : Nat} {K : zB}  (hd : decode M.2.1 pc = .ok (.dup, 1)) (hK : ∀ lv st h, K lv st h → zm_V w Γ (pc + 1) lv st h) : ∀ lv st h, zi_dup K lv st h → zm_V w Γ pc lv st h := by
  intro lv st h hk
  obtain ⟨p, e, R, s, m, args, below, meth, c, h0, Qw, nL⟩ := Γ
  obtain ⟨hx, hb, hml, hnl, hown, hts, hKK, hNw, hfr, hlo, hN, hS, hnm, hrt⟩ := X
  unfold zi_dup at hk
  split at hk
  · intro H locs ls cells slots hP hL hl h1 h2
    exact lv_dup hx hb hd hk.1 (hK _ _ _ hk.2 H locs ls cells slots hP hL hl h1 h2)
  · exact hk.elim
theorem zs_pop {w : zW} {Γ : zC} {M : zM} {N S : Nat} {Rt : zR} (X : zm_X w Γ M N S Rt) {pc : Nat} {K : zB}  (hd : decode M.2.1 pc = .ok (.pop, 1)) (hK : ∀ lv st h, K lv st h → zm_V w Γ (pc + 1) lv st h) : ∀ lv st h, zi_pop K lv st h → zm_V w Γ pc lv st h := by
  intro lv st h hk
  obtain ⟨p, e, R, s, m, args, below, meth, c, h0, Qw, nL⟩ := Γ
  obtain ⟨hx, hb, hml, hnl, hown, hts, hKK, hNw, hfr, hlo, hN, hS, hnm, hrt⟩ := X
  unfold zi_pop at hk
  split at hk
  · intro H locs ls cells slots hP hL hl h1 h2
    exact lv_pop hx hb hd hk.1 (hK _ _ _ hk.2 H locs ls cells slots hP hL hl h1 h2)
  · exact hk.elim
theorem zs_pop2 {w : zW} {Γ : zC} {M : zM} {N S : Nat} {Rt : zR} (X : zm_X w Γ M N S Rt) {pc : Nat} {K : zB}  (hd : decode M.2.1 pc = .ok (.pop2, 1)) (hK : ∀ lv st h, K lv st h → zm_V w Γ (pc + 1) lv st h) : ∀ lv st h, zi_pop2 K lv st h → zm_V w Γ pc lv st h := by
  intro lv st h hk
  obtain ⟨p, e, R, s, m, args, below, meth, c, h0, Qw, nL⟩ := Γ
  obtain ⟨hx, hb, hml, hnl, hown, hts, hKK, hNw, hfr, hlo, hN, hS, hnm, hrt⟩ := X
  unfold zi_pop2 at hk
  split at hk
  · intro H locs ls cells slots hP hL hl h1 h2
    exact lv_pop2_2 hx hb hd hk.1 (hK _ _ _ hk.2 H locs ls cells slots hP hL hl h1 h2)
  · exact hk.elim
theorem zs_dup_x1 {w : zW} {Γ : zC} {M : zM} {N S : Nat} {Rt : zR} (X : zm_X w Γ M N S Rt) {pc : Nat} {K : zB}  (hd : decode M.2.1 pc = .ok (.dup_x1, 1)) (hK : ∀ lv st h, K lv st h → zm_V w Γ (pc + 1) lv st h) : ∀ lv st h, zi_dup_x1 K lv st h → zm_V w Γ pc lv st h := by
  intro lv st h hk
  obtain ⟨p, e, R, s, m, args, below, meth, c, h0, Qw, nL⟩ := Γ
  obtain ⟨hx, hb, hml, hnl, hown, hts, hKK, hNw, hfr, hlo, hN, hS, hnm, hrt⟩ := X
  unfold zi_dup_x1 at hk
  split at hk
  · intro H locs ls cells slots hP hL hl h1 h2
    exact lv_dup_x1 hx hb hd hk.1 hk.2.1 (hK _ _ _ hk.2.2 H locs ls cells slots hP hL hl h1 h2)
  · exact hk.elim
theorem zs_dup_x2 {w : zW} {Γ : zC} {M : zM} {N S : Nat} {Rt : zR} (X : zm_X w Γ M N S Rt) {pc : Nat} {K : zB}  (hd : decode M.2.1 pc = .ok (.dup_x2, 1)) (hK : ∀ lv st h, K lv st h → zm_V w Γ (pc + 1) lv st h) : ∀ lv st h, zi_dup_x2 K lv st h → zm_V w Γ pc lv st h := by
  intro lv st h hk
  obtain ⟨p, e, R, s, m, args, below, meth, c, h0, Qw, nL⟩ := Γ
  obtain ⟨hx, hb, hml, hnl, hown, hts, hKK, hNw, hfr, hlo, hN, hS, hnm, hrt⟩ := X
  unfold zi_dup_x2 at hk
  split at hk
  · intro H locs ls cells slots hP hL hl h1 h2
    exact lv_dup_x2 hx hb hd hk.1 hk.2.1 hk.2.2.1 (hK _ _ _ hk.2.2.2 H locs ls cells slots hP hL hl h1 h2)
  · exact hk.elim
theorem zs_dup2 {w : zW} {Γ : zC} {M : zM} {N S : Nat} {Rt : zR} (X : zm_X w Γ M N S Rt) {pc : Nat} {K : zB}  (hd : decode M.2.1 pc = .ok (.dup2, 1)) (hK : ∀ lv st h, K lv st h → zm_V w Γ (pc + 1) lv st h) : ∀ lv st h, zi_dup2 K lv st h → zm_V w Γ pc lv st h := by
  intro lv st h hk
  obtain ⟨p, e, R, s, m, args, below, meth, c, h0, Qw, nL⟩ := Γ
  obtain ⟨hx, hb, hml, hnl, hown, hts, hKK, hNw, hfr, hlo, hN, hS, hnm, hrt⟩ := X
  unfold zi_dup2 at hk
  split at hk
  · intro H locs ls cells slots hP hL hl h1 h2
    exact lv_dup2_11 hx hb hd hk.1 hk.2.1 (hK _ _ _ hk.2.2 H locs ls cells slots hP hL hl h1 h2)
  · exact hk.elim
theorem zs_dup2l {w : zW} {Γ : zC} {M : zM} {N S : Nat} {Rt : zR} (X : zm_X w Γ M N S Rt) {pc : Nat} {K : zB}  (hd : decode M.2.1 pc = .ok (.dup2, 1)) (hK : ∀ lv st h, K lv st h → zm_V w Γ (pc + 1) lv st h) : ∀ lv st h, zi_dup2l K lv st h → zm_V w Γ pc lv st h := by
  intro lv st h hk
  obtain ⟨p, e, R, s, m, args, below, meth, c, h0, Qw, nL⟩ := Γ
  obtain ⟨hx, hb, hml, hnl, hown, hts, hKK, hNw, hfr, hlo, hN, hS, hnm, hrt⟩ := X
  unfold zi_dup2l at hk
  split at hk
  · intro H locs ls cells slots hP hL hl h1 h2
    exact lv_dup2_2 hx hb hd hk.1 (hK _ _ _ hk.2 H locs ls cells slots hP hL hl h1 h2)
  · exact hk.elim
theorem zs_dup2_x1l {w : zW} {Γ : zC} {M : zM} {N S : Nat} {Rt : zR} (X : zm_X w Γ M N S Rt) {pc : Nat} {K : zB}  (hd : decode M.2.1 pc = .ok (.dup2_x1, 1)) (hK : ∀ lv st h, K lv st h → zm_V w Γ (pc + 1) lv st h) : ∀ lv st h, zi_dup2_x1l K lv st h → zm_V w Γ pc lv st h := by
  intro lv st h hk
  obtain ⟨p, e, R, s, m, args, below, meth, c, h0, Qw, nL⟩ := Γ
  obtain ⟨hx, hb, hml, hnl, hown, hts, hKK, hNw, hfr, hlo, hN, hS, hnm, hrt⟩ := X
  unfold zi_dup2_x1l at hk
  split at hk
  · intro H locs ls cells slots hP hL hl h1 h2
    exact lv_dup2_x1_2 hx hb hd hk.1 hk.2.1 (hK _ _ _ hk.2.2 H locs ls cells slots hP hL hl h1 h2)
  · exact hk.elim
theorem zs_if_eq {w : zW} {Γ : zC} {M : zM} {N S : Nat} {Rt : zR} (X : zm_X w Γ M N S Rt) {pc tgt : Nat} {off : Int} {K1 K2 : zB} (hd : decode M.2.1 pc = .ok (.ifCond .eq off, 3)) (ht : (pc : Int) + off = (tgt : Int)) (hK1 : ∀ lv st h, K1 lv st h → zm_V w Γ tgt lv st h) (hK2 : ∀ lv st h, K2 lv st h → zm_V w Γ (pc + 3) lv st h) : ∀ lv st h, zi_if (fun x => x = 0) K1 K2 lv st h → zm_V w Γ pc lv st h := by
  intro lv st h hk
  obtain ⟨p, e, R, s, m, args, below, meth, c, h0, Qw, nL⟩ := Γ
  obtain ⟨hx, hb, hml, hnl, hown, hts, hKK, hNw, hfr, hlo, hN, hS, hnm, hrt⟩ := X
  unfold zi_if at hk
  split at hk
  · intro H locs ls cells slots hP hL hl h1 h2
    exact lv_if_eq hx hb hd ht (fun q => hK1 _ _ _ (hk.1 q) H locs ls cells slots hP hL hl h1 h2) (fun q => hK2 _ _ _ (hk.2 q) H locs ls cells slots hP hL hl h1 h2)
  · exact hk.elim
theorem zs_icmp_eq {w : zW} {Γ : zC} {M : zM} {N S : Nat} {Rt : zR} (X : zm_X w Γ M N S Rt) {pc tgt : Nat} {off : Int} {K1 K2 : zB} (hd : decode M.2.1 pc = .ok (.if_icmp .eq off, 3)) (ht : (pc : Int) + off = (tgt : Int)) (hK1 : ∀ lv st h, K1 lv st h → zm_V w Γ tgt lv st h) (hK2 : ∀ lv st h, K2 lv st h → zm_V w Γ (pc + 3) lv st h) : ∀ lv st h, zi_ic (fun x y => x = y) K1 K2 lv st h → zm_V w Γ pc lv st h := by
  intro lv st h hk
  obtain ⟨p, e, R, s, m, args, below, meth, c, h0, Qw, nL⟩ := Γ
  obtain ⟨hx, hb, hml, hnl, hown, hts, hKK, hNw, hfr, hlo, hN, hS, hnm, hrt⟩ := X
  unfold zi_ic at hk
  split at hk
  · intro H locs ls cells slots hP hL hl h1 h2
    exact lv_icmp_eq hx hb hd ht (fun q => hK1 _ _ _ (hk.1 q) H locs ls cells slots hP hL hl h1 h2) (fun q => hK2 _ _ _ (hk.2 q) H locs ls cells slots hP hL hl h1 h2)
  · exact hk.elim
theorem zs_if_ne {w : zW} {Γ : zC} {M : zM} {N S : Nat} {Rt : zR} (X : zm_X w Γ M N S Rt) {pc tgt : Nat} {off : Int} {K1 K2 : zB} (hd : decode M.2.1 pc = .ok (.ifCond .ne off, 3)) (ht : (pc : Int) + off = (tgt : Int)) (hK1 : ∀ lv st h, K1 lv st h → zm_V w Γ tgt lv st h) (hK2 : ∀ lv st h, K2 lv st h → zm_V w Γ (pc + 3) lv st h) : ∀ lv st h, zi_if (fun x => x = 0) K2 K1 lv st h → zm_V w Γ pc lv st h := by
  intro lv st h hk
  obtain ⟨p, e, R, s, m, args, below, meth, c, h0, Qw, nL⟩ := Γ
  obtain ⟨hx, hb, hml, hnl, hown, hts, hKK, hNw, hfr, hlo, hN, hS, hnm, hrt⟩ := X
  unfold zi_if at hk
  split at hk
  · intro H locs ls cells slots hP hL hl h1 h2
    exact lv_if_ne hx hb hd ht (fun q => hK1 _ _ _ (hk.2 q) H locs ls cells slots hP hL hl h1 h2) (fun q => hK2 _ _ _ (hk.1 q) H locs ls cells slots hP hL hl h1 h2)
  · exact hk.elim
theorem zs_icmp_ne {w : zW} {Γ : zC} {M : zM} {N S : Nat} {Rt : zR} (X : zm_X w Γ M N S Rt) {pc tgt : Nat} {off : Int} {K1 K2 : zB} (hd : decode M.2.1 pc = .ok (.if_icmp .ne off, 3)) (ht : (pc : Int) + off = (tgt : Int)) (hK1 : ∀ lv st h, K1 lv st h → zm_V w Γ tgt lv st h) (hK2 : ∀ lv st h, K2 lv st h → zm_V w Γ (pc + 3) lv st h) : ∀ lv st h, zi_ic (fun x y => x = y) K2 K1 lv st h → zm_V w Γ pc lv st h := by
  intro lv st h hk
  obtain ⟨p, e, R, s, m, args, below, meth, c, h0, Qw, nL⟩ := Γ
  obtain ⟨hx, hb, hml, hnl, hown, hts, hKK, hNw, hfr, hlo, hN, hS, hnm, hrt⟩ := X
  unfold zi_ic at hk
  split at hk
  · intro H locs ls cells slots hP hL hl h1 h2
    exact lv_icmp_ne hx hb hd ht (fun q => hK1 _ _ _ (hk.2 q) H locs ls cells slots hP hL hl h1 h2) (fun q => hK2 _ _ _ (hk.1 q) H locs ls cells slots hP hL hl h1 h2)
  · exact hk.elim
theorem zs_if_lt {w : zW} {Γ : zC} {M : zM} {N S : Nat} {Rt : zR} (X : zm_X w Γ M N S Rt) {pc tgt : Nat} {off : Int} {K1 K2 : zB} (hd : decode M.2.1 pc = .ok (.ifCond .lt off, 3)) (ht : (pc : Int) + off = (tgt : Int)) (hK1 : ∀ lv st h, K1 lv st h → zm_V w Γ tgt lv st h) (hK2 : ∀ lv st h, K2 lv st h → zm_V w Γ (pc + 3) lv st h) : ∀ lv st h, zi_if (fun x => x < 0) K1 K2 lv st h → zm_V w Γ pc lv st h := by
  intro lv st h hk
  obtain ⟨p, e, R, s, m, args, below, meth, c, h0, Qw, nL⟩ := Γ
  obtain ⟨hx, hb, hml, hnl, hown, hts, hKK, hNw, hfr, hlo, hN, hS, hnm, hrt⟩ := X
  unfold zi_if at hk
  split at hk
  · intro H locs ls cells slots hP hL hl h1 h2
    exact lv_if_lt hx hb hd ht (fun q => hK1 _ _ _ (hk.1 q) H locs ls cells slots hP hL hl h1 h2) (fun q => hK2 _ _ _ (hk.2 q) H locs ls cells slots hP hL hl h1 h2)
  · exact hk.elim
theorem zs_icmp_lt {w : zW} {Γ : zC} {M : zM} {N S : Nat} {Rt : zR} (X : zm_X w Γ M N S Rt) {pc tgt : Nat} {off : Int} {K1 K2 : zB} (hd : decode M.2.1 pc = .ok (.if_icmp .lt off, 3)) (ht : (pc : Int) + off = (tgt : Int)) (hK1 : ∀ lv st h, K1 lv st h → zm_V w Γ tgt lv st h) (hK2 : ∀ lv st h, K2 lv st h → zm_V w Γ (pc + 3) lv st h) : ∀ lv st h, zi_ic (fun x y => x < y) K1 K2 lv st h → zm_V w Γ pc lv st h := by
  intro lv st h hk
  obtain ⟨p, e, R, s, m, args, below, meth, c, h0, Qw, nL⟩ := Γ
  obtain ⟨hx, hb, hml, hnl, hown, hts, hKK, hNw, hfr, hlo, hN, hS, hnm, hrt⟩ := X
  unfold zi_ic at hk
  split at hk
  · intro H locs ls cells slots hP hL hl h1 h2
    exact lv_icmp_lt hx hb hd ht (fun q => hK1 _ _ _ (hk.1 q) H locs ls cells slots hP hL hl h1 h2) (fun q => hK2 _ _ _ (hk.2 q) H locs ls cells slots hP hL hl h1 h2)
  · exact hk.elim
theorem zs_if_ge {w : zW} {Γ : zC} {M : zM} {N S : Nat} {Rt : zR} (X : zm_X w Γ M N S Rt) {pc tgt : Nat} {off : Int} {K1 K2 : zB} (hd : decode M.2.1 pc = .ok (.ifCond .ge off, 3)) (ht : (pc : Int) + off = (tgt : Int)) (hK1 : ∀ lv st h, K1 lv st h → zm_V w Γ tgt lv st h) (hK2 : ∀ lv st h, K2 lv st h → zm_V w Γ (pc + 3) lv st h) : ∀ lv st h, zi_if (fun x => 0 ≤ x) K1 K2 lv st h → zm_V w Γ pc lv st h := by
  intro lv st h hk
  obtain ⟨p, e, R, s, m, args, below, meth, c, h0, Qw, nL⟩ := Γ
  obtain ⟨hx, hb, hml, hnl, hown, hts, hKK, hNw, hfr, hlo, hN, hS, hnm, hrt⟩ := X
  unfold zi_if at hk
  split at hk
  · intro H locs ls cells slots hP hL hl h1 h2
    exact lv_if_ge hx hb hd ht (fun q => hK1 _ _ _ (hk.1 q) H locs ls cells slots hP hL hl h1 h2) (fun q => hK2 _ _ _ (hk.2 q) H locs ls cells slots hP hL hl h1 h2)
  · exact hk.elim
theorem zs_icmp_ge {w : zW} {Γ : zC} {M : zM} {N S : Nat} {Rt : zR} (X : zm_X w Γ M N S Rt) {pc tgt : Nat} {off : Int} {K1 K2 : zB} (hd : decode M.2.1 pc = .ok (.if_icmp .ge off, 3)) (ht : (pc : Int) + off = (tgt : Int)) (hK1 : ∀ lv st h, K1 lv st h → zm_V w Γ tgt lv st h) (hK2 : ∀ lv st h, K2 lv st h → zm_V w Γ (pc + 3) lv st h) : ∀ lv st h, zi_ic (fun x y => y ≤ x) K1 K2 lv st h → zm_V w Γ pc lv st h := by
  intro lv st h hk
  obtain ⟨p, e, R, s, m, args, below, meth, c, h0, Qw, nL⟩ := Γ
  obtain ⟨hx, hb, hml, hnl, hown, hts, hKK, hNw, hfr, hlo, hN, hS, hnm, hrt⟩ := X
  unfold zi_ic at hk
  split at hk
  · intro H locs ls cells slots hP hL hl h1 h2
    exact lv_icmp_ge hx hb hd ht (fun q => hK1 _ _ _ (hk.1 q) H locs ls cells slots hP hL hl h1 h2) (fun q => hK2 _ _ _ (hk.2 q) H locs ls cells slots hP hL hl h1 h2)
  · exact hk.elim
theorem zs_if_gt {w : zW} {Γ : zC} {M : zM} {N S : Nat} {Rt : zR} (X : zm_X w Γ M N S Rt) {pc tgt : Nat} {off : Int} {K1 K2 : zB} (hd : decode M.2.1 pc = .ok (.ifCond .gt off, 3)) (ht : (pc : Int) + off = (tgt : Int)) (hK1 : ∀ lv st h, K1 lv st h → zm_V w Γ tgt lv st h) (hK2 : ∀ lv st h, K2 lv st h → zm_V w Γ (pc + 3) lv st h) : ∀ lv st h, zi_if (fun x => 0 < x) K1 K2 lv st h → zm_V w Γ pc lv st h := by
  intro lv st h hk
  obtain ⟨p, e, R, s, m, args, below, meth, c, h0, Qw, nL⟩ := Γ
  obtain ⟨hx, hb, hml, hnl, hown, hts, hKK, hNw, hfr, hlo, hN, hS, hnm, hrt⟩ := X
  unfold zi_if at hk
  split at hk
  · intro H locs ls cells slots hP hL hl h1 h2
    exact lv_if_gt hx hb hd ht (fun q => hK1 _ _ _ (hk.1 q) H locs ls cells slots hP hL hl h1 h2) (fun q => hK2 _ _ _ (hk.2 q) H locs ls cells slots hP hL hl h1 h2)
  · exact hk.elim
theorem zs_icmp_gt {w : zW} {Γ : zC} {M : zM} {N S : Nat} {Rt : zR} (X : zm_X w Γ M N S Rt) {pc tgt : Nat} {off : Int} {K1 K2 : zB} (hd : decode M.2.1 pc = .ok (.if_icmp .gt off, 3)) (ht : (pc : Int) + off = (tgt : Int)) (hK1 : ∀ lv st h, K1 lv st h → zm_V w Γ tgt lv st h) (hK2 : ∀ lv st h, K2 lv st h → zm_V w Γ (pc + 3) lv st h) : ∀ lv st h, zi_ic (fun x y => y < x) K1 K2 lv st h → zm_V w Γ pc lv st h := by
  intro lv st h hk
  obtain ⟨p, e, R, s, m, args, below, meth, c, h0, Qw, nL⟩ := Γ
  obtain ⟨hx, hb, hml, hnl, hown, hts, hKK, hNw, hfr, hlo, hN, hS, hnm, hrt⟩ := X
  unfold zi_ic at hk
  split at hk
  · intro H locs ls cells slots hP hL hl h1 h2
    exact lv_icmp_gt hx hb hd ht (fun q => hK1 _ _ _ (hk.1 q) H locs ls cells slots hP hL hl h1 h2) (fun q => hK2 _ _ _ (hk.2 q) H locs ls cells slots hP hL hl h1 h2)
  · exact hk.elim
theorem zs_if_le {w : zW} {Γ : zC} {M : zM} {N S : Nat} {Rt : zR} (X : zm_X w Γ M N S Rt) {pc tgt : Nat} {off : Int} {K1 K2 : zB} (hd : decode M.2.1 pc = .ok (.ifCond .le off, 3)) (ht : (pc : Int) + off = (tgt : Int)) (hK1 : ∀ lv st h, K1 lv st h → zm_V w Γ tgt lv st h) (hK2 : ∀ lv st h, K2 lv st h → zm_V w Γ (pc + 3) lv st h) : ∀ lv st h, zi_if (fun x => x ≤ 0) K1 K2 lv st h → zm_V w Γ pc lv st h := by
  intro lv st h hk
  obtain ⟨p, e, R, s, m, args, below, meth, c, h0, Qw, nL⟩ := Γ
  obtain ⟨hx, hb, hml, hnl, hown, hts, hKK, hNw, hfr, hlo, hN, hS, hnm, hrt⟩ := X
  unfold zi_if at hk
  split at hk
  · intro H locs ls cells slots hP hL hl h1 h2
    exact lv_if_le hx hb hd ht (fun q => hK1 _ _ _ (hk.1 q) H locs ls cells slots hP hL hl h1 h2) (fun q => hK2 _ _ _ (hk.2 q) H locs ls cells slots hP hL hl h1 h2)
  · exact hk.elim
theorem zs_icmp_le {w : zW} {Γ : zC} {M : zM} {N S : Nat} {Rt : zR} (X : zm_X w Γ M N S Rt) {pc tgt : Nat} {off : Int} {K1 K2 : zB} (hd : decode M.2.1 pc = .ok (.if_icmp .le off, 3)) (ht : (pc : Int) + off = (tgt : Int)) (hK1 : ∀ lv st h, K1 lv st h → zm_V w Γ tgt lv st h) (hK2 : ∀ lv st h, K2 lv st h → zm_V w Γ (pc + 3) lv st h) : ∀ lv st h, zi_ic (fun x y => x ≤ y) K1 K2 lv st h → zm_V w Γ pc lv st h := by
  intro lv st h hk
  obtain ⟨p, e, R, s, m, args, below, meth, c, h0, Qw, nL⟩ := Γ
  obtain ⟨hx, hb, hml, hnl, hown, hts, hKK, hNw, hfr, hlo, hN, hS, hnm, hrt⟩ := X
  unfold zi_ic at hk
  split at hk
  · intro H locs ls cells slots hP hL hl h1 h2
    exact lv_icmp_le hx hb hd ht (fun q => hK1 _ _ _ (hk.1 q) H locs ls cells slots hP hL hl h1 h2) (fun q => hK2 _ _ _ (hk.2 q) H locs ls cells slots hP hL hl h1 h2)
  · exact hk.elim
theorem zs_goto {w : zW} {Γ : zC} {M : zM} {N S : Nat} {Rt : zR} (X : zm_X w Γ M N S Rt) {pc tgt : Nat} {off : Int} {K : zB} (hd : decode M.2.1 pc = .ok (.goto off, 3)) (ht : (pc : Int) + off = (tgt : Int)) (hK : ∀ lv st h, K lv st h → zm_V w Γ tgt lv st h) : ∀ lv st h, K lv st h → zm_V w Γ pc lv st h := by
  intro lv st h hk
  obtain ⟨p, e, R, s, m, args, below, meth, c, h0, Qw, nL⟩ := Γ
  obtain ⟨hx, hb, hml, hnl, hown, hts, hKK, hNw, hfr, hlo, hN, hS, hnm, hrt⟩ := X
  intro H locs ls cells slots hP hL hl h1 h2
  exact lv_goto hx hb hd ht (hK _ _ _ hk H locs ls cells slots hP hL hl h1 h2)
theorem zs_ifnull {w : zW} {Γ : zC} {M : zM} {N S : Nat} {Rt : zR} (X : zm_X w Γ M N S Rt) {pc tgt : Nat} {off : Int} {K1 K2 : zB} (hd : decode M.2.1 pc = .ok (.ifnull off, 3)) (ht : (pc : Int) + off = (tgt : Int)) (hK1 : ∀ lv st h, K1 lv st h → zm_V w Γ tgt lv st h) (hK2 : ∀ lv st h, K2 lv st h → zm_V w Γ (pc + 3) lv st h) : ∀ lv st h, zi_nul K1 K2 lv st h → zm_V w Γ pc lv st h := by
  intro lv st h hk
  obtain ⟨p, e, R, s, m, args, below, meth, c, h0, Qw, nL⟩ := Γ
  obtain ⟨hx, hb, hml, hnl, hown, hts, hKK, hNw, hfr, hlo, hN, hS, hnm, hrt⟩ := X
  unfold zi_nul at hk
  split at hk
  · intro H locs ls cells slots hP hL hl h1 h2
    exact lv_ifnullN hx hb hd ht (hK1 _ _ _ hk H locs ls cells slots hP hL hl h1 h2)
  · intro H locs ls cells slots hP hL hl h1 h2
    exact lv_ifnull hx hb hd (hK2 _ _ _ hk H locs ls cells slots hP hL hl h1 h2)
  · exact hk.elim
theorem zs_ifnonnull {w : zW} {Γ : zC} {M : zM} {N S : Nat} {Rt : zR} (X : zm_X w Γ M N S Rt) {pc tgt : Nat} {off : Int} {K1 K2 : zB} (hd : decode M.2.1 pc = .ok (.ifnonnull off, 3)) (ht : (pc : Int) + off = (tgt : Int)) (hK1 : ∀ lv st h, K1 lv st h → zm_V w Γ tgt lv st h) (hK2 : ∀ lv st h, K2 lv st h → zm_V w Γ (pc + 3) lv st h) : ∀ lv st h, zi_nul K2 K1 lv st h → zm_V w Γ pc lv st h := by
  intro lv st h hk
  obtain ⟨p, e, R, s, m, args, below, meth, c, h0, Qw, nL⟩ := Γ
  obtain ⟨hx, hb, hml, hnl, hown, hts, hKK, hNw, hfr, hlo, hN, hS, hnm, hrt⟩ := X
  unfold zi_nul at hk
  split at hk
  · intro H locs ls cells slots hP hL hl h1 h2
    exact lv_ifnonnullN hx hb hd (hK2 _ _ _ hk H locs ls cells slots hP hL hl h1 h2)
  · intro H locs ls cells slots hP hL hl h1 h2
    exact lv_ifnonnull hx hb hd ht (hK1 _ _ _ hk H locs ls cells slots hP hL hl h1 h2)
  · exact hk.elim
