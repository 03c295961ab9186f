theorem dX3_share_0 : decode cX3_share 0 = .ok (.aload_n 0, 1) := by decide +kernel
theorem dX3_share_1 : decode cX3_share 1 = .ok (.iload_n 1, 1) := by decide +kernel
theorem dX3_share_2 : decode cX3_share 2 = .ok (.invokevirtual 109, 3) := by decide +kernel
theorem dX3_share_5 : decode cX3_share 5 = .ok (.astore_n 3, 1) := by decide +kernel
theorem dX3_share_6 : decode cX3_share 6 = .ok (.aload_n 3, 1) := by decide +kernel
theorem dX3_share_7 : decode cX3_share 7 = .ok (.ifnonnull 13, 3) := by decide +kernel
theorem dX3_share_10 : decode cX3_share 10 = .ok (.new 218, 3) := by decide +kernel
theorem dX3_share_13 : decode cX3_share 13 = .ok (.dup, 1) := by decide +kernel
theorem dX3_share_14 : decode cX3_share 14 = .ok (.ldc 220, 2) := by decide +kernel
theorem dX3_share_16 : decode cX3_share 16 = .ok (.invokespecial 222, 3) := by decide +kernel
theorem dX3_share_19 : decode cX3_share 19 = .ok (.athrow, 1) := by decide +kernel
theorem dX3_share_20 : decode cX3_share 20 = .ok (.aload_n 3, 1) := by decide +kernel
theorem dX3_share_21 : decode cX3_share 21 = .ok (.iload_n 2, 1) := by decide +kernel
theorem dX3_share_22 : decode cX3_share 22 = .ok (.invokevirtual 225, 3) := by decide +kernel
theorem dX3_share_25 : decode cX3_share 25 = .ok (.istore 4, 2) := by decide +kernel
theorem dX3_share_27 : decode cX3_share 27 = .ok (.iload 4, 2) := by decide +kernel
theorem dX3_share_29 : decode cX3_share 29 = .ok (.ifCond .gt 13, 3) := by decide +kernel
theorem dX3_share_32 : decode cX3_share 32 = .ok (.new 218, 3) := by decide +kernel
theorem dX3_share_35 : decode cX3_share 35 = .ok (.dup, 1) := by decide +kernel
theorem dX3_share_36 : decode cX3_share 36 = .ok (.ldc 228, 2) := by decide +kernel
theorem dX3_share_38 : decode cX3_share 38 = .ok (.invokespecial 222, 3) := by decide +kernel
theorem dX3_share_41 : decode cX3_share 41 = .ok (.athrow, 1) := by decide +kernel
theorem dX3_share_42 : decode cX3_share 42 = .ok (.aload_n 3, 1) := by decide +kernel
theorem dX3_share_43 : decode cX3_share 43 = .ok (.iload_n 2, 1) := by decide +kernel
theorem dX3_share_44 : decode cX3_share 44 = .ok (.invokevirtual 230, 3) := by decide +kernel
theorem dX3_share_47 : decode cX3_share 47 = .ok (.iload 4, 2) := by decide +kernel
theorem dX3_share_49 : decode cX3_share 49 = .ok (.i2l, 1) := by decide +kernel
theorem dX3_share_50 : decode cX3_share 50 = .ok (.ldiv, 1) := by decide +kernel
theorem dX3_share_51 : decode cX3_share 51 = .ok (.lreturn, 1) := by decide +kernel
theorem dL_share_0 : decode cL_share 0 = .ok (.aload_n 3, 1) := by decide +kernel
theorem dL_share_1 : decode cL_share 1 = .ok (.iconst 0, 1) := by decide +kernel
theorem dL_share_2 : decode cL_share 2 = .ok (.aload_n 0, 1) := by decide +kernel
theorem dL_share_3 : decode cL_share 3 = .ok (.iload_n 1, 1) := by decide +kernel
theorem dL_share_4 : decode cL_share 4 = .ok (.iload_n 2, 1) := by decide +kernel
theorem dL_share_5 : decode cL_share 5 = .ok (.invokevirtual 7, 3) := by decide +kernel
theorem dL_share_8 : decode cL_share 8 = .ok (.lastore, 1) := by decide +kernel
theorem dL_share_9 : decode cL_share 9 = .ok (.goto 7, 3) := by decide +kernel
theorem dL_share_12 : decode cL_share 12 = .ok (.astore 4, 2) := by decide +kernel
theorem dL_share_14 : decode cL_share 14 = .ok (.iconst 1, 1) := by decide +kernel
theorem dL_share_15 : decode cL_share 15 = .ok (.ireturn, 1) := by decide +kernel
theorem dL_share_16 : decode cL_share 16 = .ok (.iconst 0, 1) := by decide +kernel
theorem dL_share_17 : decode cL_share 17 = .ok (.ireturn, 1) := by decide +kernel
set_option maxRecDepth 20000 in
theorem ki_AE : Cond.initialized "java/lang/ArithmeticException" ∈ zm_tb := List.mem_of_getElem? (i := 695) rfl
/-! share: it returns, or it throws -/
section
variable {p : Program} {l : Launch} {e : Env} {R : Room} {s : State} {m : MethodId} {args : Array Value} {below : List Frame} {meth : Method} {c : Code} {H : Heap} {locs : List Loc} {cells slots : Nat} {Q : State → Prop}
variable {mc ms : Nat} {free : Addr → Prop} {A0 A1 : Nat → Prop} {H0 : Heap} {a : Array Value} {ls : Array Slot} {st0 rest : List Value}
variable {Qc : Array Value → State → Outcome → State → Prop} {XC : String → State → State → Prop}
theorem xt_throw {cc : ByteArray} {pc : Nat} (hexec : p.tables.exec = Jvm.exec) (hb : c.code = cc) (hl : l.stackTraces = false) {own cls text : String} {names : List String} {ik is ic mc ms sa : Nat} {A : Nat → Prop}
    (hown : s.vm.findClass own = some m.cls) (hcls : Bundle.fit cls = true) (hnames : ∀ n ∈ names, Bundle.fit n = true)
    (hk : (Cond.classLink own ik cls).before args s = true) (hini : (Cond.initialized cls).before args s = true) (hstr : vk_R own is text sa s) (hat : ∀ w ∈ vx_atS own ic cls names, w.before args s = true)
    (hgood : ∀ w ∈ Cond.classLink own ik cls :: Cond.initialized cls :: vx_atS own ic cls names, vx_ot w = true)
    (hU : vx_Zq Bundle.tN "UNASSIGNED_STACK" Bundle.steD A s s.heap) (hN : vx_Zq Bundle.tN "SUPPRESSED_SENTINEL" Bundle.listD A s s.heap) (hS : va_S A s.heap H locs) (hsize : ls.size = c.maxLocals)
    (d0 : decode cc pc = .ok (.new ik, 3)) (d3 : decode cc (pc + 3) = .ok (.dup, 1)) (d4 : decode cc (pc + 4) = .ok (.ldc is, 2)) (d6 : decode cc (pc + 6) = .ok (.invokespecial ic, 3)) (d9 : decode cc (pc + 9) = .ok (.athrow, 1))
    (hout : ∀ x ∈ c.exceptionTable.toList, covers x (pc + 9) = false)
    (hRframes : names.length + 3 < R.frames) (hRlocals : (rest.map fun v => v.category).sum + (13 * (names.length + 1) + 43) ≤ R.locals) (hRcells : cells + 1 ≤ R.cells) (hRslots : slots + 6 ≤ R.slots) (hlocks : meth.locks = false)
    (hx : ∀ t : State, s.vm.Alike t.vm → t.heap.size = H.size + 1 → (∀ q : Nat, q < H.size → t.heap[q]? = H[q]?) → XC cls s t)
    (hf : ∀ z ∈ locs, free z.base) (hc : cells + 1 ≤ mc) (hs : slots + 6 ≤ ms) :
    W p l e R s m args below meth c H locs cells slots (vx_MQ below Qc XC args s mc ms free) (F0 m pc ls rest) := by
  intro T hT X
  have htr : e.platform.stackTraces = false := (show e.platform.stackTraces = l.stackTraces by rw [X.admits.platform]).trans hl
  have Y := vx_rebase X (R' := { frames := R.frames, locals := R.locals, cells := 1, slots := 6 }) (Nat.le_refl _) (Nat.le_refl _) hRcells hRslots
  obtain ⟨s', hA⟩ : ∃ z, z = (T.setVm s.vm).setFrames (.invoking m args :: below) := ⟨_, rfl⟩
  rw [← hA] at Y
  have hvm : s'.vm = s.vm := by rw [hA]; rfl
  have hhp : s'.heap = H := by rw [hA]; exact hT
  have hW0 : s.WarmedH s'.vm := by rw [hvm]; exact State.WarmedH.refl s
  have hat' : ∀ w ∈ vx_atS own ic cls names, w.before args s' = true := fun w hw => vx_ot_at hW0 hvm.symm (hgood w (List.mem_cons_of_mem _ (List.mem_cons_of_mem _ hw))) (hat w hw)
  have hk' : (Cond.classLink own ik cls).before args s' = true := vx_ot_at hW0 hvm.symm (hgood _ List.mem_cons_self) hk
  have hini' : (Cond.initialized cls).before args s' = true := vx_ot_at hW0 hvm.symm (hgood _ (List.mem_cons_of_mem _ List.mem_cons_self)) hini
  have hU' : vx_Zq Bundle.tN "UNASSIGNED_STACK" Bundle.steD A s' s'.heap := by rw [hhp]; exact vx_Zq.moved hW0.alike (hU.kept hS.2.1)
  have hN' : vx_Zq Bundle.tN "SUPPRESSED_SENTINEL" Bundle.listD A s' s'.heap := by rw [hhp]; exact vx_Zq.moved hW0.alike (hN.kept hS.2.1)
  have h : ∀ w ∈ Bundle.ownAtoms own ic cls names, w.before args s' = true := vx_own hat' (vx_isRefq hU'.1) (vx_isRefq hN'.1) hU'.2.word hN'.2.word
  have hown' : s'.vm.findClass own = some m.cls := by rw [hvm]; exact hown
  have hins : (Cond.instantiable cls 6).before args s' = true := h _ (by simp [Bundle.ownAtoms])
  obtain ⟨vm₁, cX, kX, hfX, hkX, -, -, X₁, st1⟩ := Y.newCold hexec (own := own) (C := cls) (index := ik) (n := 6) hown' hk' hins hini'
    (g := F0 m pc ls rest) rfl (by rw [hb]; exact d0) (Nat.le_refl _) (Nat.le_refl _)
  generalize hT1 : (T.setVm vm₁).pushCell { cls := cX, slots := kX.instanceTypes.map defaultValue, vm := .none } = T1 at X₁ st1
  have hcat : (Value.ref T.heap.size).category = 1 := rfl
  have hcellA : T1.heap[T.heap.size]? = some (freshCell cX kX) := by rw [← hT1]; exact State.heap_pushCell_size _ _
  have d3' : decode c.code (pc + 3) = .ok (.dup, 1) := by rw [hb]; exact d3
  have d4' : decode c.code (pc + 4) = .ok (.ldc is, 2) := by rw [hb]; exact d4
  have hstr' : vk_R own is text sa s' := vk_R.warm hW0 hstr
  obtain ⟨U, hsteps, hrun, hend, hW, hsame, ce, hce, hO⟩ := X₁.ctorThrowS hexec htr (own := own) (cls := cls) (names := names) (ic := ic) hown' hcls hnames h (fun x hx => nomatch hx) hfX hkX hcellA (by rw [hhp, hT]; exact Nat.le_refl _) (msg := .ref sa) rfl
    (g := { method := m, pc := pc + 6, locals := ls, stack := .ref sa :: .ref T.heap.size :: .ref T.heap.size :: rest, locked := none }) rfl hsize rfl rfl (rest := rest) rfl
    (by rw [hb]; exact d6) (by rw [hb]; exact d9) hout hRframes (by simp only [List.map_cons, List.sum_cons, hcat]; omega) hlocks
  obtain ⟨f1, f2⟩ := vx_frame hsame
  have f3 : U.heap.size ≤ s'.heap.size + (0 + 1) := hsame.2.2.1
  have f4 : T.heap.size < U.heap.size := (Array.getElem?_eq_some_iff.mp hce).1
  rw [hhp] at f1 f2 f3
  have f5 : U.heap.size = H.size + 1 := by rw [hT] at f4; omega
  have hWs : s.WarmedH U.vm := State.WarmedH.trans hW0 hW
  have hcl : s.vm.findClass cls = some ce.cls := by
    have h9 := hO.cls
    rw [hvm] at h9
    exact h9
  have hall : s.sameButNew ({ U with vm := s.vm } : State) locs mc ms := by
    subst hA
    obtain ⟨e1, e2⟩ := hsame
    rw [State.setFrames_setFrames] at e1
    have h2 : (T.setVm s.vm).sameButNew ({ U with vm := s.vm } : State) [] (0 + 1) (0 + 6) := ⟨e1, e2⟩
    have h3 := X.same.trans h2
    rw [List.append_nil] at h3
    exact h3.mono hc hs
  refine ⟨U, ?_, .threw T.heap.size, hrun, hend, Or.inr ⟨T.heap.size, rfl, cls, ce, locs, hx U hWs.alike f5 (fun q hq => f2 q hq (fun z hz => nomatch hz)), hce, hO.vm, hcl, hWs, hall, hf⟩⟩
  refine st1 _ ?_
  show Steps p.tables e below (T1.setTop { method := m, pc := pc + 3, locals := ls, stack := .ref T.heap.size :: rest, locked := none }) _
  jvm_step X₁.here [X₁.here.top, hexec, d3', Value.category]
  exact X₁.ldcString hexec (own := own) (text := text) (index := is) (a := sa) hown' hstr'.1 hstr'.2
    (g := { method := m, pc := pc + 4, locals := ls, stack := .ref T.heap.size :: .ref T.heap.size :: rest, locked := none }) rfl d4' _ hsteps
end
def xw : List Cond := vx_atS RX3 222 "java/lang/ArithmeticException" ["java/lang/RuntimeException", "java/lang/Exception"]
def xg : List Cond := xw.filter goodWord
def xn : List Cond := [.declares (Bundle.initS "java/lang/RuntimeException"), .declares (Bundle.initS "java/lang/Exception"), .declares (Bundle.initS Bundle.tN), .castable "java/lang/ArithmeticException" "java/lang/ArithmeticException"]
theorem xw_n : ∀ w ∈ xw.filter (fun w => !goodWord w), w ∈ xn := by decide +kernel
theorem xw_ot : ∀ w ∈ Cond.classLink RX3 218 "java/lang/ArithmeticException" :: Cond.initialized "java/lang/ArithmeticException" :: xw, vx_ot w = true := by decide +kernel
theorem xw_tbl : ∀ w ∈ xw, w ∈ lw_tbl := by decide +kernel
theorem xn_tbl : ∀ w ∈ xn, w ∈ lw_tbl := by decide +kernel
theorem xn_ot : ∀ w ∈ xn, w.onTables = true := by decide +kernel
theorem xn_use {args : Array Value} {s : State} (h : ∀ q ∈ xn, va_Nw q s) : ∀ q ∈ xn, q.before args s = true := fun q hq => va_Nw.use (xn_ot q hq) (h q hq)
theorem va_Nw_warmD {x : MethodName} {s U : State} (hW : s.WarmedH U.vm) (hZ : va_Nw (.declares x) s) : va_Nw (.declares x) U := va_tabs rfl (rfl : (s.setVm U.vm).vm = U.vm) (by rw [Cond.declares_setVm hW.alike]; exact hZ)
theorem xn_warm {s U : State} (h : ∀ q ∈ xn, va_Nw q s) (hW : s.WarmedH U.vm) : ∀ q ∈ xn, va_Nw q U := by
  intro q hq
  have h0 := h q hq
  simp only [xn, List.mem_cons, List.not_mem_nil, or_false] at hq
  rcases hq with rfl | rfl | rfl | rfl
  · exact va_Nw_warmD hW h0
  · exact va_Nw_warmD hW h0
  · exact va_Nw_warmD hW h0
  · exact va_Nw.warmC hW h0
/-- what a throw needs of the start: words, two statics, two strings -/
def zm_Y (w : zW) (a1 a2 : Nat) (s : State) : Prop := (∀ q ∈ xn, va_Nw q s) ∧ vx_Zq Bundle.tN "UNASSIGNED_STACK" Bundle.steD (fun q => w.2.2.2.1 ≤ q) s w.2.2.2.2 ∧ vx_Zq Bundle.tN "SUPPRESSED_SENTINEL" Bundle.listD (fun q => w.2.2.2.1 ≤ q) s w.2.2.2.2 ∧ vk_R RX3 220 "no such beam" a1 s ∧ vk_R RX3 228 "no note of the beam has so many levels" a2 s
theorem zm_Y.warm {w : zW} {a1 a2 : Nat} {s U : State} (h : zm_Y w a1 a2 s) (hW : s.WarmedH U.vm) : zm_Y w a1 a2 U := ⟨xn_warm h.1 hW, vx_Zq.moved hW.alike h.2.1, vx_Zq.moved hW.alike h.2.2.1, vk_R.warm hW h.2.2.2.1, vk_R.warm hW h.2.2.2.2⟩
theorem zm_Y.same {w : zW} {a1 a2 : Nat} {s U : State} (h : zm_Y w a1 a2 s) (hv : s.vm = U.vm) : zm_Y w a1 a2 U := ⟨fun q hq => va_Nw.same (xn_ot q hq) hv (h.1 q hq), vx_Zq.moved (by rw [hv]; exact Vm.Alike.refl _) h.2.1, vx_Zq.moved (by rw [hv]; exact Vm.Alike.refl _) h.2.2.1, vk_R.same hv.symm h.2.2.2.1, vk_R.same hv.symm h.2.2.2.2⟩
abbrev mS3 : zM := (yX3_share, cX3_share, 5, (some .long), 6, 90)
abbrev mLs : zM := (yL_share, cL_share, 5, (some .int), 7, 114)
def ws3 : List Cond := Cond.code yX3_share cX3_share 5 (some .long) :: (zm_tb ++ xg)
def zm_UY (w : zW) (a1 a2 : Nat) (h : zH) (U : State) : Prop := zm_U w h U ∧ zm_Y w a1 a2 U
/-- share throws -/
def zm_CX (w : zW) (a1 a2 : Nat) (As : List Value) (h : zH) : Prop := vx_Met w.1 yX3_share ws3 { frames := 6, cells := 1, slots := 6, locals := 90 } (va_Pc As (zm_UY w a1 a2 h)) (fun _ _ _ _ => False) (fun E _ t => E = "java/lang/ArithmeticException" ∧ zm_P w (h.1, h.2.1 + 1, h.2.2 + 6) t.heap) 1 6 (fun q => w.2.2.2.1 ≤ q)
theorem zm_grow {w : zW} {h : zH} {H H' : Heap} {k : Nat} (hP : zm_P w h H) (h1 : H'.size = H.size + 1) (h2 : ∀ q : Nat, q < H.size → H'[q]? = H[q]?) : zm_P w (h.1, h.2.1 + 1, h.2.2 + k) H' := by
  obtain ⟨p1, p2, p3, p4⟩ := hP
  refine ⟨by show H'.size = h.2.1 + 1; omega, by show w.2.2.2.1 ≤ h.2.1 + 1; omega, fun q hq => ?_, fun a o ha => ?_⟩
  · rw [h2 q (by omega)]
    exact p3 q hq
  · obtain ⟨a1, a2⟩ := p4 a o ha
    refine ⟨a1, ?_⟩
    exact va_at.kept a2 (h2 a (va_at.lt a2))
theorem zm_CX.of {w : zW} {a1 a2 : Nat} {As : List Value} {h : zH} (hl : w.1.stackTraces = false) (hn : (lg_sl As).length ≤ 5) (k : ∀ Γ : zC, zm_X w Γ mS3 (h.2.1 + 1) (h.2.2 + 6) (fun _ _ => False) → (∀ lv, zm_V w Γ 10 lv [] h) → (∀ lv, zm_V w Γ 32 lv [] h) → zm_V w Γ 0 (zm_en 5 As) [] h) : zm_CX w a1 a2 As h := by
  refine vx_ofW (cc := cX3_share) (maxL := 5) (ret := some .long) (by decide) rfl ?_
  intro p e s m args below meth c s₁ B hml hexc hv
  obtain ⟨rfl, ⟨hP, hK, hN⟩, hY⟩ := hv
  have hx := B.exec
  have hb := B.bytes
  have hts := atoms_spec (ws := ws3) B.pre
  have hown : s.vm.findClass RX3 = some m.cls := findClass_of_methodNamed B.named
  have hlocks := B.notSynchronized
  have hnm : meth.name = "share" := (name_of_methodNamed B.named B.method).1
  have hen := lv_entry As (n := 5) hn
  have hts1 : ∀ q ∈ zm_tb, q.before As.toArray s = true := fun q hq => hts q (List.mem_cons_of_mem _ (List.mem_append_left _ hq))
  have hxg : ∀ q ∈ xw, q.before As.toArray s = true := vx_hat (fun q hq => hts q (List.mem_cons_of_mem _ (List.mem_append_right _ hq))) xw_n (xn_use hY.1)
  have kz : ∀ q : Nat, q < w.2.2.2.2.size → ¬ w.2.2.2.1 ≤ q → s.heap[q]? = w.2.2.2.2[q]? := fun q _ hq => hP.2.2.1 q (by omega)
  have hU := vx_Zq.kept hY.2.1 kz
  have hS := vx_Zq.kept hY.2.2.1 kz
  have T : ∀ (pc is sa : Nat) (text : String), vk_R RX3 is text sa s → decode cX3_share pc = .ok (.new 218, 3) → decode cX3_share (pc + 3) = .ok (.dup, 1) → decode cX3_share (pc + 4) = .ok (.ldc is, 2) → decode cX3_share (pc + 6) = .ok (.invokespecial 222, 3) → decode cX3_share (pc + 9) = .ok (.athrow, 1) → ∀ lv, zm_V w (p, e, { frames := 6, cells := 1, slots := 6, locals := 90 }, s, m, As.toArray, below, meth, c, h, vx_MQ below (fun _ _ _ _ => False) (fun E _ t => E = "java/lang/ArithmeticException" ∧ zm_P w (h.1, h.2.1 + 1, h.2.2 + 6) t.heap) As.toArray s 1 6 (fun q => w.2.2.2.1 ≤ q), 5) pc lv [] h := by
    intro pc is sa text hstr d0 d3 d4 d6 d9 lv
    intro H locs ls cells slots hP2 hL hl2 g1 g2
    have hc0 : cells = 0 := by omega
    have hs0 : slots = 0 := by omega
    subst hc0; subst hs0
    have hva : va_S (fun q => w.2.2.2.1 ≤ q) s.heap H locs := ⟨by rw [hP.1, hP2.1]; exact Nat.le_refl _, fun q _ hq => by rw [hP2.2.2.1 q (by omega), hP.2.2.1 q (by omega)], hL⟩
    refine xt_throw hx hb hl (own := RX3) (cls := "java/lang/ArithmeticException") (text := text) (names := ["java/lang/RuntimeException", "java/lang/Exception"]) (ik := 218) (is := is) (ic := 222) (sa := sa) (A := fun q => w.2.2.2.1 ≤ q) hown (by decide) (by decide) (hts1 _ kw_X3_218) (hts1 _ ki_AE) hstr hxg xw_ot hU hS hva (by rw [hl2.1, hml]) d0 d3 d4 d6 d9 (fun x hx' => (hexc x hx').elim) (by decide) (by decide) (by decide) (by decide) hlocks (fun t _ ht1 ht2 => ⟨rfl, zm_grow hP2 ht1 ht2⟩) hL (by decide) (by decide)
  rw [lg_entry_eq]
  refine k (p, e, { frames := 6, cells := 1, slots := 6, locals := 90 }, s, m, As.toArray, below, meth, c, h, _, 5) ⟨hx, hb, hml, rfl, hown, hts1, hK, hN, Nat.le_refl _, Nat.le_refl _, Nat.le_refl _, Nat.le_refl _, hnm, fun v h2 pc lv hf => hf.elim⟩ (T 10 220 a1 "no such beam" hY.2.2.2.1 dX3_share_10 dX3_share_13 dX3_share_14 dX3_share_16 dX3_share_19) (T 32 228 a2 "no note of the beam has so many levels" hY.2.2.2.2 dX3_share_32 dX3_share_35 dX3_share_36 dX3_share_38 dX3_share_41) s.heap [] _ 0 0 hP (fun q hq => by cases hq) (zm_lv.of hen (fun j v hj => zm_en_at hj)) rfl rfl
set_option maxRecDepth 20000 in
theorem bkS3_0 {w : zW} {Γ : zC} {N S : Nat} {Rt : zR} (X : zm_X w Γ mS3 N S Rt) : ∀ lv st h, (zi_lda 0 (zi_ldi 1 (zi_cv w mX3_beamAt 3 2 N S (zi_sta 3 (zi_lda 3 (zi_nul (zm_V w Γ 10) (zm_V w Γ 20))))))) lv st h → zm_V w Γ 0 lv st h := (zs_aload_n X rfl dX3_share_0 (zs_iload_n X rfl dX3_share_1 (zs_cv X (M' := mX3_beamAt) (n := 1) kd_X3_beamAt ki_X3 (by decide +kernel) (by decide) kw_X3_109 rfl ks_X3_beamAt kl_X3_beamAt dX3_share_2 (zs_astore_n X rfl (by decide) dX3_share_5 (zs_aload_n X rfl dX3_share_6 (zs_ifnonnull X dX3_share_7 (by decide) (fun _ _ _ h => h) (fun _ _ _ h => h)))))))
set_option maxRecDepth 20000 in
theorem bkS3_20 {w : zW} {Γ : zC} {N S : Nat} {Rt : zR} (X : zm_X w Γ mS3 N S Rt) : ∀ lv st h, (zi_lda 3 (zi_ldi 2 (zi_cv w mX1_countWith 1 2 N S (zi_sti 4 (zi_ldi 4 (zi_if (fun x => 0 < x) (zm_V w Γ 42) (zm_V w Γ 32))))))) lv st h → zm_V w Γ 20 lv st h := (zs_aload_n X rfl dX3_share_20 (zs_iload_n X rfl dX3_share_21 (zs_cv X (M' := mX1_countWith) (n := 1) kd_X1_countWith ki_X1 (by decide +kernel) (by decide) kw_X3_225 rfl ks_X1_countWith kl_X1_countWith dX3_share_22 (zs_istore X (by decide) dX3_share_25 (zs_iload X dX3_share_27 (zs_if_gt X dX3_share_29 (by decide) (fun _ _ _ h => h) (fun _ _ _ h => h)))))))
set_option maxRecDepth 20000 in
theorem bkS3_42 {w : zW} {Γ : zC} {N S : Nat} {Rt : zR} (X : zm_X w Γ mS3 N S Rt) : ∀ lv st h, (zi_lda 3 (zi_ldi 2 (zi_cv w mX1_lengthsWith 1 2 N S (zi_ldi 4 (zi_i2l (zi_dl (fun x y => x / y) (zi_lret Rt))))))) lv st h → zm_V w Γ 42 lv st h := (zs_aload_n X rfl dX3_share_42 (zs_iload_n X rfl dX3_share_43 (zs_cv X (M' := mX1_lengthsWith) (n := 1) kd_X1_lengthsWith ki_X1 (by decide +kernel) (by decide) kw_X3_230 rfl ks_X1_lengthsWith kl_X1_lengthsWith dX3_share_44 (zs_iload X dX3_share_47 (zs_i2l X dX3_share_49 (zs_ldiv X dX3_share_50 (zs_lret X rfl dX3_share_51)))))))
