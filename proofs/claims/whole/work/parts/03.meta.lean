/-! A small abstract machine over the kit's worlds: the heap is a function from addresses to cells; a block of bytecode is a
nest of combinators (zi_..) that says what must hold for it to go on; each has its row (zs_..) over the machine. -/
abbrev zO : Type := (Nat × vp_A) ⊕ (Nat × List Value)
abbrev zH : Type := (Nat → Option zO) × Nat × Nat
abbrev zL : Type := List (Option Value)
abbrev zB : Type := zL → List Value → zH → Prop
abbrev zK : Type := Nat → zB
abbrev zR : Type := Option Value → zH → Prop
/-- a method: name, code, locals, what it returns, frames and words of locals that its calls take -/
abbrev zM : Type := MethodName × ByteArray × Nat × Option FieldType × Nat × Nat
/-- launch, class numbers, array classes, the first address that is ours, the heap below it -/
abbrev zW : Type := Launch × va_G × (Nat → ClassId) × Nat × Heap
def zm_E (dA : Nat → ClassId) : zO → va_E
  | .inl (t, x) => .inl (dA t, x)
  | .inr o => .inr o
def zm_P (w : zW) (h : zH) (H : Heap) : Prop := H.size = h.2.1 ∧ w.2.2.2.1 ≤ h.2.1 ∧ (∀ q : Nat, q < w.2.2.2.1 → H[q]? = w.2.2.2.2[q]?) ∧ ∀ (a : Nat) (o : zO), h.1 a = some o → w.2.2.2.1 ≤ a ∧ va_at w.2.1 vwCl (a, zm_E w.2.2.1 o) H
def zm_up (f : Nat → Option zO) (a : Nat) (o : zO) : Nat → Option zO := fun b => if b = a then some o else f b
theorem zm_up_self (f : Nat → Option zO) (a : Nat) (o : zO) : zm_up f a o a = some o := by simp [zm_up]
theorem zm_up_ne (f : Nat → Option zO) {a b : Nat} (o : zO) (h : b ≠ a) : zm_up f a o b = f b := by simp [zm_up, h]
def zm_lv (ls : Array Slot) (nL : Nat) (lv : zL) : Prop := ls.size = nL ∧ lv_wf ls ∧ ∀ (i : Nat) (v : Value), lv[i]? = some (some v) → ls[i]? = some (.val v)
def zm_prs (lv : zL) : List (Nat × Value) := lv.zipIdx.filterMap (fun q => q.1.map (fun v => (q.2, v)))
theorem zm_prs_mem {lv : zL} {j : Nat} {w : Value} : (j, w) ∈ zm_prs lv ↔ lv[j]? = some (some w) := by
  unfold zm_prs
  rw [List.mem_filterMap]
  constructor
  · rintro ⟨⟨o, i⟩, h1, h2⟩
    rw [List.mem_zipIdx_iff_getElem?] at h1
    cases o with
    | none => simp at h2
    | some v =>
      simp at h2
      obtain ⟨rfl, rfl⟩ := h2
      exact h1
  · intro h
    exact ⟨(some w, j), List.mem_zipIdx_iff_getElem?.mpr h, rfl⟩
theorem zm_lv.has {ls : Array Slot} {nL : Nat} {lv : zL} (h : zm_lv ls nL lv) : lv_has ls nL (zm_prs lv) := ⟨h.1, h.2.1, fun q hq => h.2.2 q.1 q.2 (zm_prs_mem.mp hq)⟩
theorem zm_lv.of {ls : Array Slot} {nL : Nat} {lv : zL} {l : List (Nat × Value)} (h : lv_has ls nL l) (hl : ∀ j w, lv[j]? = some (some w) → (j, w) ∈ l) : zm_lv ls nL lv := ⟨h.1, h.2.1, fun i v hi => h.2.2 (i, v) (hl i v hi)⟩
/-- a long that would be cut by a store at i is gone -/
def zm_k (lv : zL) (i : Nat) : zL := match i with
  | 0 => lv
  | j + 1 => match lv[j]? with
    | some (some w) => if w.category = 2 then lv.set j none else lv
    | _ => lv
def zm_s1 (lv : zL) (i : Nat) (v : Value) : zL := (zm_k lv i).set i (some v)
def zm_s2 (lv : zL) (i : Nat) (v : Value) : zL := ((zm_k lv i).set (i + 1) none).set i (some v)
theorem zm_k_at {lv : zL} {i j : Nat} {w : Value} (h : (zm_k lv i)[j]? = some (some w)) : lv[j]? = some (some w) ∧ ¬ (j + 1 = i ∧ w.category = 2) := by
  cases i with
  | zero => exact ⟨h, fun q => by omega⟩
  | succ i =>
    simp only [zm_k] at h
    cases hl : lv[i]? with
    | none =>
      rw [hl] at h
      exact ⟨h, fun q => by
        have : j = i := by omega
        subst this
        rw [hl] at h
        cases h⟩
    | some o =>
      rw [hl] at h
      cases o with
      | none =>
        exact ⟨h, fun q => by
          have : j = i := by omega
          subst this
          simp only at h
          rw [hl] at h
          cases h⟩
      | some x =>
        simp only at h
        by_cases hc : x.category = 2
        · rw [if_pos hc, List.getElem?_set] at h
          by_cases hij : i = j
          · rw [if_pos hij] at h
            split at h <;> cases h
          · rw [if_neg hij] at h
            exact ⟨h, fun q => hij (by omega)⟩
        · rw [if_neg hc] at h
          refine ⟨h, fun q => ?_⟩
          have : j = i := by omega
          subst this
          rw [hl] at h
          cases h
          exact hc q.2
theorem zm_s1_at {lv : zL} {i j : Nat} {v w : Value} (h : (zm_s1 lv i v)[j]? = some (some w)) : (j, w) ∈ ((i, v) :: (zm_prs lv).filter (fun q => !(q.1 == i) && !(q.1 + 1 == i && q.2.category == 2))) := by
  unfold zm_s1 at h
  rw [List.getElem?_set] at h
  by_cases hij : i = j
  · rw [if_pos hij] at h
    split at h
    · cases h
      subst hij
      exact List.mem_cons_self
    · cases h
  · rw [if_neg hij] at h
    obtain ⟨h1, h2⟩ := zm_k_at h
    refine List.mem_cons_of_mem _ (List.mem_filter.mpr ⟨zm_prs_mem.mpr h1, ?_⟩)
    have h3 : ¬ j = i := fun q => hij q.symm
    simp only [Bool.and_eq_true, Bool.not_eq_true', beq_eq_false_iff_ne, ne_eq, Bool.and_eq_false_iff]
    refine ⟨h3, ?_⟩
    by_cases hj : j + 1 = i
    · exact Or.inr (fun q => h2 ⟨hj, q⟩)
    · exact Or.inl hj
theorem zm_s2_at {lv : zL} {i j : Nat} {v w : Value} (h : (zm_s2 lv i v)[j]? = some (some w)) : (j, w) ∈ ((i, v) :: (zm_prs lv).filter (fun q => !(q.1 == i) && (!(q.1 == i + 1) && !(q.1 + 1 == i && q.2.category == 2)))) := by
  unfold zm_s2 at h
  rw [List.getElem?_set] at h
  by_cases hij : i = j
  · rw [if_pos hij] at h
    split at h
    · cases h
      subst hij
      exact List.mem_cons_self
    · cases h
  · rw [if_neg hij, List.getElem?_set] at h
    by_cases hij2 : i + 1 = j
    · rw [if_pos hij2] at h
      split at h <;> cases h
    · rw [if_neg hij2] at h
      obtain ⟨h1, h2⟩ := zm_k_at h
      refine List.mem_cons_of_mem _ (List.mem_filter.mpr ⟨zm_prs_mem.mpr h1, ?_⟩)
      have h3 : ¬ j = i := fun q => hij q.symm
      have h4 : ¬ j = i + 1 := fun q => hij2 q.symm
      simp only [Bool.and_eq_true, Bool.not_eq_true', beq_eq_false_iff_ne, ne_eq, Bool.and_eq_false_iff]
      refine ⟨h3, h4, ?_⟩
      by_cases hj : j + 1 = i
      · exact Or.inr (fun q => h2 ⟨hj, q⟩)
      · exact Or.inl hj
/-! the combinators -/
def zi_push (v : Value) (K : zB) (lv : zL) (st : List Value) (h : zH) : Prop := K lv (v :: st) h
def zi_ldi (i : Nat) (K : zB) (lv : zL) (st : List Value) (h : zH) : Prop := match lv[i]? with
  | some (some (.int x)) => K lv (.int x :: st) h
  | _ => False
def zi_ldl (i : Nat) (K : zB) (lv : zL) (st : List Value) (h : zH) : Prop := match lv[i]? with
  | some (some (.long x)) => K lv (.long x :: st) h
  | _ => False
def zi_lda (i : Nat) (K : zB) (lv : zL) (st : List Value) (h : zH) : Prop := match lv[i]? with
  | some (some (.ref x)) => K lv (.ref x :: st) h
  | some (some .null) => K lv (.null :: st) h
  | _ => False
def zi_sti (i : Nat) (K : zB) (lv : zL) (st : List Value) (h : zH) : Prop := match st with
  | .int x :: r => K (zm_s1 lv i (.int x)) r h
  | _ => False
def zi_stl (i : Nat) (K : zB) (lv : zL) (st : List Value) (h : zH) : Prop := match st with
  | .long x :: r => K (zm_s2 lv i (.long x)) r h
  | _ => False
def zi_sta (i : Nat) (K : zB) (lv : zL) (st : List Value) (h : zH) : Prop := match st with
  | .ref x :: r => K (zm_s1 lv i (.ref x)) r h
  | .null :: r => K (zm_s1 lv i .null) r h
  | _ => False
def zi_inc (i : Nat) (d : Int32) (K : zB) (lv : zL) (st : List Value) (h : zH) : Prop := match lv[i]? with
  | some (some (.int x)) => K (zm_s1 lv i (.int (x + d))) st h
  | _ => False
def zi_b (f : Int32 → Int32 → Int32) (K : zB) (lv : zL) (st : List Value) (h : zH) : Prop := match st with
  | .int y :: .int x :: r => K lv (.int (f x y) :: r) h
  | _ => False
def zi_d (f : Int32 → Int32 → Int32) (K : zB) (lv : zL) (st : List Value) (h : zH) : Prop := match st with
  | .int y :: .int x :: r => ¬ y = 0 ∧ K lv (.int (f x y) :: r) h
  | _ => False
def zi_u (f : Int32 → Int32) (K : zB) (lv : zL) (st : List Value) (h : zH) : Prop := match st with
  | .int x :: r => K lv (.int (f x) :: r) h
  | _ => False
def zi_bl (f : Int64 → Int64 → Int64) (K : zB) (lv : zL) (st : List Value) (h : zH) : Prop := match st with
  | .long y :: .long x :: r => K lv (.long (f x y) :: r) h
  | _ => False
def zi_dl (f : Int64 → Int64 → Int64) (K : zB) (lv : zL) (st : List Value) (h : zH) : Prop := match st with
  | .long y :: .long x :: r => ¬ y = 0 ∧ K lv (.long (f x y) :: r) h
  | _ => False
def zi_ul (f : Int64 → Int64) (K : zB) (lv : zL) (st : List Value) (h : zH) : Prop := match st with
  | .long x :: r => K lv (.long (f x) :: r) h
  | _ => False
def zi_lcmp (K : zB) (lv : zL) (st : List Value) (h : zH) : Prop := match st with
  | .long y :: .long x :: r => K lv (.int (lg_cmp x y) :: r) h
  | _ => False
def zi_i2l (K : zB) (lv : zL) (st : List Value) (h : zH) : Prop := match st with
  | .int x :: r => K lv (.long x.toInt64 :: r) h
  | _ => False
def zi_l2i (K : zB) (lv : zL) (st : List Value) (h : zH) : Prop := match st with
  | .long x :: r => K lv (.int x.toInt32 :: r) h
  | _ => False
def zi_if (P : Int32 → Prop) (K1 K2 : zB) (lv : zL) (st : List Value) (h : zH) : Prop := match st with
  | .int x :: r => (P x → K1 lv r h) ∧ (¬ P x → K2 lv r h)
  | _ => False
def zi_ic (P : Int32 → Int32 → Prop) (K1 K2 : zB) (lv : zL) (st : List Value) (h : zH) : Prop := match st with
  | .int y :: .int x :: r => (P x y → K1 lv r h) ∧ (¬ P x y → K2 lv r h)
  | _ => False
/-- null goes to K1, else K2 -/
def zi_nul (K1 K2 : zB) (lv : zL) (st : List Value) (h : zH) : Prop := match st with
  | .null :: r => K1 lv r h
  | .ref _ :: r => K2 lv r h
  | _ => False
def zi_dup (K : zB) (lv : zL) (st : List Value) (h : zH) : Prop := match st with
  | v :: r => v.category = 1 ∧ K lv (v :: v :: r) h
  | _ => False
def zi_pop (K : zB) (lv : zL) (st : List Value) (h : zH) : Prop := match st with
  | v :: r => v.category = 1 ∧ K lv r h
  | _ => False
def zi_pop2 (K : zB) (lv : zL) (st : List Value) (h : zH) : Prop := match st with
  | v :: r => v.category = 2 ∧ K lv r h
  | _ => False
def zi_dup_x1 (K : zB) (lv : zL) (st : List Value) (h : zH) : Prop := match st with
  | v :: u :: r => v.category = 1 ∧ u.category = 1 ∧ K lv (v :: u :: v :: r) h
  | _ => False
def zi_dup_x2 (K : zB) (lv : zL) (st : List Value) (h : zH) : Prop := match st with
  | v :: u :: t :: r => v.category = 1 ∧ u.category = 1 ∧ t.category = 1 ∧ K lv (v :: u :: t :: v :: r) h
  | _ => False
def zi_dup2 (K : zB) (lv : zL) (st : List Value) (h : zH) : Prop := match st with
  | v :: u :: r => v.category = 1 ∧ u.category = 1 ∧ K lv (v :: u :: v :: u :: r) h
  | _ => False
def zi_dup2l (K : zB) (lv : zL) (st : List Value) (h : zH) : Prop := match st with
  | v :: r => v.category = 2 ∧ K lv (v :: v :: r) h
  | _ => False
def zi_dup2_x1l (K : zB) (lv : zL) (st : List Value) (h : zH) : Prop := match st with
  | v :: u :: r => v.category = 2 ∧ u.category = 1 ∧ K lv (v :: u :: v :: r) h
  | _ => False
def zi_gf (ci k : Nat) (K : zB) (lv : zL) (st : List Value) (h : zH) : Prop := match st with
  | .ref a :: r => match h.1 a with
    | some (.inr (c', fs)) => c' = ci ∧ (match fs[k]? with
      | some v => K lv (v :: r) h
      | none => False)
    | _ => False
  | _ => False
def zm_ft (ty : FieldType) (v : Value) : Prop := narrow ty v = v ∧ fits ty v = true
def zi_pf (ci k : Nat) (ty : FieldType) (K : zB) (lv : zL) (st : List Value) (h : zH) : Prop := match st with
  | v :: .ref a :: r => match h.1 a with
    | some (.inr (c', fs)) => c' = ci ∧ zm_ft ty v ∧ k < fs.length ∧ K lv r (zm_up h.1 a (.inr (c', fs.set k v)), h.2)
    | _ => False
  | _ => False
def zi_ia (t : Nat) (K : zB) (lv : zL) (st : List Value) (h : zH) : Prop := match st with
  | .int i :: .ref a :: r => match h.1 a with
    | some (.inl (t', n, .inl f)) => t' = t ∧ vp_in i n ∧ K lv (.int (f i.toNatClampNeg) :: r) h
    | _ => False
  | _ => False
def zi_is (t : Nat) (K : zB) (lv : zL) (st : List Value) (h : zH) : Prop := match st with
  | .int x :: .int i :: .ref a :: r => match h.1 a with
    | some (.inl (t', n, .inl f)) => t' = t ∧ vp_in i n ∧ K lv r (zm_up h.1 a (.inl (t', n, .inl (upd f i.toNatClampNeg x))), h.2)
    | _ => False
  | _ => False
def zi_la (t : Nat) (K : zB) (lv : zL) (st : List Value) (h : zH) : Prop := match st with
  | .int i :: .ref a :: r => match h.1 a with
    | some (.inl (t', n, .inr (.inl f))) => t' = t ∧ vp_in i n ∧ K lv (.long (f i.toNatClampNeg) :: r) h
    | _ => False
  | _ => False
def zi_lst (t : Nat) (K : zB) (lv : zL) (st : List Value) (h : zH) : Prop := match st with
  | .long x :: .int i :: .ref a :: r => match h.1 a with
    | some (.inl (t', n, .inr (.inl f))) => t' = t ∧ vp_in i n ∧ K lv r (zm_up h.1 a (.inl (t', n, .inr (.inl (vp_updL f i.toNatClampNeg x)))), h.2)
    | _ => False
  | _ => False
def zi_aa (t : Nat) (K : zB) (lv : zL) (st : List Value) (h : zH) : Prop := match st with
  | .int i :: .ref a :: r => match h.1 a with
    | some (.inl (t', n, .inr (.inr (.inr (.inr f))))) => t' = t ∧ vp_in i n ∧ K lv (va_rf (f i.toNatClampNeg) :: r) h
    | _ => False
  | _ => False
/-- the cell b is an object of class ci -/
def zm_is (h : zH) (b ci : Nat) : Prop := match h.1 b with
  | some (.inr (c', _)) => c' = ci
  | _ => False
theorem zm_is.of {h : zH} {b ci : Nat} (hk : zm_is h b ci) : ∃ fs, h.1 b = some (.inr (ci, fs)) := by
  unfold zm_is at hk
  split at hk
  · rename_i c' fs hf
    exact ⟨fs, by rw [hf, hk]⟩
  · exact hk.elim
def zi_as (t ci : Nat) (K : zB) (lv : zL) (st : List Value) (h : zH) : Prop := match st with
  | .ref v :: .int i :: .ref a :: r => match h.1 a with
    | some (.inl (t', n, .inr (.inr (.inr (.inr f))))) => t' = t ∧ vp_in i n ∧ zm_is h v ci ∧ K lv r (zm_up h.1 a (.inl (t', n, .inr (.inr (.inr (.inr (va_up f i.toNatClampNeg (some v)))))))  , h.2)
    | _ => False
  | _ => False
def zi_len (t : Nat) (K : zB) (lv : zL) (st : List Value) (h : zH) : Prop := match st with
  | .ref a :: r => match h.1 a with
    | some (.inl (t', x)) => t' = t ∧ K lv (.int (Int32.ofNat x.1) :: r) h
    | _ => False
  | _ => False
def zi_new (N S ci nf : Nat) (fs : List Value) (K : zB) (lv : zL) (st : List Value) (h : zH) : Prop := h.2.1 + 1 ≤ N ∧ h.2.2 + nf ≤ S ∧ K lv (.ref h.2.1 :: st) (zm_up h.1 h.2.1 (.inr (ci, fs)), h.2.1 + 1, h.2.2 + nf)
def zi_na (N S t : Nat) (d : (Nat → Int32) ⊕ (Nat → Int64) ⊕ (Nat → UInt32) ⊕ (Nat → UInt64) ⊕ (Nat → Option Nat)) (K : zB) (lv : zL) (st : List Value) (h : zH) : Prop := match st with
  | .int n :: r => ¬ n < 0 ∧ n.toNatClampNeg ≤ 1000000 ∧ h.2.1 + 1 ≤ N ∧ h.2.2 + n.toNatClampNeg ≤ S ∧ K lv (.ref h.2.1 :: r) (zm_up h.1 h.2.1 (.inl (t, n.toNatClampNeg, d)), h.2.1 + 1, h.2.2 + n.toNatClampNeg)
  | _ => False
def zi_mx (N S : Nat) (K : zB) (lv : zL) (st : List Value) (h : zH) : Prop := match st with
  | .int y :: .int x :: r => (r.map fun v => v.category).sum ≤ 8 ∧ h.2.1 ≤ N ∧ h.2.2 ≤ S ∧ K lv (.int (if x < y then y else x) :: r) h
  | _ => False
def zi_mn (N S : Nat) (K : zB) (lv : zL) (st : List Value) (h : zH) : Prop := match st with
  | .int y :: .int x :: r => (r.map fun v => v.category).sum ≤ 8 ∧ h.2.1 ≤ N ∧ h.2.2 ≤ S ∧ K lv (.int (if y < x then y else x) :: r) h
  | _ => False
def zi_ret (Rt : zR) (lv : zL) (st : List Value) (h : zH) : Prop := match st with
  | [] => Rt none h
  | [v] => Rt (some v) h
  | _ => False
def zi_swx : List (Int32 × zB) → zB → Int32 → zL → List Value → zH → Prop
  | [], d, _, lv, st, h => d lv st h
  | (k, K) :: cs, d, x, lv, st, h => (x = k → K lv st h) ∧ (¬ x = k → zi_swx cs d x lv st h)
def zi_sw (cs : List (Int32 × zB)) (d : zB) (lv : zL) (st : List Value) (h : zH) : Prop := match st with
  | .int x :: r => zi_swx cs d x lv r h
  | _ => False
