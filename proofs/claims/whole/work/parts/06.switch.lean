def zm_swok (w : zW) (Γ : zC) (pc : Nat) : List (Int32 × zB) → List (Int × Int) → Prop
  | [], [] => True
  | (k, K) :: cs, (a, o) :: ps => k.toInt = a ∧ (∃ tgt : Nat, (pc : Int) + o = (tgt : Int) ∧ ∀ lv st h, K lv st h → zm_V w Γ tgt lv st h) ∧ zm_swok w Γ pc cs ps
  | _, _ => False
theorem zm_sw_nil {w : zW} {Γ : zC} {pc : Nat} : zm_swok w Γ pc [] [] := trivial
theorem zm_sw_cons {w : zW} {Γ : zC} {pc tgt : Nat} {k : Int32} {K : zB} {a o : Int} {cs : List (Int32 × zB)} {ps : List (Int × Int)} (h1 : k.toInt = a) (ht : (pc : Int) + o = (tgt : Int)) (hK : ∀ lv st h, K lv st h → zm_V w Γ tgt lv st h) (hr : zm_swok w Γ pc cs ps) : zm_swok w Γ pc ((k, K) :: cs) ((a, o) :: ps) := ⟨h1, ⟨tgt, ht, hK⟩, hr⟩
theorem zm_swx {w : zW} {Γ : zC} {pc tg : Nat} {d : zB} {lv : zL} {st : List Value} {h : zH} {x : Int32} {dflt : Int} (hdf : (pc : Int) + dflt = (tg : Int)) (hd : ∀ lv st h, d lv st h → zm_V w Γ tg lv st h) :
    ∀ (cs : List (Int32 × zB)) (ps : List (Int × Int)), zm_swok w Γ pc cs ps → zi_swx cs d x lv st h → ∃ tgt : Nat, (pc : Int) + Op.lookupswitch.offset ps dflt x.toInt = (tgt : Int) ∧ zm_V w Γ tgt lv st h
  | [], [], _, hk => ⟨tg, by rw [Op.lookupswitch.offset_nil]; exact hdf, hd _ _ _ hk⟩
  | (k, K) :: cs, (a, o) :: ps, hok, hk => by
    obtain ⟨h1, ⟨tgt, h2, h3⟩, h4⟩ := hok
    by_cases hx : x = k
    · refine ⟨tgt, ?_, h3 _ _ _ (hk.1 hx)⟩
      rw [Op.lookupswitch.offset_cons, if_pos (by rw [hx, h1])]
      exact h2
    · obtain ⟨t, g1, g2⟩ := zm_swx hdf hd cs ps h4 (hk.2 hx)
      exact ⟨t, by rw [lv_osw hx h1]; exact g1, g2⟩
  | [], _ :: _, hok, _ => hok.elim
  | _ :: _, [], hok, _ => hok.elim
theorem zs_lsw {w : zW} {Γ : zC} {M : zM} {N S : Nat} {Rt : zR} (X : zm_X w Γ M N S Rt) {pc len tg : Nat} {dflt : Int} {ps : Array (Int × Int)} {cs : List (Int32 × zB)} {d : zB} (hd : decode M.2.1 pc = .ok (.lookupswitch dflt ps, len)) (hp : (ps.toList.zip (ps.toList.drop 1)).all (fun (a, next) => a.1 < next.1) = true) (hok : zm_swok w Γ pc cs ps.toList) (hdf : (pc : Int) + dflt = (tg : Int)) (hD : ∀ lv st h, d lv st h → zm_V w Γ tg lv st h) : ∀ lv st h, zi_sw cs d lv st h → zm_V w Γ pc lv st h := by
  intro lv st h hk
  unfold zi_sw at hk
  split at hk
  · rename_i x r
    obtain ⟨tgt, g1, g2⟩ := zm_swx hdf hD cs ps.toList hok hk
    obtain ⟨p, e, R, s, m, args, below, meth, c, h0, Qw, nL⟩ := Γ
    obtain ⟨hx, hb, -⟩ := X
    intro H locs ls cells slots hP hL hl h1 h2
    exact lv_lookup hx hb hd hp rfl g1 (g2 H locs ls cells slots hP hL hl h1 h2)
  · exact hk.elim
def zm_tok (w : zW) (Γ : zC) (pc : Nat) : Int → List (Int32 × zB) → List Int → Prop
  | _, [], [] => True
  | lo, (k, K) :: cs, o :: os => k.toInt = lo ∧ (∃ tgt : Nat, (pc : Int) + o = (tgt : Int) ∧ ∀ lv st h, K lv st h → zm_V w Γ tgt lv st h) ∧ zm_tok w Γ pc (lo + 1) cs os
  | _, _, _ => False
theorem zm_tk_nil {w : zW} {Γ : zC} {pc : Nat} {lo : Int} : zm_tok w Γ pc lo [] [] := trivial
theorem zm_tk_cons {w : zW} {Γ : zC} {pc tgt : Nat} {k : Int32} {K : zB} {lo o : Int} {cs : List (Int32 × zB)} {os : List Int} (h1 : k.toInt = lo) (ht : (pc : Int) + o = (tgt : Int)) (hK : ∀ lv st h, K lv st h → zm_V w Γ tgt lv st h) (hr : zm_tok w Γ pc (lo + 1) cs os) : zm_tok w Γ pc lo ((k, K) :: cs) (o :: os) := ⟨h1, ⟨tgt, ht, hK⟩, hr⟩
theorem zm_tsx {w : zW} {Γ : zC} {pc : Nat} {d : zB} {lv : zL} {st : List Value} {h : zH} {x : Int32} :
    ∀ (cs : List (Int32 × zB)) (os : List Int) (lo : Int), zm_tok w Γ pc lo cs os → zi_swx cs d x lv st h → (x.toInt < lo ∨ lo + (os.length : Int) ≤ x.toInt → d lv st h) ∧ (lo ≤ x.toInt → x.toInt < lo + (os.length : Int) → ∃ (off : Int) (tgt : Nat), os[(x.toInt - lo).toNat]? = some off ∧ (pc : Int) + off = (tgt : Int) ∧ zm_V w Γ tgt lv st h)
  | [], [], lo, _, hk => ⟨fun _ => hk, fun h1 h2 => by simp at h2; omega⟩
  | (k, K) :: cs, o :: os, lo, hok, hk => by
    obtain ⟨h1, ⟨tgt, h2, h3⟩, h4⟩ := hok
    by_cases hx : x = k
    · have hx' : x.toInt = lo := by rw [hx, h1]
      refine ⟨fun q => ?_, fun q1 q2 => ⟨o, tgt, ?_, h2, h3 _ _ _ (hk.1 hx)⟩⟩
      · simp only [List.length_cons] at q
        omega
      · rw [show (x.toInt - lo).toNat = 0 by omega]
        rfl
    · have hx' : ¬ x.toInt = lo := lv_neT hx h1
      obtain ⟨g1, g2⟩ := zm_tsx cs os (lo + 1) h4 (hk.2 hx)
      refine ⟨fun q => g1 ?_, fun q1 q2 => ?_⟩
      · simp only [List.length_cons] at q
        omega
      · simp only [List.length_cons] at q2
        obtain ⟨off, t, e1, e2, e3⟩ := g2 (by omega) (by omega)
        refine ⟨off, t, ?_, e2, e3⟩
        rw [show (x.toInt - lo).toNat = (x.toInt - (lo + 1)).toNat + 1 by omega, List.getElem?_cons_succ]
        exact e1
  | [], _ :: _, _, hok, _ => hok.elim
  | _ :: _, [], _, hok, _ => hok.elim
theorem zs_tsw {w : zW} {Γ : zC} {M : zM} {N S : Nat} {Rt : zR} (X : zm_X w Γ M N S Rt) {pc len tg : Nat} {dflt lo hi : Int} {offs : Array Int} {cs : List (Int32 × zB)} {d : zB} (hd : decode M.2.1 pc = .ok (.tableswitch dflt lo hi offs, len)) (hhi : lo + (offs.toList.length : Int) = hi + 1) (hok : zm_tok w Γ pc lo cs offs.toList) (hdf : (pc : Int) + dflt = (tg : Int)) (hD : ∀ lv st h, d lv st h → zm_V w Γ tg lv st h) : ∀ lv st h, zi_sw cs d lv st h → zm_V w Γ pc lv st h := by
  intro lv st h hk
  unfold zi_sw at hk
  split at hk
  · rename_i x r
    obtain ⟨g1, g2⟩ := zm_tsx cs offs.toList lo hok hk
    obtain ⟨p, e, R, s, m, args, below, meth, c, h0, Qw, nL⟩ := Γ
    obtain ⟨hx, hb, -⟩ := X
    by_cases hr : x.toInt < lo ∨ hi < x.toInt
    · have hk' := hD _ _ _ (g1 (by omega))
      intro H locs ls cells slots hP hL hl h1 h2
      exact lv_tableOut hx hb hd hr hdf (hk' H locs ls cells slots hP hL hl h1 h2)
    · obtain ⟨off, tgt, e1, e2, e3⟩ := g2 (by omega) (by omega)
      intro H locs ls cells slots hP hL hl h1 h2
      exact lv_tableIn hx hb hd (fun q => hr (Or.inl q)) (fun q => hr (Or.inr q)) (by rw [← Array.getElem?_toList]; exact e1) e2 (e3 H locs ls cells slots hP hL hl h1 h2)
  · exact hk.elim
