/-! heap rows of nk_J -/
theorem nk_in {w : Cond} (k : Nat) (h : lw_tbl[k]? = some w) (g : goodWord w = true) : w ∈ nk_tw := List.mem_filter.mpr ⟨List.mem_of_getElem? h, g⟩
def nk_f (G : nk_EG) (H : nk_AH) (a : Nat) : va_E := match H a with
  | some e => nk_e G.2.1 e
  | none => .inr (0, [])
theorem nk_f_some {G : nk_EG} {H : nk_AH} {a : Nat} {e : nk_AC} (h : H a = some e) : nk_f G H a = nk_e G.2.1 e := by unfold nk_f; rw [h]
theorem nk_list {G : nk_EG} {H : nk_AH} {Hc : Heap} (hP : nk_P G H Hc) : ∃ Ls : List Nat, Ls.Nodup ∧ (∀ a, a ∈ Ls ↔ (H a).isSome = true) ∧ va_P G.1 vwCl (va_pl Ls (nk_f G H)) Hc := by
  have hm : ∀ a, a ∈ (List.range Hc.size).filter (fun a => (H a).isSome) ↔ (H a).isSome = true := by
    intro a
    rw [List.mem_filter, List.mem_range]
    refine ⟨fun h => h.2, fun h => ⟨?_, h⟩⟩
    obtain ⟨e, he⟩ := Option.isSome_iff_exists.mp h
    exact (hP a e he).lt
  refine ⟨(List.range Hc.size).filter (fun a => (H a).isSome), List.nodup_range.filter _, hm, fun k q hk => ?_⟩
  obtain ⟨a, ha, rfl⟩ := List.mem_map.mp (List.mem_of_getElem? hk)
  obtain ⟨e, he⟩ := Option.isSome_iff_exists.mp ((hm a).mp ha)
  rw [nk_f_some he]
  exact hP a e he
theorem nk_Dpl {A : Nat → Prop} {Ls : List Nat} {f : Nat → va_E} (hn : Ls.Nodup) (hA : ∀ a ∈ Ls, A a) : va_D A (va_pl Ls f) := by
  refine ⟨fun i j p q hi hj hpq => ?_, fun k q hk => ?_⟩
  · unfold va_pl at hi hj
    rw [List.getElem?_map] at hi hj
    cases hx : Ls[i]? with
    | none => rw [hx] at hi; cases hi
    | some x =>
      cases hy : Ls[j]? with
      | none => rw [hy] at hj; cases hj
      | some y =>
        rw [hx] at hi; rw [hy] at hj
        cases hi; cases hj
        have hxy : x = y := hpq
        subst hxy
        obtain ⟨l1, e1⟩ := List.getElem?_eq_some_iff.mp hx
        obtain ⟨l2, e2⟩ := List.getElem?_eq_some_iff.mp hy
        exact (List.getElem?_inj l1 hn).mp (hx.trans hy.symm)
  · obtain ⟨a, ha, rfl⟩ := List.mem_map.mp (List.mem_of_getElem? hk)
    exact hA a ha
theorem nk_from {G : nk_EG} {H : nk_AH} {Hc : Heap} {Ls : List Nat} {f : Nat → va_E} (h : va_P G.1 vwCl (va_pl Ls f) Hc) (hf : ∀ a ∈ Ls, f a = nk_f G H a) (hm : ∀ a, (H a).isSome = true → a ∈ Ls) : nk_P G H Hc := by
  intro a e he
  have ha := hm a (by rw [he]; rfl)
  obtain ⟨k, hk⟩ := List.getElem?_of_mem (show (a, f a) ∈ va_pl Ls f from List.mem_map.mpr ⟨a, ha, rfl⟩)
  have := h k _ hk
  rw [hf a ha, nk_f_some he] at this
  exact this
theorem nk_get {G : nk_EG} {H : nk_AH} {Ls : List Nat} {a : Nat} {e : nk_AC} (hm : ∀ a, a ∈ Ls ↔ (H a).isSome = true) (h : H a = some e) : ∃ k : Nat, (va_pl Ls (nk_f G H))[k]? = some (a, nk_e G.2.1 e) := by
  obtain ⟨k, hk⟩ := va_pl_get (X := []) (L := Ls) (f := nk_f G H) ((hm a).mpr (by rw [h]; rfl))
  rw [nk_f_some h] at hk
  exact ⟨k, hk⟩
/-- a cell is written -/
theorem nk_set {A : Nat → Prop} {G : nk_EG} {H : nk_AH} {Ls : List Nat} {a q0 : Nat} {e e' : nk_AC} {H1 : Heap} (hm : ∀ a, a ∈ Ls ↔ (H a).isSome = true) (hD : va_D A (va_pl Ls (nk_f G H))) (h : H a = some e) (hk : (va_pl Ls (nk_f G H))[q0]? = some (a, nk_e G.2.1 e)) (hP : va_P G.1 vwCl ((va_pl Ls (nk_f G H)).set q0 (a, nk_e G.2.1 e')) H1) : nk_P G (nk_u H a e') H1 := by
  have ha : a ∈ Ls := (hm a).mpr (by rw [h]; rfl)
  have hs := va_pl_set (X := []) (e := nk_e G.2.1 e') hD ha (by rw [nk_f_some h]; exact hk)
  have hs : (va_pl Ls (nk_f G H)).set q0 (a, nk_e G.2.1 e') = va_pl Ls (va_up (nk_f G H) a (nk_e G.2.1 e')) := hs
  rw [hs] at hP
  refine nk_from hP (fun b _ => ?_) (fun b hb => ?_)
  · by_cases q : b = a
    · subst q
      rw [nk_f_some (nk_u_self H b e')]
      simp [va_up]
    · simp [va_up, q, nk_f, nk_u_ne q]
  · rcases nk_u_dom hb with rfl | q
    · exact ha
    · exact (hm b).mpr q
/-- a cell is new -/
theorem nk_push {A : Nat → Prop} {G : nk_EG} {H : nk_AH} {Ls : List Nat} {a : Nat} {e : nk_AC} {H1 : Heap} (hm : ∀ a, a ∈ Ls ↔ (H a).isSome = true) (hD : va_D A (va_pl Ls (nk_f G H) ++ [(a, nk_e G.2.1 e)])) (hP : va_P G.1 vwCl (va_pl Ls (nk_f G H) ++ [(a, nk_e G.2.1 e)]) H1) : H a = none ∧ A a ∧ nk_P G (nk_u H a e) H1 := by
  have hlast : (va_pl Ls (nk_f G H) ++ [(a, nk_e G.2.1 e)])[(va_pl Ls (nk_f G H)).length]? = some (a, nk_e G.2.1 e) := by
    rw [List.getElem?_append_right (Nat.le_refl _), Nat.sub_self]; rfl
  have hn : a ∉ Ls := by
    intro ha
    obtain ⟨k, hk⟩ := List.getElem?_of_mem (show (a, nk_f G H a) ∈ va_pl Ls (nk_f G H) from List.mem_map.mpr ⟨a, ha, rfl⟩)
    have hl := (List.getElem?_eq_some_iff.mp hk).1
    have hk2 : (va_pl Ls (nk_f G H) ++ [(a, nk_e G.2.1 e)])[k]? = some (a, nk_f G H a) := by rw [List.getElem?_append_left hl]; exact hk
    have := hD.1 _ _ _ _ hk2 hlast rfl
    omega
  refine ⟨?_, hD.2 _ _ hlast, ?_⟩
  · cases hh : H a with
    | none => rfl
    | some x => exact absurd ((hm a).mpr (by rw [hh]; rfl)) hn
  · rw [va_pl_push hn] at hP
    refine nk_from hP (fun b hb => ?_) (fun b hb => ?_)
    · by_cases q : b = a
      · subst q
        rw [nk_f_some (nk_u_self H b e)]
        simp [va_up]
      · simp [va_up, q, nk_f, nk_u_ne q]
    · rcases nk_u_dom hb with rfl | q
      · exact List.mem_append_right _ List.mem_cons_self
      · exact List.mem_append_left _ ((hm b).mpr q)
theorem nk_cA {s : State} {c c' : ClassId} {ty : FieldType} (h : va_RA s c ty) (h' : va_RA s c' ty) : c = c' := by
  cases ty with
  | object C =>
    obtain ⟨_, _, -, -, -, h1⟩ := h
    obtain ⟨_, _, -, -, -, h2⟩ := h'
    rw [h1] at h2
    exact Option.some.inj h2
  | _ => exact Option.some.inj (Eq.trans (Eq.symm (show s.vm.findClass _ = some c from h)) (show s.vm.findClass _ = some c' from h'))
