/-! the law: two objects beside one another -/
abbrev mL (nm : String) : nk_MI := (⟨RL, nm, "([I)Z"⟩, cL_law, 4, some FieldType.boolean)
/-- scratch cells of the reference don't matter -/
theorem cW.scr {K : nk_AH} {g : Nat → Nat} {o m b u l t : Nat} {A : Nat → Nat → Int32} {I : Nat → Int32} {r' : Nat → Int32} (h : cW K g o A I m b u l t) (e : ∀ i, i < 3618 → A 0 i = r' i) : cW K g o (va_up A 0 r') I m b u l t := by
  obtain ⟨hn, a1, a2, a3, a4, a5, sh, ⟨h1, h2, h3, h4, h5⟩, h6⟩ := h
  exact ⟨⟨hn.1, hn.2⟩, a1, a2, a3, a4, a5, sh, ⟨h1, h2, h3, h4.cg (fun i z1 z2 => e i z2), h5⟩, h6.cg e⟩
theorem cW.o {K : nk_AH} {g : Nat → Nat} {o m b u l t : Nat} {A : Nat → Nat → Int32} {I : Nat → Int32} (h : cW K g o A I m b u l t) : ∃ fs, K o = some (.inr (6, fs)) := h.V.o
theorem lw_o {K M : nk_AH} {a : Nat} {e : nk_AC} (h : K a = some e) : nk_o K M a = some e := nk_o_l h
theorem lw_m {K : nk_AH} {ad : Nat → Nat} {A : Nat → Nat → Int32} {I : Nat → Int32} (hd : nk_dj K (mh ad A I)) : ∃ fs, nk_o K (mh ad A I) (ad 0) = some (.inr (7, fs)) := by
  have h0 := mh_0 (ad := ad) (A := A) (I := I)
  rw [nk_o_comm hd]
  exact ⟨_, nk_o_l h0⟩
