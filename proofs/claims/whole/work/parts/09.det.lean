/-! contracts whose answer and heap are determined, that make nothing: their calls -/
def nk_ri (v : Int32) (H : nk_AH) : Option Value → nk_AH → Prop := fun r H' => r = some (.int v) ∧ H' = H
def nk_rl (v : Int64) (H : nk_AH) : Option Value → nk_AH → Prop := fun r H' => r = some (.long v) ∧ H' = H
def nk_rq (q : Option Nat) (H : nk_AH) : Option Value → nk_AH → Prop := fun r H' => r = some (va_rf q) ∧ H' = H
def nk_rv (H : nk_AH) : Option Value → nk_AH → Prop := fun r H' => r = none ∧ H' = H
abbrev nk_Si (G : nk_EG) (μ : nk_MI) (d : Nat) (av : List Value) (H : nk_AH) (v : Int32) (H' : nk_AH) : Prop := nk_S G μ d 0 0 av H (nk_ri v H')
abbrev nk_Sl (G : nk_EG) (μ : nk_MI) (d : Nat) (av : List Value) (H : nk_AH) (v : Int64) (H' : nk_AH) : Prop := nk_S G μ d 0 0 av H (nk_rl v H')
abbrev nk_Sq (G : nk_EG) (μ : nk_MI) (d : Nat) (av : List Value) (H : nk_AH) (v : Option Nat) (H' : nk_AH) : Prop := nk_S G μ d 0 0 av H (nk_rq v H')
abbrev nk_Sv (G : nk_EG) (μ : nk_MI) (d : Nat) (av : List Value) (H : nk_AH) (H' : nk_AH) : Prop := nk_S G μ d 0 0 av H (nk_rv H')
section NKE
variable {G : nk_EG} {μ μ' : nk_MI} {d d' : Nat} {Φ : Option Value → nk_AH → Prop} {bc bs pc index n : Nat} {L : List (Option Value)} {st rest av : List Value} {H H' : nk_AH} {a : Nat}
theorem nk_cSi {v : Int32} (f : nk_lS μ.1.cls index μ' n) (hs : nk_Si G μ' d' av H v H') (hd : decode μ.2.1 pc = .ok (.invokestatic index, 3)) (hst : st = av.reverse ++ rest) (hn : av.length = n) (hdd : d' + 1 ≤ d) (hcat : (rest.map fun v => v.category).sum ≤ 8) (k : nk_J G μ d Φ bc bs (pc + 3) L (.int v :: rest) H') : nk_J G μ d Φ bc bs pc L st H :=
  nk_cS f hs hd hst hn hdd hcat (bc' := bc) (bs' := bs) ⟨Nat.le_refl _, Nat.le_refl _⟩ (fun r H'' hq => by obtain ⟨rfl, rfl⟩ := hq; exact k)
theorem nk_cSl {v : Int64} (f : nk_lS μ.1.cls index μ' n) (hs : nk_Sl G μ' d' av H v H') (hd : decode μ.2.1 pc = .ok (.invokestatic index, 3)) (hst : st = av.reverse ++ rest) (hn : av.length = n) (hdd : d' + 1 ≤ d) (hcat : (rest.map fun v => v.category).sum ≤ 8) (k : nk_J G μ d Φ bc bs (pc + 3) L (.long v :: rest) H') : nk_J G μ d Φ bc bs pc L st H :=
  nk_cS f hs hd hst hn hdd hcat (bc' := bc) (bs' := bs) ⟨Nat.le_refl _, Nat.le_refl _⟩ (fun r H'' hq => by obtain ⟨rfl, rfl⟩ := hq; exact k)
theorem nk_cSq {v : Option Nat} (f : nk_lS μ.1.cls index μ' n) (hs : nk_Sq G μ' d' av H v H') (hd : decode μ.2.1 pc = .ok (.invokestatic index, 3)) (hst : st = av.reverse ++ rest) (hn : av.length = n) (hdd : d' + 1 ≤ d) (hcat : (rest.map fun v => v.category).sum ≤ 8) (k : nk_J G μ d Φ bc bs (pc + 3) L (va_rf v :: rest) H') : nk_J G μ d Φ bc bs pc L st H :=
  nk_cS f hs hd hst hn hdd hcat (bc' := bc) (bs' := bs) ⟨Nat.le_refl _, Nat.le_refl _⟩ (fun r H'' hq => by obtain ⟨rfl, rfl⟩ := hq; exact k)
theorem nk_cSv (f : nk_lS μ.1.cls index μ' n) (hs : nk_Sv G μ' d' av H H') (hd : decode μ.2.1 pc = .ok (.invokestatic index, 3)) (hst : st = av.reverse ++ rest) (hn : av.length = n) (hdd : d' + 1 ≤ d) (hcat : (rest.map fun v => v.category).sum ≤ 8) (k : nk_J G μ d Φ bc bs (pc + 3) L ( rest) H') : nk_J G μ d Φ bc bs pc L st H :=
  nk_cS f hs hd hst hn hdd hcat (bc' := bc) (bs' := bs) ⟨Nat.le_refl _, Nat.le_refl _⟩ (fun r H'' hq => by obtain ⟨rfl, rfl⟩ := hq; exact k)
theorem nk_cNi {v : Int32} (f : nk_lSN μ.1.cls index μ' n) (hs : nk_Si G μ' d' av H v H') (hd : decode μ.2.1 pc = .ok (.invokestatic index, 3)) (hst : st = av.reverse ++ rest) (hn : av.length = n) (hdd : d' + 1 ≤ d) (hcat : (rest.map fun v => v.category).sum ≤ 8) (k : nk_J G μ d Φ bc bs (pc + 3) L (.int v :: rest) H') : nk_J G μ d Φ bc bs pc L st H :=
  nk_cSN f hs hd hst hn hdd hcat (bc' := bc) (bs' := bs) ⟨Nat.le_refl _, Nat.le_refl _⟩ (fun r H'' hq => by obtain ⟨rfl, rfl⟩ := hq; exact k)
theorem nk_cNl {v : Int64} (f : nk_lSN μ.1.cls index μ' n) (hs : nk_Sl G μ' d' av H v H') (hd : decode μ.2.1 pc = .ok (.invokestatic index, 3)) (hst : st = av.reverse ++ rest) (hn : av.length = n) (hdd : d' + 1 ≤ d) (hcat : (rest.map fun v => v.category).sum ≤ 8) (k : nk_J G μ d Φ bc bs (pc + 3) L (.long v :: rest) H') : nk_J G μ d Φ bc bs pc L st H :=
  nk_cSN f hs hd hst hn hdd hcat (bc' := bc) (bs' := bs) ⟨Nat.le_refl _, Nat.le_refl _⟩ (fun r H'' hq => by obtain ⟨rfl, rfl⟩ := hq; exact k)
theorem nk_cNq {v : Option Nat} (f : nk_lSN μ.1.cls index μ' n) (hs : nk_Sq G μ' d' av H v H') (hd : decode μ.2.1 pc = .ok (.invokestatic index, 3)) (hst : st = av.reverse ++ rest) (hn : av.length = n) (hdd : d' + 1 ≤ d) (hcat : (rest.map fun v => v.category).sum ≤ 8) (k : nk_J G μ d Φ bc bs (pc + 3) L (va_rf v :: rest) H') : nk_J G μ d Φ bc bs pc L st H :=
  nk_cSN f hs hd hst hn hdd hcat (bc' := bc) (bs' := bs) ⟨Nat.le_refl _, Nat.le_refl _⟩ (fun r H'' hq => by obtain ⟨rfl, rfl⟩ := hq; exact k)
theorem nk_cNv (f : nk_lSN μ.1.cls index μ' n) (hs : nk_Sv G μ' d' av H H') (hd : decode μ.2.1 pc = .ok (.invokestatic index, 3)) (hst : st = av.reverse ++ rest) (hn : av.length = n) (hdd : d' + 1 ≤ d) (hcat : (rest.map fun v => v.category).sum ≤ 8) (k : nk_J G μ d Φ bc bs (pc + 3) L ( rest) H') : nk_J G μ d Φ bc bs pc L st H :=
  nk_cSN f hs hd hst hn hdd hcat (bc' := bc) (bs' := bs) ⟨Nat.le_refl _, Nat.le_refl _⟩ (fun r H'' hq => by obtain ⟨rfl, rfl⟩ := hq; exact k)
theorem nk_cVi {ci : Nat} {fs : List Value} {v : Int32} (f : nk_lV μ.1.cls index ci μ' n) (hs : nk_Si G μ' d' (.ref a :: av) H v H') (hd : decode μ.2.1 pc = .ok (.invokevirtual index, 3)) (hH : H a = some (.inr (ci, fs))) (hst : st = av.reverse ++ .ref a :: rest) (hn : av.length = n) (hdd : d' + 1 ≤ d) (hcat : (rest.map fun v => v.category).sum ≤ 8) (k : nk_J G μ d Φ bc bs (pc + 3) L (.int v :: rest) H') : nk_J G μ d Φ bc bs pc L st H :=
  nk_cV f hs hd hH hst hn hdd hcat (bc' := bc) (bs' := bs) ⟨Nat.le_refl _, Nat.le_refl _⟩ (fun r H'' hq => by obtain ⟨rfl, rfl⟩ := hq; exact k)
theorem nk_cVl {ci : Nat} {fs : List Value} {v : Int64} (f : nk_lV μ.1.cls index ci μ' n) (hs : nk_Sl G μ' d' (.ref a :: av) H v H') (hd : decode μ.2.1 pc = .ok (.invokevirtual index, 3)) (hH : H a = some (.inr (ci, fs))) (hst : st = av.reverse ++ .ref a :: rest) (hn : av.length = n) (hdd : d' + 1 ≤ d) (hcat : (rest.map fun v => v.category).sum ≤ 8) (k : nk_J G μ d Φ bc bs (pc + 3) L (.long v :: rest) H') : nk_J G μ d Φ bc bs pc L st H :=
  nk_cV f hs hd hH hst hn hdd hcat (bc' := bc) (bs' := bs) ⟨Nat.le_refl _, Nat.le_refl _⟩ (fun r H'' hq => by obtain ⟨rfl, rfl⟩ := hq; exact k)
theorem nk_cVq {ci : Nat} {fs : List Value} {v : Option Nat} (f : nk_lV μ.1.cls index ci μ' n) (hs : nk_Sq G μ' d' (.ref a :: av) H v H') (hd : decode μ.2.1 pc = .ok (.invokevirtual index, 3)) (hH : H a = some (.inr (ci, fs))) (hst : st = av.reverse ++ .ref a :: rest) (hn : av.length = n) (hdd : d' + 1 ≤ d) (hcat : (rest.map fun v => v.category).sum ≤ 8) (k : nk_J G μ d Φ bc bs (pc + 3) L (va_rf v :: rest) H') : nk_J G μ d Φ bc bs pc L st H :=
  nk_cV f hs hd hH hst hn hdd hcat (bc' := bc) (bs' := bs) ⟨Nat.le_refl _, Nat.le_refl _⟩ (fun r H'' hq => by obtain ⟨rfl, rfl⟩ := hq; exact k)
theorem nk_cVv {ci : Nat} {fs : List Value} (f : nk_lV μ.1.cls index ci μ' n) (hs : nk_Sv G μ' d' (.ref a :: av) H H') (hd : decode μ.2.1 pc = .ok (.invokevirtual index, 3)) (hH : H a = some (.inr (ci, fs))) (hst : st = av.reverse ++ .ref a :: rest) (hn : av.length = n) (hdd : d' + 1 ≤ d) (hcat : (rest.map fun v => v.category).sum ≤ 8) (k : nk_J G μ d Φ bc bs (pc + 3) L ( rest) H') : nk_J G μ d Φ bc bs pc L st H :=
  nk_cV f hs hd hH hst hn hdd hcat (bc' := bc) (bs' := bs) ⟨Nat.le_refl _, Nat.le_refl _⟩ (fun r H'' hq => by obtain ⟨rfl, rfl⟩ := hq; exact k)
theorem nk_ifnullQ {r : Option Nat} {off : Int} {tgt : Nat} (hd : decode μ.2.1 pc = .ok (.ifnull off, 3)) (ht : (pc : Int) + off = (tgt : Int)) (kt : r = none → nk_J G μ d Φ bc bs tgt L st H) (kf : ∀ x : Nat, r = some x → nk_J G μ d Φ bc bs (pc + 3) L st H) : nk_J G μ d Φ bc bs pc L (va_rf r :: st) H := by
  cases r with
  | none => exact nk_ifnullN hd ht (kt rfl)
  | some x => exact nk_ifnullR hd (kf x rfl)
theorem nk_ifnonnullQ {r : Option Nat} {off : Int} {tgt : Nat} (hd : decode μ.2.1 pc = .ok (.ifnonnull off, 3)) (ht : (pc : Int) + off = (tgt : Int)) (kt : ∀ x : Nat, r = some x → nk_J G μ d Φ bc bs tgt L st H) (kf : r = none → nk_J G μ d Φ bc bs (pc + 3) L st H) : nk_J G μ d Φ bc bs pc L (va_rf r :: st) H := by
  cases r with
  | none => exact nk_ifnonnullN hd (kf rfl)
  | some x => exact nk_ifnonnullR hd ht (kt x rfl)
theorem nk_aload_nQ {k0 : Fin 4} {i : Nat} {r : Option Nat} (hd : decode μ.2.1 pc = .ok (.aload_n k0, 1)) (hi : (k0 : Nat) = i) (hx : L[i]? = some (some (va_rf r))) (k : nk_J G μ d Φ bc bs (pc + 1) L (va_rf r :: st) H) : nk_J G μ d Φ bc bs pc L st H := by
  cases r with
  | none => exact nk_aload_nN hd hi hx k
  | some x => exact nk_aload_n hd hi hx k
theorem nk_aloadQ {i : Nat} {r : Option Nat} (hd : decode μ.2.1 pc = .ok (.aload i, 2)) (hx : L[i]? = some (some (va_rf r))) (k : nk_J G μ d Φ bc bs (pc + 2) L (va_rf r :: st) H) : nk_J G μ d Φ bc bs pc L st H := by
  cases r with
  | none => exact nk_aloadN hd hx k
  | some x => exact nk_aload hd hx k
theorem nk_astore_nQ {k0 : Fin 4} {i : Nat} {r : Option Nat} {L' : List (Option Value)} (hd : decode μ.2.1 pc = .ok (.astore_n k0, 1)) (hi : (k0 : Nat) = i) (hn : i < μ.2.2.1) (hL : nk_s1 L i (va_rf r) = L') (k : nk_J G μ d Φ bc bs (pc + 1) L' st H) : nk_J G μ d Φ bc bs pc L (va_rf r :: st) H := by
  cases r with
  | none => exact nk_astore_nN hd hi hn hL k
  | some x => exact nk_astore_n hd hi hn hL k
theorem nk_astoreQ {i : Nat} {r : Option Nat} {L' : List (Option Value)} (hd : decode μ.2.1 pc = .ok (.astore i, 2)) (hn : i < μ.2.2.1) (hL : nk_s1 L i (va_rf r) = L') (k : nk_J G μ d Φ bc bs (pc + 2) L' st H) : nk_J G μ d Φ bc bs pc L (va_rf r :: st) H := by
  cases r with
  | none => exact nk_astoreN hd hn hL k
  | some x => exact nk_astore hd hn hL k
theorem nk_areturnQ {r : Option Nat} {n : String} (hd : decode μ.2.1 pc = .ok (.areturn, 1)) (hr : μ.2.2.2 = some (.object n)) (hf : Φ (some (va_rf r)) H) : nk_J G μ d Φ bc bs pc L [va_rf r] H := by
  cases r with
  | none => exact nk_areturnN hd hr hf
  | some x => exact nk_areturn hd hr hf
end NKE
theorem nk_bn (p : Prop) [Decidable p] : narrow .boolean (.int (if p then 1 else 0)) = .int (if p then 1 else 0) := by
  by_cases h : p
  · rw [if_pos h]; rfl
  · rw [if_neg h]; rfl
theorem nk_b0 {p : Prop} [Decidable p] : ((if p then 1 else 0 : Int32) = 0) ↔ ¬ p := by
  by_cases h : p
  · rw [if_pos h]; exact ⟨fun q => absurd q (by decide), fun q => absurd h q⟩
  · rw [if_neg h]; exact ⟨fun _ => h, fun _ => rfl⟩
theorem nk_bc (b : Bool) (p : Prop) [Decidable p] (h : b = true ↔ p) : (if b = true then 1 else 0 : Int32) = if p then 1 else 0 := by
  by_cases q : p
  · rw [if_pos q, if_pos (h.mpr q)]
  · rw [if_neg q, if_neg (fun z => q (h.mp z))]
