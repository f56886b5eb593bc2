/-! pure: nodes of one word, as the reference tells them -/
def pf_rest (x : Int32) : Int32 := x &&& (x - 1)
def pf_part (x y l : Int32) : Int32 := (x >>> ((((1 : Int32) <<< (l &&& 31)) * y) &&& 31)) &&& (((1 : Int32) <<< (((1 : Int32) <<< (l &&& 31)) &&& 31)) - 1)
def pf_highs (x l : Int32) : Nat → Int32
  | 0 => 0
  | n + 1 => pf_highs x l n ||| (if pf_part x (nI n) l = 0 then 0 else pf_b1 n)
def pf_n1 (x : Int32) : Int32 := if x = 0 then 0 else 1
def pf_n2 (x : Int32) : Int32 := if x = 0 then 0 else 1 + pf_n1 (pf_highs (pf_rest x) 1 2) + pf_n1 (pf_part (pf_rest x) 0 1) + pf_n1 (pf_part (pf_rest x) 1 1)
def pf_acc (c : Int32) (f : Nat → Int32) : Nat → Int32
  | 0 => c
  | n + 1 => pf_acc c f n + f n
def pf_n3 (x : Int32) : Int32 := pf_acc (if x = 0 then 0 else 1 + pf_n2 (pf_highs (pf_rest x) 1 4)) (fun y => pf_n1 (pf_part (pf_rest x) (nI y) 1)) 4
def pf_n4 (x : Int32) : Int32 := pf_acc (if x = 0 then 0 else 1 + pf_n2 (pf_highs (pf_rest x) 2 4)) (fun y => pf_n2 (pf_part (pf_rest x) (nI y) 2)) 4
def pf_n5 (x : Int32) : Int32 := pf_acc (if x = 0 then 0 else 1 + pf_n3 (pf_highs (pf_rest x) 2 8)) (fun y => pf_n2 (pf_part (pf_rest x) (nI y) 2)) 8
def pf_nd (x b : Int32) : Int32 := if b = 1 then pf_n1 x else if b = 2 then pf_n2 x else if b = 3 then pf_n3 x else if b = 4 then pf_n4 x else pf_n5 x
def pf_mx (x y : Int32) : Int32 := if x ≤ y then y else x
def pf_mxa (c : Int32) (f : Nat → Int32) : Nat → Int32
  | 0 => c
  | n + 1 => pf_mx (pf_mxa c f n) (f n)
def pf_d2 (x : Int32) : Int32 := if x = 0 then 0 else if pf_rest x = 0 then 1 else 2
def pf_d3 (x : Int32) : Int32 := if x = 0 then 0 else 1 + pf_mx (pf_d2 (pf_highs (pf_rest x) 1 4)) (pf_n1 (pf_rest x))
def pf_d4 (x : Int32) : Int32 := if x = 0 then 0 else 1 + pf_mxa (pf_d2 (pf_highs (pf_rest x) 2 4)) (fun y => pf_d2 (pf_part (pf_rest x) (nI y) 2)) 4
def pf_d5 (x : Int32) : Int32 := if x = 0 then 0 else 1 + pf_mxa (pf_d3 (pf_highs (pf_rest x) 2 8)) (fun y => pf_d2 (pf_part (pf_rest x) (nI y) 2)) 8
def pf_dp (x b : Int32) : Int32 := if b = 1 then pf_n1 x else if b = 2 then pf_d2 x else if b = 3 then pf_d3 x else if b = 4 then pf_d4 x else pf_d5 x
abbrev pf_lw (l : Nat) (x : Int32) : Int32 := x &&& (((1 : Int32) <<< (nI l &&& 31)) - 1)
abbrev pf_in (node : Int32) (l : Nat) (x : Int32) : Prop := ¬ pf_part (pf_rest node) (x >>> (nI l &&& 31)) (nI l) = 0 ∧ pf_lw l x < sp_hi (pf_part (pf_rest node) (x >>> (nI l &&& 31)) (nI l))
/-- steps above x in a node of b bits, k taken already -/
def pf_st : Nat → Int32 → Nat → Int32 → Nat → Nat
  | 0, _, _, _, k => k
  | f + 1, node, b, x, k => if ¬ node = 0 ∧ 1 < b ∧ sp_lo node ≤ x then (if pf_in node (b / 2) x then pf_st f (pf_part (pf_rest node) (x >>> (nI (b / 2) &&& 31)) (nI (b / 2))) (b / 2) (pf_lw (b / 2) x) (k + 1) else pf_st f (pf_highs (pf_rest node) (nI (b / 2)) (2 ^ (b - b / 2))) (b - b / 2) (x >>> (nI (b / 2) &&& 31)) (k + 1)) else k
def pf_tells (x b w : Int32) : Int32 := if w = 0 then sp_lo x else if w = 1 then sp_hi x else pf_nd x b
theorem nk_ixw0 (s w : Nat) : 6 + 32 * nI s + nI w = nI (0 + 6 + 32 * s + w) := by
  rw [show (6 : Int32) = nI 6 from rfl, show (32 : Int32) = nI 32 from rfl, pk_mul, nI_add, nI_add, Nat.zero_add]
