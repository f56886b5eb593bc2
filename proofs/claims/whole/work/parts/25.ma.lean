/-! pure: the trace, asks, sums -/
def tr_a (f : Nat → Int32) : Nat → List Int32 → Nat → Int32
  | _, [] => f
  | t, x :: l => tr_a (if t < 16 then upd f t x else f) (if t < 16 then t + 1 else t) l
def tr_t : Nat → List Int32 → Nat
  | t, [] => t
  | t, _ :: l => tr_t (if t < 16 then t + 1 else t) l
theorem tr_a_app (l1 l2 : List Int32) : ∀ (f : Nat → Int32) (t : Nat), tr_a (tr_a f t l1) (tr_t t l1) l2 = tr_a f t (l1 ++ l2) := by
  induction l1 with
  | nil => intro f t; rfl
  | cons x l ih => intro f t; exact ih _ _
theorem tr_t_app (l1 l2 : List Int32) : ∀ (t : Nat), tr_t (tr_t t l1) l2 = tr_t t (l1 ++ l2) := by
  induction l1 with
  | nil => intro t; rfl
  | cons x l ih => intro t; exact ih _
theorem tr_t_le (l : List Int32) : ∀ t, t ≤ 16 → tr_t t l ≤ 16 := by
  induction l with
  | nil => intro t h; exact h
  | cons x l ih => intro t h; exact ih _ (by split <;> omega)
def tl_am (κ : Int32) : List Int32 := if κ = 2 then [24, 21, 20] else if κ = 3 then [22, 21, 20] else [21, 20]
def tl_as (κ : Int32) : List Int32 := [11, 10] ++ tl_am κ
def tl_sz (κ : Int32) : List Int32 := if κ = 2 then [12] ++ tl_as κ else if κ = 4 then [13, 10] else if κ = 5 then [14, 13, 10] else tl_as κ
def tl_bm (κ : Int32) : List Int32 := [23, 20] ++ tl_sz κ
def tl_ask (κ w : Int32) : List Int32 := if w = 0 then tl_sz κ else if κ = 4 ∨ κ = 5 then tl_bm κ else tl_am κ
def av_pm (p : Nat → Bool) (t s : Nat) : Int32 := nI s + (if fb_ct p 1024 = 0 then 0 else nk_rN (nk_up p 0 t))
def av_am (p : Nat → Bool) (t s : Nat) (κ : Int32) : Int32 := if κ = 2 then 2 * av_pm p t s else if κ = 3 then av_pm p t s - 1000 else av_pm p t s
def av_as (p : Nat → Bool) (t s : Nat) (κ : Int32) : Int32 := nI (fb_ct p 1024) + av_am p t s κ
def av_sz (p : Nat → Bool) (t s : Nat) (κ : Int32) : Int32 := if κ = 2 then -av_as p t s κ else if κ = 4 then nI (fb_ct p 1024) - 100 else if κ = 5 then 2 * (nI (fb_ct p 1024) - 100) else av_as p t s κ
def av_bm (p : Nat → Bool) (t s : Nat) (κ : Int32) : Int32 := nI s - av_sz p t s κ
def av_ask (p : Nat → Bool) (t s : Nat) (κ w : Int32) : Int32 := if w = 0 then av_sz p t s κ else if κ = 4 ∨ κ = 5 then av_bm p t s κ else av_am p t s κ
abbrev c_ask (m : Nat) (s w : Int32) : Prop := sp_S m s ∧ sp_R w 0 1
def sp_ask (m b : Nat) (p : Nat → Nat → Bool) (κ : Nat → Int32) (s w : Int32) : Int32 := if c_ask m s w then av_ask (p (sp_n s)) (nk_tp b) (sp_n s) (κ (sp_n s)) w else -1000001
def a_ask (m : Nat) (κ : Nat → Int32) (s w : Int32) (A : Nat → Nat → Int32) : Nat → Nat → Int32 := if c_ask m s w then va_up A 6 (tr_a (A 6) 0 (tl_ask (κ (sp_n s)) w)) else A
def i_ask (m : Nat) (κ : Nat → Int32) (s w : Int32) (I : Nat → Int32) : Nat → Int32 := if c_ask m s w then va_up I 4 (nI (tr_t 0 (tl_ask (κ (sp_n s)) w))) else I
abbrev sp_of (κ kind : Int32) : Prop := kind = 0 ∨ kind = κ ∨ (kind = 1 ∧ κ < 4) ∨ (kind = 4 ∧ κ = 5)
def f_as (m : Nat) (κ : Nat → Int32) (s kind : Int32) : Int32 := if sp_S m s then (if sp_R kind 0 5 then (if sp_of (κ (sp_n s)) kind then 0 else 3) else -1) else -1
def sp_trace (f : Nat → Int32) (t : Nat) (i : Int32) : Int32 := if 0 ≤ i.toInt ∧ i.toInt < t then f (sp_n i) else -1000000
def sp_sum (p : Nat → Bool) : Nat → Nat
  | 0 => 0
  | k + 1 => sp_sum p k + if p k = true then k else 0
theorem sp_sum_le (p : Nat → Bool) : ∀ k, sp_sum p k ≤ k * k
  | 0 => Nat.le_refl _
  | k + 1 => by
    have h := sp_sum_le p k
    have e : (k + 1) * (k + 1) = k * k + k + k + 1 := by rw [Nat.add_mul, Nat.mul_add]; omega
    rw [sp_sum]
    split <;> omega
def sp_allk (p : Nat → Nat → Bool) : Nat → Nat
  | 0 => 0
  | s + 1 => sp_allk p s + fb_ct (p s) 1024
def sp_alln (p : Nat → Nat → Bool) (b : Nat) : Nat → Int32
  | 0 => 0
  | s + 1 => sp_alln p b s + sp_nodes (p s) b
def sp_rows (A : Nat → Nat → Int32) : Nat → Nat
  | 0 => 0
  | r + 1 => sp_rows A r + if 0 ≤ A 3 r then 1 else 0
def sp_count (A : Nat → Nat → Int32) (I : Nat → Int32) (m b : Nat) (p : Nat → Nat → Bool) (w : Int32) : Int32 := if w = 0 then nI (sp_rows A 8) else if w = 1 then nI m else if w = 2 then nI b else if w = 3 then nI (sp_allk p m) else if w = 4 then sp_alln p b m else if w = 5 then I 0 else if w = 6 then I 1 else -1000001
def sp_feed (I : Nat → Int32) (l : Nat) (x : Int32) : Int32 := if sp_R x 0 255 then (if l = 110 then -1000003 else nI (l + 1)) else -1000001
def a_feed (l : Nat) (x : Int32) (A : Nat → Nat → Int32) : Nat → Nat → Int32 := if sp_R x 0 255 ∧ ¬ l = 110 then va_up A 5 (upd (A 5) l x) else A
def i_feed (l : Nat) (x : Int32) (I : Nat → Int32) : Nat → Int32 := if sp_R x 0 255 ∧ ¬ l = 110 then va_up I 1 (nI (l + 1)) else I
def sp_image (b : Nat) (k : Int32) : Int32 := if sp_R k 0 1 then (if 0 < b then 1 else -1000002) else -1000001
def a_image (b : Nat) (k : Int32) (A : Nat → Nat → Int32) : Nat → Nat → Int32 := if sp_R k 0 1 ∧ 0 < b then va_up (va_up A 0 (va_cpy (A 0) (A 0) 0 (3350 + 134 * sp_n k) 134)) 1 (upd (A 1) (sp_n k) 1) else A
def sp_restore (A : Nat → Nat → Int32) (k : Int32) : Int32 := if sp_R k 0 1 then (if A 1 (sp_n k) = 0 then -1000002 else 1) else -1000001
def a_restore (k : Int32) (A : Nat → Nat → Int32) : Nat → Nat → Int32 := if sp_R k 0 1 ∧ ¬ A 1 (sp_n k) = 0 then va_up A 0 (va_cpy (A 0) (A 0) (3350 + 134 * sp_n k) 0 134) else A
def i_restore (A : Nat → Nat → Int32) (k : Int32) (I : Nat → Int32) : Nat → Int32 := if sp_R k 0 1 ∧ ¬ A 1 (sp_n k) = 0 then va_up I 0 0 else I
theorem nk_cg2 {ad : Nat → Nat} {A : Nat → Nat → Int32} {I : Nat → Int32} {x x' : Nat → Int32} {y y' : Nat} (h1 : x = x') (h2 : y = y') : mh ad (va_up A 6 x) (va_up I 4 (nI y)) = mh ad (va_up A 6 x') (va_up I 4 (nI y')) := by rw [h1, h2]
