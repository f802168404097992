/-! OWN ROWS: what a READ gives. -/
def bbL (q : Nat) : Nat := if q = 0 then 2 else if q = 7 then 1 else 0
theorem bbL_0 {q : Nat} (h : q = 0) : bbL q = 2 := if_pos h
theorem bbL_7 {q : Nat} (h : q = 7) : bbL q = 1 := by subst h; rfl
theorem bbL_n {q : Nat} (h : q ≠ 0) (h7 : q ≠ 7) : bbL q = 0 := by unfold bbL; rw [if_neg h, if_neg h7]
def gpV (k : Nat) (g : Nat → Int32) (x0 : Nat) : Nat → List Nat
  | 0 => []
  | n + 1 => gpV k g x0 n ++ valB k (g (x0 + n))
theorem gpV_succ (k : Nat) (g : Nat → Int32) (x0 n : Nat) : gpV k g x0 (n + 1) = gpV k g x0 n ++ valB k (g (x0 + n)) := rfl
theorem gpV_len0 (g : Nat → Int32) (x0 : Nat) : ∀ n, (gpV 0 g x0 n).length = n * 1
  | 0 => rfl
  | n + 1 => by rw [gpV_succ, List.length_append, gpV_len0 g x0 n, valB_len, if_pos rfl]; omega
theorem gpV_len1 (g : Nat → Int32) (x0 : Nat) : ∀ n, (gpV 1 g x0 n).length = n * 5
  | 0 => rfl
  | n + 1 => by rw [gpV_succ, List.length_append, gpV_len1 g x0 n, valB_len, if_neg (by decide)]; omega
def gpWm : Nat → Nat
  | 0 => 1
  | _ + 1 => 5
theorem gpWm_0 : gpWm 0 = 1 := rfl
theorem gpWm_1 : gpWm 1 = 5 := rfl
def gpHd : Nat → Nat → Nat → List Nat
  | 0, x0, x1 => [1, 2, 0, x0, x1]
  | _ + 1, x0, x1 => [30, 1, 0, x0, x1]
def geHd : Nat → Nat
  | 0 => 2
  | _ + 1 => 32
abbrev gpBad (k x0 x1 : Nat) (an : List Nat) : Prop := x1 < x0 ∨ 8 ≤ x1 ∨ 62 - an.length < 5 + (x1 - x0 + 1) * gpWm k
def gpL (k : Nat) (g : Nat → Int32) (x0 x1 : Nat) (an : List Nat) : List Nat := if gpBad k x0 x1 an then an else an ++ gpHd k x0 x1 ++ gpV k g x0 (x1 - x0 + 1)
theorem gpL_bad {k x0 x1 : Nat} {g : Nat → Int32} {an : List Nat} (h : gpBad k x0 x1 an) : gpL k g x0 x1 an = an := if_pos h
theorem gpL_ok {k x0 x1 : Nat} {g : Nat → Int32} {an : List Nat} (h : ¬ gpBad k x0 x1 an) : gpL k g x0 x1 an = an ++ gpHd k x0 x1 ++ gpV k g x0 (x1 - x0 + 1) := if_neg h
def geV (k : Nat) (evs : List (Nat × Int32)) (a0 : Nat) : Nat → List Nat
  | 0 => []
  | n + 1 => geV k evs a0 n ++ [(evs.getD (a0 + n) (0, 0)).1] ++ valB k (evs.getD (a0 + n) (0, 0)).2
theorem geV_succ (k : Nat) (evs : List (Nat × Int32)) (a0 n : Nat) : geV k evs a0 (n + 1) = geV k evs a0 n ++ [(evs.getD (a0 + n) (0, 0)).1] ++ valB k (evs.getD (a0 + n) (0, 0)).2 := rfl
theorem geV_len0 (evs : List (Nat × Int32)) (a0 : Nat) : ∀ n, (geV 0 evs a0 n).length = n * 2
  | 0 => rfl
  | n + 1 => by rw [geV_succ, List.length_append, List.length_append, geV_len0 evs a0 n, valB_len, if_pos rfl, List.length_singleton]; omega
theorem geV_len1 (evs : List (Nat × Int32)) (a0 : Nat) : ∀ n, (geV 1 evs a0 n).length = n * 6
  | 0 => rfl
  | n + 1 => by rw [geV_succ, List.length_append, List.length_append, geV_len1 evs a0 n, valB_len, if_neg (by decide), List.length_singleton]; omega
def geN (w mo : Nat) (evs : List (Nat × Int32)) (ans : Nat) (an : List Nat) : Nat := min (min mo (evs.length - ans)) ((62 - an.length - 4) / w)
def geL (k w mo : Nat) (evs : List (Nat × Int32)) (ans : Nat) (an : List Nat) : List Nat := if geN w mo evs ans an = 0 then an else an ++ [geHd k, 1, 23, geN w mo evs ans an] ++ geV k evs ans (geN w mo evs ans an)
theorem geL_0 {k w mo : Nat} {evs : List (Nat × Int32)} {ans : Nat} {an : List Nat} (h : geN w mo evs ans an = 0) : geL k w mo evs ans an = an := if_pos h
theorem geL_n {k w mo : Nat} {evs : List (Nat × Int32)} {ans : Nat} {an : List Nat} (h : ¬ geN w mo evs ans an = 0) : geL k w mo evs ans an = an ++ [geHd k, 1, 23, geN w mo evs ans an] ++ geV k evs ans (geN w mo evs ans an) := if_neg h
