def sp_reader (x n t : Int32) : Int32 := if x = 0 ∨ x = 1 then (if n < 1 ∨ 5 < n ∨ t < 0 ∨ ¬ t >>> (n &&& 31) = 0 then -3 else 1) else -2
def sp_write (_ : Int64) (n : Int32) : Int32 := if n < 1 ∨ 8 < n then -3 else n
def sp_fault (x : Int32) : Int32 := if x = 0 ∨ x = 1 then 0 else -2
def sp_moves (x : Int32) : Int32 := if x = 0 ∨ x = 1 then -4 else -2
def sp_move (x q z w : Int32) : Int32 := if (x = 0 ∨ x = 1) ∧ q = 0 ∧ 0 ≤ z ∧ z ≤ 4 then (if w < 0 ∨ 2 < w then -3 else -1) else -2
def sp_letter (z : Int32) : Int32 := if 0 ≤ z ∧ z ≤ 2 then 1 else -2
def badrow (b : Int64) (n : Int32) : Prop := ∃ j, j < n.toNatClampNeg ∧ (b >>> (((2 : Int32) * nI j).toInt64 &&& 63)) &&& (3 : Int64) = 3
noncomputable def sp_row (b : Int64) (n : Int32) : Int32 := if n < 0 ∨ 24 < n then -3 else @ite _ (badrow b n) (Classical.propDecidable _) (-2) 1
def sp_run (x w : Int32) : Int32 := if x = 0 ∨ x = 1 then (if w < 0 ∨ 4 < w then -3 else 0) else -2
def sp_said (x k : Int32) : Int32 := if x = 0 ∨ x = 1 then (if k < 0 then -3 else -1) else -2
def sp_table (x y q : Int32) : Int32 := if (x = 0 ∨ x = 1) ∧ q = 0 then (if y < 0 ∨ 1 < y then -3 else -4) else -2
def sp_like (x k : Int32) : Int32 := if x = 0 ∨ x = 1 then (if k < -1 then -3 else -4) else -2
def sp_kinds (x : Int32) : Int32 := if x = 0 ∨ x = 1 then 1 else -2
def sp_many (x n : Int32) : Int32 := if x = 0 ∨ x = 1 then (if n < 0 ∨ 10000 < n then -3 else 0) else -2
def sp_of (x n i k : Int32) : Int32 := if x = 0 ∨ x = 1 then (if n < 0 ∨ 12 < n ∨ i < 0 ∨ k < 0 then -3 else -1) else -2
def sp_rank (x : Int32) : Int32 := if x = 0 ∨ x = 1 then -1 else -2
def sp_alike (x i j : Int32) : Int32 := if x = 0 ∨ x = 1 then (if i = 0 ∧ j = 0 then 1 else -3) else -2
def sp_short (x k : Int32) : Int32 := if x = 0 ∨ x = 1 then (if k < -1 then -3 else -1) else -2
def sp_parted (k : Int32) : Int32 := if k < -1 then -3 else -1
def sp_otherwise (n k : Int32) : Int32 := if n < 0 ∨ 7 < n ∨ k < -1 then -3 else -1
def sp_most (x n : Int32) : Int32 := if x = 0 ∨ x = 1 then (if n < 0 ∨ 7 < n then -3 else 0) else -2
def sp_count (w : Int32) : Int32 := if w = 0 ∨ w = 1 ∨ w = 2 ∨ w = 3 then 0 else -3
theorem rp_bad (N : Nat) (b : Int64) (hM : N ≤ 24) (j : Nat) (hj : j < N) (h : (b >>> (((2 : Int32) * nI j).toInt64 &&& 63)) &&& (3 : Int64) = 3) : (-2 : Int32) = sp_row b (nI N) := by
  have e : (nI N).toNatClampNeg = N := nI_clamp (by omega)
  unfold sp_row
  rw [if_neg (fun q => q.elim (nI_pos (by omega)) (nI_nlt (a := 24) hM (by decide))), if_pos (show badrow b (nI N) from ⟨j, by rw [e]; exact hj, h⟩)]
theorem rp_ok (N : Nat) (b : Int64) (hM : N ≤ 24) (h : ∀ i, i < N → ¬ (b >>> (((2 : Int32) * nI i).toInt64 &&& 63)) &&& (3 : Int64) = 3) : (1 : Int32) = sp_row b (nI N) := by
  have e : (nI N).toNatClampNeg = N := nI_clamp (by omega)
  unfold sp_row
  rw [if_neg (fun q => q.elim (nI_pos (by omega)) (nI_nlt (a := 24) hM (by decide))), if_neg (fun q : badrow b (nI N) => q.elim (fun j hj => h j (by rw [e] at hj; exact hj.1) hj.2))]
