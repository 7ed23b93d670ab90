/-! walk: the next orders, from the first, are all orders -/
def nl (k : Nat) (l : List Nat) : List Nat := (List.range k).map (nx k (fun t => l.getD t 0) (pv (fun t => l.getD t 0) (k - 1)).toNat)
def orb (k : Nat) : Nat → List Nat → List (List Nat)
  | 0, _ => []
  | f + 1, l => l :: orb k f (nl k l)
def fc (k : Nat) : Nat := [1, 1, 2, 6, 24, 120].getD k 0
def oS (k : Nat) : List (List Nat) := orb k (fc k) (List.range k)
def ins (x : Nat) : List Nat → List (List Nat)
  | [] => [[x]]
  | y :: l => (x :: y :: l) :: (ins x l).map (y :: ·)
def prm : Nat → List (List Nat)
  | 0 => [[]]
  | n + 1 => (prm n).flatMap (ins n)
theorem orb_last : ∀ k, k < 6 → 0 < k → ((oS k).getLast?.map (fun l => pv (fun t => l.getD t 0) (k - 1))) = some (-1) := by decide +kernel
theorem orb_go : ∀ k, k < 6 → 0 < k → ((oS k).dropLast.all (fun l => decide (0 ≤ pv (fun t => l.getD t 0) (k - 1)))) = true := by decide +kernel
theorem orb_all : ∀ k, k < 6 → (prm k).all (fun l => (oS k).contains l) = true := by decide +kernel
theorem orb_some : ∀ k, k < 6 → (oS k).all (fun l => (prm k).contains l) = true := by decide +kernel
def mon : List Nat → Bool
  | a :: b :: l => decide (a ≤ b) && mon (b :: l)
  | _ => true
theorem orb_first : ∀ k, k < 6 → mon ((oS k).map (fun l => l.getD 0 0)) = true := by decide +kernel
