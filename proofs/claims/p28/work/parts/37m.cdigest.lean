/-! the digest: the list of values, and the class's side -/
def mixTo (f : Nat → Int64) : Nat → Int64 → Int64
  | 0, h => h
  | n + 1, h => (31 : Int64) * mixTo f n h + f n
theorem q_oR {ξ α : Type} (v : α) : o_R (some (Sum.inr v) : Option (ξ ⊕ α)) = some v := rfl
theorem q_sb {α β : Type} (v : α) (f : α → Option β) : (some v).bind f = f v := rfl
def fT (k : Nat → Nat) (i : Nat) : Int64 := (nI (k i)).toInt64
def fB (x : AF) (i : Nat) : Int64 := (aBF x (i + 1) 256).1.toInt64
def fI (x : AF) (i : Nat) : Int64 := (aTried x 10 i).toInt64
def fF (x : AF) (j : Nat) : Int64 := (if j < ar x then nI (av x j) else (-1 : Int32)).toInt64
def fS (x : AF) (i : Nat) : Int64 := (nI (ag x i)).toInt64
def fC (x : AF) (c i : Nat) : Int64 := (aCount x c i).toInt64
def fK (x : AF) (z i : Nat) : Int64 := (aCan x z i).toInt64
def fW (x : AF) (z j : Nat) : Int64 := (nI (aw x z j)).toInt64
def bI (b : Nat) : Int64 := if b = 0 then 0 else 1
def hTx (k : Nat → Nat) (n : Nat) (y : Int64) : Int64 := mixTo (fT k) n ((31 : Int64) * y + (nI n).toInt64)
