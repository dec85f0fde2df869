/-! The calls on sheets: what they answer, on both sides. -/
def uA {α : Type} (f : Nat → α) (k : Nat) (v : α) : Nat → α := fun j => if j = k then v else f j
def badL (S : St) (k : Nat) : Int64 × St := ((fcode k).toInt64, fnd S k)
def sp_sheet (s b n : Int32) (S : St) : RS := if inI s 0 3 then (if b = 0 ∨ b = 8 ∨ b = 16 ∨ b = 64 then (if n < 0 then bad S 6 else if 40 < n then bad S 0 else (nI (if b = 0 then 0 else pN n), stB S (uA (sB S) (pN s) b) (uA (sZ S) (pN s) (if b = 0 then 0 else pN n)) (uA (sC S) (pN s) (fun _ => 0)))) else bad S 0) else bad S 0
def sp_write (s i : Int32) (v : Int64) (S : St) : Int64 × St := if inI s 0 3 then (if sB S (pN s) = 0 then badL S 5 else if inI i 0 (nI (sZ S (pN s)) - 1) then (sC S (pN s) (pN i), stB S (sB S) (sZ S) (uA (sC S) (pN s) (vp_updL (sC S (pN s)) (pN i) (cutF (sB S (pN s)) v)))) else badL S 0) else badL S 0
def sp_copy (s a t b n : Int32) (S : St) : RS := if inI s 0 3 = true ∧ inI t 0 3 = true then (if sB S (pN s) = 0 ∨ sB S (pN t) = 0 then bad S 5 else if ¬ sB S (pN s) = sB S (pN t) then bad S 2 else if spanB (nI (sZ S (pN s))) a n = true ∧ spanB (nI (sZ S (pN t))) b n = true then (n, stB S (sB S) (sZ S) (uA (sC S) (pN t) (va_cpy (sC S (pN s)) (sC S (pN t)) (pN a) (pN b) (pN n)))) else bad S 0) else bad S 0
/-- dues laid from a sheet: how many came, and the nursery -/
def layF (c : Nat → Int64) (σ : Nu) : Nat → Nat × Nu | 0 => (0, σ) | k + 1 => if inL (c k) 0 9999 then ((layF c σ k).1 + 1, up2 (layF c σ k).2 5 k (c k).toInt32) else layF c σ k
def sp_lays (s : Int32) (S : St) : RS := if inI s 0 3 then (if sB S (pN s) = 0 then bad S 5 else (nI (layF (sC S (pN s)) (sN S) (min (sZ S (pN s)) (szN (sN S)))).1, stN S (layF (sC S (pN s)) (sN S) (min (sZ S (pN s)) (szN (sN S)))).2)) else bad S 0
def bookF (b : Int32) (c : Nat → Int64) (σ : Nu) : Nat → Nat → Int64 | 0 => c | k + 1 => vp_updL (bookF b c σ k) k (cutF b (oI (loud (daysF σ k))).toInt64)
def sp_book (s : Int32) (S : St) : RS := if inI s 0 3 then (if sB S (pN s) = 0 then bad S 5 else (nI (sZ S (pN s)), stB S (sB S) (sZ S) (uA (sC S) (pN s) (bookF (sB S (pN s)) (sC S (pN s)) (sN S) (sZ S (pN s)))))) else bad S 0
def isBk (c : Nat → Int64) (p : Nat) (σ : Nu) : Nat → Bool | 0 => true | k + 1 => isBk c p σ k && decide (c k = (daysF σ k 4 p).toInt64)
def readN (c : Nat → Int64) (p z : Nat) (σ : Nu) : Nat → Nat | 0 => 0 | j + 1 => readN c p z σ j + (if isBk c p (up2 (up2 σ 2 p (nI (j / 100))) 0 1 (nI (j % 100))) z then 1 else 0)
def sp_read (s p : Int32) (S : St) : RS := if inI s 0 3 then (if sB S (pN s) = 0 then bad S 5 else if isP S p then (nI (readN (sC S (pN s)) (pN p) (sZ S (pN s)) (sN S) 600), S) else bad S 0) else bad S 0
