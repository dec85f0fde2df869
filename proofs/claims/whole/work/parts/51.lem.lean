/-! The switch by keys; what a sheet does. -/
section JL
variable {G : pG} {K : pK} {cc : ByteArray} {own : String} {Ts : List Cond} {nL : Nat} {rm : Room} {cells slots : Nat} {ws : va_W} {lv : List (Nat × Value)} {st : List Value}
theorem j_lookup (pc : Nat) (cx : CX G K cc own Ts nL rm) (tgt : Nat) {dflt : Int} {ps : Array (Int × Int)} {len : Nat} {x : Int32} {off : Int} (hdg : decode cc pc = .ok (.lookupswitch dflt ps, len)) (hp : (ps.toList.zip (ps.toList.drop 1)).all (fun (a, next) => a.1 < next.1) = true) (ho : Op.lookupswitch.offset ps.toList dflt x.toInt = off) (ht : (pc : Int) + off = (tgt : Int))
    (kk : JJ G K cells slots ws lv tgt st) : JJ G K cells slots ws lv pc (.int x :: st) :=
  fun H locs ls hP hD hS hl => lv_lookup cx.1 cx.2.1 hdg hp ho ht (kk H locs ls hP hD hS hl)
end JL
def cutF (b : Int32) (v : Int64) : Int64 := if b = 8 then v.toInt32.toInt8.toInt32.toInt64 else if b = 16 then v.toInt32.toInt16.toInt32.toInt64 else v
def spanB (z a n : Int32) : Bool := decide (0 ≤ a ∧ 0 ≤ n ∧ n ≤ z ∧ a ≤ z - n)
def zrF (f : Nat → Int64) (i : Nat) : Nat → Int64 := fun j => if j < i then 0 else f j
theorem zrF_s (f : Nat → Int64) (k : Nat) : vp_updL (zrF f k) k 0 = zrF f (k + 1) := by
  funext j
  unfold vp_updL zrF
  by_cases h : j = k
  · subst h; simp
  · by_cases h2 : j < k
    · simp [h, h2, show j < k + 1 from by omega]
    · simp [h, h2, show ¬ j < k + 1 from by omega]
theorem zrF_0 (f : Nat → Int64) : zrF f 0 = f := by funext j; simp [zrF]
theorem zrF_in {f : Nat → Int64} {k j : Nat} (h : j < k) : zrF f k j = 0 := by simp [zrF, h]
