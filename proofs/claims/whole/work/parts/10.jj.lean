/-! The judgement JJ over the kit's W: heap, locals and the static context hidden; one rule an instruction. -/
abbrev pG : Type := va_G × (ClassId × ClassId × ClassId × ClassId) × Nat × (Nat → Nat) × (Nat → Nat)
abbrev gD (G : pG) : va_G := G.1
abbrev gI (G : pG) : ClassId := G.2.1.1
abbrev gJ (G : pG) : ClassId := G.2.1.2.1
abbrev gB (G : pG) : ClassId := G.2.1.2.2.1
abbrev gS (G : pG) : ClassId := G.2.1.2.2.2
abbrev gT (G : pG) : List (ClassId × FieldType) := [(gI G, .int), (gJ G, .long), (gB G, .byte), (gS G, .object "OthersShare$Sheet")]
/-- the model's row of names, as ints -/
def nmL : List Int32 := [112, 97, 114, 116, 0, 0, 0, 0, 115, 97, 105, 108, 111, 114, 0, 0, 112, 101, 116, 0, 0, 0, 0, 0, 103, 104, 111, 115, 116, 0, 0, 0, 97, 100, 109, 105, 114, 97, 108, 0, 121, 111, 117, 110, 103, 101, 115, 116, 108, 111, 110, 103, 0, 0, 0, 0, 108, 97, 116, 101, 114, 0, 0, 0, 102, 114, 101, 101, 0, 0, 0, 0, 115, 99, 104, 111, 111, 108, 0, 0, 119, 101, 97, 114, 121, 0, 0, 0]
/-- the eleven words, by their letters, in the order of the model's names -/
def wdL : List (List Int32) := [[112, 97, 114, 116], [115, 97, 105, 108, 111, 114], [112, 101, 116], [103, 104, 111, 115, 116], [97, 100, 109, 105, 114, 97, 108], [121, 111, 117, 110, 103, 101, 115, 116], [108, 111, 110, 103], [108, 97, 116, 101, 114], [102, 114, 101, 101], [115, 99, 104, 111, 111, 108], [119, 101, 97, 114, 121]]
def wdN : List Nat := [4, 6, 3, 5, 7, 8, 4, 5, 4, 6, 5]
def wdS : List String := ["part", "sailor", "pet", "ghost", "admiral", "youngest", "long", "later", "free", "school", "weary"]
/-- the places of the words in the reader's pool -/
def wdK : List Nat := [81, 85, 87, 89, 91, 93, 67, 69, 42, 51, 53]
/-- what lies outside the worlds and never changes: statics and text constants -/
def gE (G : pG) (A : Nat → Prop) (U : State) (H : Heap) : Prop :=
  va_Z "OthersShareModel" "NAMES" "[I" (.ref G.2.2.1) A U H ∧ va_T .int G.2.2.1 88 (fun j => .int (nmL.getD j 0)) A U H ∧ va_Z "java/lang/String" "COMPACT_STRINGS" "Z" (.int 1) A U H ∧ va_Zq "jdk/internal/util/Preconditions" "SIOOBE_FORMATTER" "Ljava/util/function/BiFunction;" A U H ∧ vk_S 11 wdN wdL G.2.2.2.1 G.2.2.2.2 A U H ∧ ∀ i : Nat, i < 11 → vk_R RX2 (wdK.getD i 0) (wdS.getD i "") (G.2.2.2.1 i) U
theorem gE.kept {G : pG} {A : Nat → Prop} {U : State} {H H1 : Heap} (h : gE G A U H) (hq : ∀ a : Nat, a < H.size → ¬ A a → H1[a]? = H[a]?) : gE G A U H1 := ⟨h.1.kept hq, h.2.1.kept hq, h.2.2.1.kept hq, h.2.2.2.1.kept hq, h.2.2.2.2.1.kept hq, h.2.2.2.2.2⟩
theorem gE.narrow {G : pG} {A B : Nat → Prop} {U : State} {H : Heap} (h : gE G A U H) (hAB : ∀ q, B q → A q) : gE G B U H := ⟨h.1.narrow hAB, h.2.1.narrow hAB, h.2.2.1.narrow hAB, h.2.2.2.1.narrow hAB, h.2.2.2.2.1.narrow hAB, h.2.2.2.2.2⟩
theorem gE.warm {G : pG} {A : Nat → Prop} {s U : State} {H : Heap} (hW : s.WarmedH U.vm) (h : gE G A s H) : gE G A U H := ⟨va_Z.moved hW.alike h.1, va_T.moved hW.alike h.2.1, va_Z.moved hW.alike h.2.2.1, va_Zq.moved hW.alike h.2.2.2.1, vk_S.moved hW.alike h.2.2.2.2.1, fun i hi => (h.2.2.2.2.2 i hi).warm hW⟩
theorem gE.call {G : pG} {A : Nat → Prop} {U : State} {H : Heap} {g : JFrame} {mk : MethodId} {a : Array Value} (h : gE G A U H) : gE G A (U.calling g mk a) H := ⟨va_Z.moved (u := U) (U := U.calling g mk a) (Vm.Alike.refl U.vm) h.1, va_T.moved (u := U) (U := U.calling g mk a) (Vm.Alike.refl U.vm) h.2.1, va_Z.moved (u := U) (U := U.calling g mk a) (Vm.Alike.refl U.vm) h.2.2.1, va_Zq.moved (u := U) (U := U.calling g mk a) (Vm.Alike.refl U.vm) h.2.2.2.1, vk_S.moved (u := U) (U := U.calling g mk a) (Vm.Alike.refl U.vm) h.2.2.2.2.1, fun i hi => vk_R.same (u := U) (U := U.calling g mk a) rfl (h.2.2.2.2.2 i hi)⟩
abbrev pK : Type := Program × Launch × Env × Room × State × MethodId × Array Value × List Frame × Method × Code × (State → Prop) × (Nat → Prop) × Nat
abbrev kp (K : pK) : Program := K.1
abbrev kl (K : pK) : Launch := K.2.1
abbrev ke (K : pK) : Env := K.2.2.1
abbrev kR (K : pK) : Room := K.2.2.2.1
abbrev ks (K : pK) : State := K.2.2.2.2.1
abbrev km (K : pK) : MethodId := K.2.2.2.2.2.1
abbrev ka (K : pK) : Array Value := K.2.2.2.2.2.2.1
abbrev kb (K : pK) : List Frame := K.2.2.2.2.2.2.2.1
abbrev kme (K : pK) : Method := K.2.2.2.2.2.2.2.2.1
abbrev kc (K : pK) : Code := K.2.2.2.2.2.2.2.2.2.1
abbrev kQ (K : pK) : State → Prop := K.2.2.2.2.2.2.2.2.2.2.1
abbrev kA (K : pK) : Nat → Prop := K.2.2.2.2.2.2.2.2.2.2.2.1
abbrev kN (K : pK) : Nat := K.2.2.2.2.2.2.2.2.2.2.2.2
def WW (K : pK) (H : Heap) (locs : List Loc) (cells slots pc : Nat) (ls : Array Slot) (st : List Value) : Prop := W (kp K) (kl K) (ke K) (kR K) (ks K) (km K) (ka K) (kb K) (kme K) (kc K) H locs cells slots (kQ K) (F0 (km K) pc ls st)
def JJ (G : pG) (K : pK) (cells slots : Nat) (ws : va_W) (lv : List (Nat × Value)) (pc : Nat) (st : List Value) : Prop :=
  ∀ (H : Heap) (locs : List Loc) (ls : Array Slot), va_P (gD G) vwCl ws H → va_D (kA K) ws → va_S (kA K) (ks K).heap H locs → lv_has ls (kN K) lv → WW K H locs cells slots pc ls st
/-- what stands fast in a method: machine, bytes, words, kinds, room, the rest -/
def CX (G : pG) (K : pK) (cc : ByteArray) (own : String) (Ts : List Cond) (nL : Nat) (rm : Room) : Prop :=
  (kp K).tables.exec = Jvm.exec ∧ (kc K).code = cc ∧ (∀ w ∈ Ts, w.before (ka K) (ks K) = true) ∧ (ks K).vm.findClass own = some (km K).cls ∧ va_K (gD G) vwCl (gT G) (ks K) ∧ (∀ q, (ks K).heap.size ≤ q → kA K q) ∧ (kc K).maxLocals = nL ∧ kN K = nL ∧ kR K = rm ∧ gE G (kA K) (ks K) (ks K).heap ∧ (kme K).locks = false
theorem CX.loc {G : pG} {K : pK} {cc : ByteArray} {own : String} {Ts : List Cond} {nL : Nat} {rm : Room} (cx : CX G K cc own Ts nL rm) {i : Nat} (h : i < nL) : i < kN K := by rw [cx.2.2.2.2.2.2.2.1]; exact h
section JR
variable {G : pG} {K : pK} {cc : ByteArray} {own : String} {Ts : List Cond} {nL : Nat} {rm : Room} {cells slots : Nat} {ws : va_W} {lv : List (Nat × Value)} {st : List Value}
theorem j_iconst (pc : Nat) (cx : CX G K cc own Ts nL rm) {n : Int} (v : Int32) (hdg : decode cc pc = .ok (.iconst n, 1)) (hv : Int32.ofInt n = v) (k : JJ G K cells slots ws lv (pc + 1) (.int v :: st)) : JJ G K cells slots ws lv pc st :=
  fun H locs ls hP hD hS hl => lv_iconst cx.1 cx.2.1 hdg hv (k H locs ls hP hD hS hl)
theorem j_bipush (pc : Nat) (cx : CX G K cc own Ts nL rm) {n : Int} (v : Int32) (hdg : decode cc pc = .ok (.bipush n, 2)) (hv : (Int8.ofInt n).toInt32 = v) (k : JJ G K cells slots ws lv (pc + 2) (.int v :: st)) : JJ G K cells slots ws lv pc st :=
  fun H locs ls hP hD hS hl => lv_bipush cx.1 cx.2.1 hdg hv (k H locs ls hP hD hS hl)
theorem j_sipush (pc : Nat) (cx : CX G K cc own Ts nL rm) {n : Int} (v : Int32) (hdg : decode cc pc = .ok (.sipush n, 3)) (hv : (Int16.ofInt n).toInt32 = v) (k : JJ G K cells slots ws lv (pc + 3) (.int v :: st)) : JJ G K cells slots ws lv pc st :=
  fun H locs ls hP hD hS hl => lv_sipush cx.1 cx.2.1 hdg hv (k H locs ls hP hD hS hl)
theorem j_lconst (pc : Nat) (cx : CX G K cc own Ts nL rm) {n : Fin 2} (v : Int64) (hdg : decode cc pc = .ok (.lconst n, 1)) (hv : Int64.ofNat (n : Nat) = v) (k : JJ G K cells slots ws lv (pc + 1) (.long v :: st)) : JJ G K cells slots ws lv pc st :=
  fun H locs ls hP hD hS hl => lv_lconst cx.1 cx.2.1 hdg hv (k H locs ls hP hD hS hl)
theorem j_ldc (pc : Nat) (cx : CX G K cc own Ts nL rm) {index : Nat} {v : Int32} (hw : Cond.constant own index v ∈ Ts) (hdg : decode cc pc = .ok (.ldc index, 2)) (k : JJ G K cells slots ws lv (pc + 2) (.int v :: st)) : JJ G K cells slots ws lv pc st :=
  fun H locs ls hP hD hS hl => lv_ldc cx.1 cx.2.1 cx.2.2.2.1 (cx.2.2.1 _ hw) hdg (k H locs ls hP hD hS hl)
theorem j_ldc2 (pc : Nat) (cx : CX G K cc own Ts nL rm) {index : Nat} {v : Int64} (hw : Cond.constantLong own index v ∈ Ts) (hdg : decode cc pc = .ok (.ldc2_w index, 3)) (k : JJ G K cells slots ws lv (pc + 3) (.long v :: st)) : JJ G K cells slots ws lv pc st :=
  fun H locs ls hP hD hS hl => lv_ldc2 cx.1 cx.2.1 cx.2.2.2.1 (cx.2.2.1 _ hw) hdg (k H locs ls hP hD hS hl)
theorem j_iload_n (pc : Nat) (cx : CX G K cc own Ts nL rm) (j : Nat) {i : Fin 4} {x : Int32} (hdg : decode cc pc = .ok (.iload_n i, 1)) (hl : lv[j]? = some ((i : Nat), .int x)) (k : JJ G K cells slots ws lv (pc + 1) (.int x :: st)) : JJ G K cells slots ws lv pc st :=
  fun H locs ls hP hD hS h => lv_iload_n cx.1 cx.2.1 hdg rfl (lv_at h j hl) (k H locs ls hP hD hS h)
theorem j_iload (pc : Nat) (cx : CX G K cc own Ts nL rm) (j : Nat) {i : Nat} {x : Int32} (hdg : decode cc pc = .ok (.iload i, 2)) (hl : lv[j]? = some (i, .int x)) (k : JJ G K cells slots ws lv (pc + 2) (.int x :: st)) : JJ G K cells slots ws lv pc st :=
  fun H locs ls hP hD hS h => lv_iload cx.1 cx.2.1 hdg (lv_at h j hl) (k H locs ls hP hD hS h)
theorem j_lload_n (pc : Nat) (cx : CX G K cc own Ts nL rm) (j : Nat) {i : Fin 4} {x : Int64} (hdg : decode cc pc = .ok (.lload_n i, 1)) (hl : lv[j]? = some ((i : Nat), .long x)) (k : JJ G K cells slots ws lv (pc + 1) (.long x :: st)) : JJ G K cells slots ws lv pc st :=
  fun H locs ls hP hD hS h => lv_lload_n cx.1 cx.2.1 hdg rfl (lv_at h j hl) (k H locs ls hP hD hS h)
theorem j_lload (pc : Nat) (cx : CX G K cc own Ts nL rm) (j : Nat) {i : Nat} {x : Int64} (hdg : decode cc pc = .ok (.lload i, 2)) (hl : lv[j]? = some (i, .long x)) (k : JJ G K cells slots ws lv (pc + 2) (.long x :: st)) : JJ G K cells slots ws lv pc st :=
  fun H locs ls hP hD hS h => lv_lload cx.1 cx.2.1 hdg (lv_at h j hl) (k H locs ls hP hD hS h)
theorem j_aload_n (pc : Nat) (cx : CX G K cc own Ts nL rm) (j : Nat) {i : Fin 4} {x : Nat} (hdg : decode cc pc = .ok (.aload_n i, 1)) (hl : lv[j]? = some ((i : Nat), .ref x)) (k : JJ G K cells slots ws lv (pc + 1) (.ref x :: st)) : JJ G K cells slots ws lv pc st :=
  fun H locs ls hP hD hS h => lv_aload_n cx.1 cx.2.1 hdg rfl (lv_at h j hl) (k H locs ls hP hD hS h)
theorem j_aload (pc : Nat) (cx : CX G K cc own Ts nL rm) (j : Nat) {i : Nat} {x : Nat} (hdg : decode cc pc = .ok (.aload i, 2)) (hl : lv[j]? = some (i, .ref x)) (k : JJ G K cells slots ws lv (pc + 2) (.ref x :: st)) : JJ G K cells slots ws lv pc st :=
  fun H locs ls hP hD hS h => lv_aload cx.1 cx.2.1 hdg (lv_at h j hl) (k H locs ls hP hD hS h)
theorem j_aload_nN (pc : Nat) (cx : CX G K cc own Ts nL rm) (j : Nat) {i : Fin 4} (hdg : decode cc pc = .ok (.aload_n i, 1)) (hl : lv[j]? = some ((i : Nat), .null)) (k : JJ G K cells slots ws lv (pc + 1) (.null :: st)) : JJ G K cells slots ws lv pc st :=
  fun H locs ls hP hD hS h => lv_aload_nN cx.1 cx.2.1 hdg rfl (lv_at h j hl) (k H locs ls hP hD hS h)
theorem j_aloadN (pc : Nat) (cx : CX G K cc own Ts nL rm) (j : Nat) {i : Nat} (hdg : decode cc pc = .ok (.aload i, 2)) (hl : lv[j]? = some (i, .null)) (k : JJ G K cells slots ws lv (pc + 2) (.null :: st)) : JJ G K cells slots ws lv pc st :=
  fun H locs ls hP hD hS h => lv_aloadN cx.1 cx.2.1 hdg (lv_at h j hl) (k H locs ls hP hD hS h)
theorem j_istore_n (pc : Nat) (cx : CX G K cc own Ts nL rm) (lv' : List (Nat × Value)) {i : Fin 4} {x : Int32} (hdg : decode cc pc = .ok (.istore_n i, 1)) (hn : (i : Nat) < nL) (hl : ((i : Nat), Value.int x) :: lv.filter (fun q => !(q.1 == (i : Nat)) && !(q.1 + 1 == (i : Nat) && q.2.category == 2)) = lv') (k : JJ G K cells slots ws lv' (pc + 1) st) : JJ G K cells slots ws lv pc (.int x :: st) :=
  fun H locs ls hP hD hS h => lv_istore_n cx.1 cx.2.1 hdg rfl h (cx.loc hn) hl (fun ls' h' => k H locs ls' hP hD hS h')
theorem j_istore (pc : Nat) (cx : CX G K cc own Ts nL rm) (lv' : List (Nat × Value)) {i : Nat} {x : Int32} (hdg : decode cc pc = .ok (.istore i, 2)) (hn : i < nL) (hl : (i, Value.int x) :: lv.filter (fun q => !(q.1 == i) && !(q.1 + 1 == i && q.2.category == 2)) = lv') (k : JJ G K cells slots ws lv' (pc + 2) st) : JJ G K cells slots ws lv pc (.int x :: st) :=
  fun H locs ls hP hD hS h => lv_istore cx.1 cx.2.1 hdg h (cx.loc hn) hl (fun ls' h' => k H locs ls' hP hD hS h')
theorem j_lstore (pc : Nat) (cx : CX G K cc own Ts nL rm) (lv' : List (Nat × Value)) {i : Nat} {x : Int64} (hdg : decode cc pc = .ok (.lstore i, 2)) (hn : i + 1 < nL) (hl : (i, Value.long x) :: lv.filter (fun q => !(q.1 == i) && (!(q.1 == i + 1) && !(q.1 + 1 == i && q.2.category == 2))) = lv') (k : JJ G K cells slots ws lv' (pc + 2) st) : JJ G K cells slots ws lv pc (.long x :: st) :=
  fun H locs ls hP hD hS h => lv_lstore cx.1 cx.2.1 hdg h (cx.loc hn) hl (fun ls' h' => k H locs ls' hP hD hS h')
theorem j_lstore_n (pc : Nat) (cx : CX G K cc own Ts nL rm) (lv' : List (Nat × Value)) {i : Fin 4} {x : Int64} (hdg : decode cc pc = .ok (.lstore_n i, 1)) (hn : (i : Nat) + 1 < nL) (hl : ((i : Nat), Value.long x) :: lv.filter (fun q => !(q.1 == (i : Nat)) && (!(q.1 == (i : Nat) + 1) && !(q.1 + 1 == (i : Nat) && q.2.category == 2))) = lv') (k : JJ G K cells slots ws lv' (pc + 1) st) : JJ G K cells slots ws lv pc (.long x :: st) :=
  fun H locs ls hP hD hS h => lv_lstore_n cx.1 cx.2.1 hdg rfl h (cx.loc hn) hl (fun ls' h' => k H locs ls' hP hD hS h')
theorem j_astore_n (pc : Nat) (cx : CX G K cc own Ts nL rm) (lv' : List (Nat × Value)) {i : Fin 4} {x : Nat} (hdg : decode cc pc = .ok (.astore_n i, 1)) (hn : (i : Nat) < nL) (hl : ((i : Nat), Value.ref x) :: lv.filter (fun q => !(q.1 == (i : Nat)) && !(q.1 + 1 == (i : Nat) && q.2.category == 2)) = lv') (k : JJ G K cells slots ws lv' (pc + 1) st) : JJ G K cells slots ws lv pc (.ref x :: st) :=
  fun H locs ls hP hD hS h => lv_astore_n cx.1 cx.2.1 hdg rfl h (cx.loc hn) hl (fun ls' h' => k H locs ls' hP hD hS h')
theorem j_astore (pc : Nat) (cx : CX G K cc own Ts nL rm) (lv' : List (Nat × Value)) {i : Nat} {x : Nat} (hdg : decode cc pc = .ok (.astore i, 2)) (hn : i < nL) (hl : (i, Value.ref x) :: lv.filter (fun q => !(q.1 == i) && !(q.1 + 1 == i && q.2.category == 2)) = lv') (k : JJ G K cells slots ws lv' (pc + 2) st) : JJ G K cells slots ws lv pc (.ref x :: st) :=
  fun H locs ls hP hD hS h => lv_astore cx.1 cx.2.1 hdg h (cx.loc hn) hl (fun ls' h' => k H locs ls' hP hD hS h')
theorem j_astore_nN (pc : Nat) (cx : CX G K cc own Ts nL rm) (lv' : List (Nat × Value)) {i : Fin 4} (hdg : decode cc pc = .ok (.astore_n i, 1)) (hn : (i : Nat) < nL) (hl : ((i : Nat), Value.null) :: lv.filter (fun q => !(q.1 == (i : Nat)) && !(q.1 + 1 == (i : Nat) && q.2.category == 2)) = lv') (k : JJ G K cells slots ws lv' (pc + 1) st) : JJ G K cells slots ws lv pc (.null :: st) :=
  fun H locs ls hP hD hS h => lv_astore_nN cx.1 cx.2.1 hdg rfl h (cx.loc hn) hl (fun ls' h' => k H locs ls' hP hD hS h')
theorem j_astoreN (pc : Nat) (cx : CX G K cc own Ts nL rm) (lv' : List (Nat × Value)) {i : Nat} (hdg : decode cc pc = .ok (.astore i, 2)) (hn : i < nL) (hl : (i, Value.null) :: lv.filter (fun q => !(q.1 == i) && !(q.1 + 1 == i && q.2.category == 2)) = lv') (k : JJ G K cells slots ws lv' (pc + 2) st) : JJ G K cells slots ws lv pc (.null :: st) :=
  fun H locs ls hP hD hS h => lv_astoreN cx.1 cx.2.1 hdg h (cx.loc hn) hl (fun ls' h' => k H locs ls' hP hD hS h')
theorem j_iinc (pc : Nat) (cx : CX G K cc own Ts nL rm) (lv' : List (Nat × Value)) (j : Nat) {i : Nat} {n : Int} {x : Int32} (v : Int32) (hdg : decode cc pc = .ok (.iinc i n, 3)) (hk : lv[j]? = some (i, .int x)) (hv : x + Int32.ofInt n = v) (hn : i < nL) (hl : (i, Value.int v) :: lv.filter (fun q => !(q.1 == i) && !(q.1 + 1 == i && q.2.category == 2)) = lv') (k : JJ G K cells slots ws lv' (pc + 3) st) : JJ G K cells slots ws lv pc st :=
  fun H locs ls hP hD hS h => lv_iinc cx.1 cx.2.1 hdg h hk hv (cx.loc hn) hl (fun ls' h' => k H locs ls' hP hD hS h')
theorem j_iadd (pc : Nat) (cx : CX G K cc own Ts nL rm) {x y : Int32} (hdg : decode cc pc = .ok (.iadd, 1)) (k : JJ G K cells slots ws lv (pc + 1) (.int (x + y) :: st)) : JJ G K cells slots ws lv pc (.int y :: .int x :: st) :=
  fun H locs ls hP hD hS h => lv_iadd cx.1 cx.2.1 hdg (k H locs ls hP hD hS h)
theorem j_isub (pc : Nat) (cx : CX G K cc own Ts nL rm) {x y : Int32} (hdg : decode cc pc = .ok (.isub, 1)) (k : JJ G K cells slots ws lv (pc + 1) (.int (x - y) :: st)) : JJ G K cells slots ws lv pc (.int y :: .int x :: st) :=
  fun H locs ls hP hD hS h => lv_isub cx.1 cx.2.1 hdg (k H locs ls hP hD hS h)
theorem j_imul (pc : Nat) (cx : CX G K cc own Ts nL rm) {x y : Int32} (hdg : decode cc pc = .ok (.imul, 1)) (k : JJ G K cells slots ws lv (pc + 1) (.int (x * y) :: st)) : JJ G K cells slots ws lv pc (.int y :: .int x :: st) :=
  fun H locs ls hP hD hS h => lv_imul cx.1 cx.2.1 hdg (k H locs ls hP hD hS h)
theorem j_iand (pc : Nat) (cx : CX G K cc own Ts nL rm) {x y : Int32} (hdg : decode cc pc = .ok (.iand, 1)) (k : JJ G K cells slots ws lv (pc + 1) (.int (x &&& y) :: st)) : JJ G K cells slots ws lv pc (.int y :: .int x :: st) :=
  fun H locs ls hP hD hS h => lv_iand cx.1 cx.2.1 hdg (k H locs ls hP hD hS h)
theorem j_ior (pc : Nat) (cx : CX G K cc own Ts nL rm) {x y : Int32} (hdg : decode cc pc = .ok (.ior, 1)) (k : JJ G K cells slots ws lv (pc + 1) (.int (x ||| y) :: st)) : JJ G K cells slots ws lv pc (.int y :: .int x :: st) :=
  fun H locs ls hP hD hS h => lv_ior cx.1 cx.2.1 hdg (k H locs ls hP hD hS h)
theorem j_ixor (pc : Nat) (cx : CX G K cc own Ts nL rm) {x y : Int32} (hdg : decode cc pc = .ok (.ixor, 1)) (k : JJ G K cells slots ws lv (pc + 1) (.int (x ^^^ y) :: st)) : JJ G K cells slots ws lv pc (.int y :: .int x :: st) :=
  fun H locs ls hP hD hS h => lv_ixor cx.1 cx.2.1 hdg (k H locs ls hP hD hS h)
theorem j_idiv (pc : Nat) (cx : CX G K cc own Ts nL rm) {x y : Int32} (hdg : decode cc pc = .ok (.idiv, 1)) (hne : ¬ y = 0) (k : JJ G K cells slots ws lv (pc + 1) (.int (x / y) :: st)) : JJ G K cells slots ws lv pc (.int y :: .int x :: st) :=
  fun H locs ls hP hD hS h => lv_idiv cx.1 cx.2.1 hdg hne (k H locs ls hP hD hS h)
theorem j_irem (pc : Nat) (cx : CX G K cc own Ts nL rm) {x y : Int32} (hdg : decode cc pc = .ok (.irem, 1)) (hne : ¬ y = 0) (k : JJ G K cells slots ws lv (pc + 1) (.int (x - x / y * y) :: st)) : JJ G K cells slots ws lv pc (.int y :: .int x :: st) :=
  fun H locs ls hP hD hS h => lv_irem cx.1 cx.2.1 hdg hne (k H locs ls hP hD hS h)
theorem j_ishl (pc : Nat) (cx : CX G K cc own Ts nL rm) {x y : Int32} (hdg : decode cc pc = .ok (.ishl, 1)) (k : JJ G K cells slots ws lv (pc + 1) (.int (x <<< (y &&& 31)) :: st)) : JJ G K cells slots ws lv pc (.int y :: .int x :: st) :=
  fun H locs ls hP hD hS h => lv_ishl cx.1 cx.2.1 hdg (k H locs ls hP hD hS h)
theorem j_ishr (pc : Nat) (cx : CX G K cc own Ts nL rm) {x y : Int32} (hdg : decode cc pc = .ok (.ishr, 1)) (k : JJ G K cells slots ws lv (pc + 1) (.int (x >>> (y &&& 31)) :: st)) : JJ G K cells slots ws lv pc (.int y :: .int x :: st) :=
  fun H locs ls hP hD hS h => lv_ishr cx.1 cx.2.1 hdg (k H locs ls hP hD hS h)
theorem j_i2l (pc : Nat) (cx : CX G K cc own Ts nL rm) {x : Int32} (hdg : decode cc pc = .ok (.i2l, 1)) (k : JJ G K cells slots ws lv (pc + 1) (.long x.toInt64 :: st)) : JJ G K cells slots ws lv pc (.int x :: st) :=
  fun H locs ls hP hD hS h => lv_i2l cx.1 cx.2.1 hdg rfl (k H locs ls hP hD hS h)
theorem j_l2i (pc : Nat) (cx : CX G K cc own Ts nL rm) {x : Int64} (hdg : decode cc pc = .ok (.l2i, 1)) (k : JJ G K cells slots ws lv (pc + 1) (.int x.toInt32 :: st)) : JJ G K cells slots ws lv pc (.long x :: st) :=
  fun H locs ls hP hD hS h => lv_l2i cx.1 cx.2.1 hdg rfl (k H locs ls hP hD hS h)
theorem j_i2b (pc : Nat) (cx : CX G K cc own Ts nL rm) {x : Int32} (hdg : decode cc pc = .ok (.i2b, 1)) (k : JJ G K cells slots ws lv (pc + 1) (.int x.toInt8.toInt32 :: st)) : JJ G K cells slots ws lv pc (.int x :: st) :=
  fun H locs ls hP hD hS h => lv_i2b cx.1 cx.2.1 hdg rfl (k H locs ls hP hD hS h)
theorem j_i2s (pc : Nat) (cx : CX G K cc own Ts nL rm) {x : Int32} (hdg : decode cc pc = .ok (.i2s, 1)) (k : JJ G K cells slots ws lv (pc + 1) (.int x.toInt16.toInt32 :: st)) : JJ G K cells slots ws lv pc (.int x :: st) :=
  fun H locs ls hP hD hS h => lv_i2s cx.1 cx.2.1 hdg rfl (k H locs ls hP hD hS h)
theorem j_i2c (pc : Nat) (cx : CX G K cc own Ts nL rm) {x : Int32} (hdg : decode cc pc = .ok (.i2c, 1)) (k : JJ G K cells slots ws lv (pc + 1) (.int (x.toUInt32 % 65536).toInt32 :: st)) : JJ G K cells slots ws lv pc (.int x :: st) :=
  fun H locs ls hP hD hS h => lv_i2c cx.1 cx.2.1 hdg rfl (k H locs ls hP hD hS h)
theorem j_land (pc : Nat) (cx : CX G K cc own Ts nL rm) {x y : Int64} (hdg : decode cc pc = .ok (.land, 1)) (k : JJ G K cells slots ws lv (pc + 1) (.long (x &&& y) :: st)) : JJ G K cells slots ws lv pc (.long y :: .long x :: st) :=
  fun H locs ls hP hD hS h => lv_land cx.1 cx.2.1 hdg (k H locs ls hP hD hS h)
theorem j_lor (pc : Nat) (cx : CX G K cc own Ts nL rm) {x y : Int64} (hdg : decode cc pc = .ok (.lor, 1)) (k : JJ G K cells slots ws lv (pc + 1) (.long (x ||| y) :: st)) : JJ G K cells slots ws lv pc (.long y :: .long x :: st) :=
  fun H locs ls hP hD hS h => lv_lor cx.1 cx.2.1 hdg (k H locs ls hP hD hS h)
theorem j_lshl (pc : Nat) (cx : CX G K cc own Ts nL rm) {x : Int64} {y : Int32} (hdg : decode cc pc = .ok (.lshl, 1)) (k : JJ G K cells slots ws lv (pc + 1) (.long (x <<< (y.toInt64 &&& 63)) :: st)) : JJ G K cells slots ws lv pc (.int y :: .long x :: st) :=
  fun H locs ls hP hD hS h => lv_lshl cx.1 cx.2.1 hdg rfl (k H locs ls hP hD hS h)
theorem j_lcmp (pc : Nat) (cx : CX G K cc own Ts nL rm) {x y : Int64} (hdg : decode cc pc = .ok (.lcmp, 1)) (k : JJ G K cells slots ws lv (pc + 1) (.int (lg_cmp x y) :: st)) : JJ G K cells slots ws lv pc (.long y :: .long x :: st) :=
  fun H locs ls hP hD hS h => W.lcmp cx.1 cx.2.1 hdg (k H locs ls hP hD hS h)
theorem j_dup (pc : Nat) (cx : CX G K cc own Ts nL rm) {va : Value} (hdg : decode cc pc = .ok (.dup, 1)) (hva : va.category = 1) (k : JJ G K cells slots ws lv (pc + 1) (va :: va :: st)) : JJ G K cells slots ws lv pc (va :: st) :=
  fun H locs ls hP hD hS h => lv_dup cx.1 cx.2.1 hdg hva (k H locs ls hP hD hS h)
theorem j_pop (pc : Nat) (cx : CX G K cc own Ts nL rm) {va : Value} (hdg : decode cc pc = .ok (.pop, 1)) (hva : va.category = 1) (k : JJ G K cells slots ws lv (pc + 1) st) : JJ G K cells slots ws lv pc (va :: st) :=
  fun H locs ls hP hD hS h => lv_pop cx.1 cx.2.1 hdg hva (k H locs ls hP hD hS h)
theorem j_dup2 (pc : Nat) (cx : CX G K cc own Ts nL rm) {va vb : Value} (hdg : decode cc pc = .ok (.dup2, 1)) (hva : va.category = 1) (hvb : vb.category = 1) (k : JJ G K cells slots ws lv (pc + 1) (va :: vb :: va :: vb :: st)) : JJ G K cells slots ws lv pc (va :: vb :: st) :=
  fun H locs ls hP hD hS h => lv_dup2_11 cx.1 cx.2.1 hdg hva hvb (k H locs ls hP hD hS h)
theorem j_goto (pc : Nat) (cx : CX G K cc own Ts nL rm) (tgt : Nat) {off : Int} (hdg : decode cc pc = .ok (.goto off, 3)) (ht : (pc : Int) + off = (tgt : Int)) (k : JJ G K cells slots ws lv tgt st) : JJ G K cells slots ws lv pc st :=
  fun H locs ls hP hD hS h => lv_goto cx.1 cx.2.1 hdg ht (k H locs ls hP hD hS h)
theorem j_null (pc : Nat) (cx : CX G K cc own Ts nL rm) (hdg : decode cc pc = .ok (.aconst_null, 1)) (k : JJ G K cells slots ws lv (pc + 1) (.null :: st)) : JJ G K cells slots ws lv pc st :=
  fun H locs ls hP hD hS h => lv_null cx.1 cx.2.1 hdg (k H locs ls hP hD hS h)
theorem j_ifnull (pc : Nat) (cx : CX G K cc own Ts nL rm) {x : Nat} {off : Int} (hdg : decode cc pc = .ok (.ifnull off, 3)) (k : JJ G K cells slots ws lv (pc + 3) st) : JJ G K cells slots ws lv pc (.ref x :: st) :=
  fun H locs ls hP hD hS h => lv_ifnull cx.1 cx.2.1 hdg (k H locs ls hP hD hS h)
theorem j_ifnullN (pc : Nat) (cx : CX G K cc own Ts nL rm) (tgt : Nat) {off : Int} (hdg : decode cc pc = .ok (.ifnull off, 3)) (ht : (pc : Int) + off = (tgt : Int)) (k : JJ G K cells slots ws lv tgt st) : JJ G K cells slots ws lv pc (.null :: st) :=
  fun H locs ls hP hD hS h => lv_ifnullN cx.1 cx.2.1 hdg ht (k H locs ls hP hD hS h)
theorem j_ifnonnull (pc : Nat) (cx : CX G K cc own Ts nL rm) (tgt : Nat) {x : Nat} {off : Int} (hdg : decode cc pc = .ok (.ifnonnull off, 3)) (ht : (pc : Int) + off = (tgt : Int)) (k : JJ G K cells slots ws lv tgt st) : JJ G K cells slots ws lv pc (.ref x :: st) :=
  fun H locs ls hP hD hS h => lv_ifnonnull cx.1 cx.2.1 hdg ht (k H locs ls hP hD hS h)
theorem j_ifnonnullN (pc : Nat) (cx : CX G K cc own Ts nL rm) {off : Int} (hdg : decode cc pc = .ok (.ifnonnull off, 3)) (k : JJ G K cells slots ws lv (pc + 3) st) : JJ G K cells slots ws lv pc (.null :: st) :=
  fun H locs ls hP hD hS h => lv_ifnonnullN cx.1 cx.2.1 hdg (k H locs ls hP hD hS h)
theorem j_icmp_eq (pc : Nat) (cx : CX G K cc own Ts nL rm) (tgt : Nat) {x y : Int32} {off : Int} (hdg : decode cc pc = .ok (.if_icmp .eq off, 3)) (ht : (pc : Int) + off = (tgt : Int)) (kt : x = y → JJ G K cells slots ws lv tgt st) (kf : ¬ x = y → JJ G K cells slots ws lv (pc + 3) st) : JJ G K cells slots ws lv pc (.int y :: .int x :: st) :=
  fun H locs ls hP hD hS h => lv_icmp_eq cx.1 cx.2.1 hdg ht (fun q => kt q H locs ls hP hD hS h) (fun q => kf q H locs ls hP hD hS h)
theorem j_icmp_eq_T (pc : Nat) (cx : CX G K cc own Ts nL rm) (tgt : Nat) {x y : Int32} {off : Int} (hdg : decode cc pc = .ok (.if_icmp .eq off, 3)) (ht : (pc : Int) + off = (tgt : Int)) (hq : x = y) (kt : JJ G K cells slots ws lv tgt st) : JJ G K cells slots ws lv pc (.int y :: .int x :: st) :=
  j_icmp_eq pc cx tgt hdg ht (fun _ => kt) (fun q => absurd hq q)
theorem j_icmp_eq_F (pc : Nat) (cx : CX G K cc own Ts nL rm) {x y : Int32} {off : Int} (tgt : Nat) (hdg : decode cc pc = .ok (.if_icmp .eq off, 3)) (ht : (pc : Int) + off = (tgt : Int)) (hq : ¬ x = y) (kf : JJ G K cells slots ws lv (pc + 3) st) : JJ G K cells slots ws lv pc (.int y :: .int x :: st) :=
  j_icmp_eq pc cx tgt hdg ht (fun q => absurd q hq) (fun _ => kf)
theorem j_if_eq (pc : Nat) (cx : CX G K cc own Ts nL rm) (tgt : Nat) {x : Int32} {off : Int} (hdg : decode cc pc = .ok (.ifCond .eq off, 3)) (ht : (pc : Int) + off = (tgt : Int)) (kt : x = 0 → JJ G K cells slots ws lv tgt st) (kf : ¬ x = 0 → JJ G K cells slots ws lv (pc + 3) st) : JJ G K cells slots ws lv pc (.int x :: st) :=
  fun H locs ls hP hD hS h => lv_if_eq cx.1 cx.2.1 hdg ht (fun q => kt q H locs ls hP hD hS h) (fun q => kf q H locs ls hP hD hS h)
theorem j_if_eq_T (pc : Nat) (cx : CX G K cc own Ts nL rm) (tgt : Nat) {x : Int32} {off : Int} (hdg : decode cc pc = .ok (.ifCond .eq off, 3)) (ht : (pc : Int) + off = (tgt : Int)) (hq : x = 0) (kt : JJ G K cells slots ws lv tgt st) : JJ G K cells slots ws lv pc (.int x :: st) :=
  j_if_eq pc cx tgt hdg ht (fun _ => kt) (fun q => absurd hq q)
theorem j_if_eq_F (pc : Nat) (cx : CX G K cc own Ts nL rm) {x : Int32} {off : Int} (tgt : Nat) (hdg : decode cc pc = .ok (.ifCond .eq off, 3)) (ht : (pc : Int) + off = (tgt : Int)) (hq : ¬ x = 0) (kf : JJ G K cells slots ws lv (pc + 3) st) : JJ G K cells slots ws lv pc (.int x :: st) :=
  j_if_eq pc cx tgt hdg ht (fun q => absurd q hq) (fun _ => kf)
theorem j_icmp_ne (pc : Nat) (cx : CX G K cc own Ts nL rm) (tgt : Nat) {x y : Int32} {off : Int} (hdg : decode cc pc = .ok (.if_icmp .ne off, 3)) (ht : (pc : Int) + off = (tgt : Int)) (kt : ¬ x = y → JJ G K cells slots ws lv tgt st) (kf : x = y → JJ G K cells slots ws lv (pc + 3) st) : JJ G K cells slots ws lv pc (.int y :: .int x :: st) :=
  fun H locs ls hP hD hS h => lv_icmp_ne cx.1 cx.2.1 hdg ht (fun q => kt q H locs ls hP hD hS h) (fun q => kf q H locs ls hP hD hS h)
theorem j_icmp_ne_T (pc : Nat) (cx : CX G K cc own Ts nL rm) (tgt : Nat) {x y : Int32} {off : Int} (hdg : decode cc pc = .ok (.if_icmp .ne off, 3)) (ht : (pc : Int) + off = (tgt : Int)) (hq : ¬ x = y) (kt : JJ G K cells slots ws lv tgt st) : JJ G K cells slots ws lv pc (.int y :: .int x :: st) :=
  j_icmp_ne pc cx tgt hdg ht (fun _ => kt) (fun q => absurd q hq)
theorem j_icmp_ne_F (pc : Nat) (cx : CX G K cc own Ts nL rm) {x y : Int32} {off : Int} (tgt : Nat) (hdg : decode cc pc = .ok (.if_icmp .ne off, 3)) (ht : (pc : Int) + off = (tgt : Int)) (hq : x = y) (kf : JJ G K cells slots ws lv (pc + 3) st) : JJ G K cells slots ws lv pc (.int y :: .int x :: st) :=
  j_icmp_ne pc cx tgt hdg ht (fun q => absurd hq q) (fun _ => kf)
theorem j_if_ne (pc : Nat) (cx : CX G K cc own Ts nL rm) (tgt : Nat) {x : Int32} {off : Int} (hdg : decode cc pc = .ok (.ifCond .ne off, 3)) (ht : (pc : Int) + off = (tgt : Int)) (kt : ¬ x = 0 → JJ G K cells slots ws lv tgt st) (kf : x = 0 → JJ G K cells slots ws lv (pc + 3) st) : JJ G K cells slots ws lv pc (.int x :: st) :=
  fun H locs ls hP hD hS h => lv_if_ne cx.1 cx.2.1 hdg ht (fun q => kt q H locs ls hP hD hS h) (fun q => kf q H locs ls hP hD hS h)
theorem j_if_ne_T (pc : Nat) (cx : CX G K cc own Ts nL rm) (tgt : Nat) {x : Int32} {off : Int} (hdg : decode cc pc = .ok (.ifCond .ne off, 3)) (ht : (pc : Int) + off = (tgt : Int)) (hq : ¬ x = 0) (kt : JJ G K cells slots ws lv tgt st) : JJ G K cells slots ws lv pc (.int x :: st) :=
  j_if_ne pc cx tgt hdg ht (fun _ => kt) (fun q => absurd q hq)
theorem j_if_ne_F (pc : Nat) (cx : CX G K cc own Ts nL rm) {x : Int32} {off : Int} (tgt : Nat) (hdg : decode cc pc = .ok (.ifCond .ne off, 3)) (ht : (pc : Int) + off = (tgt : Int)) (hq : x = 0) (kf : JJ G K cells slots ws lv (pc + 3) st) : JJ G K cells slots ws lv pc (.int x :: st) :=
  j_if_ne pc cx tgt hdg ht (fun q => absurd hq q) (fun _ => kf)
theorem j_icmp_lt (pc : Nat) (cx : CX G K cc own Ts nL rm) (tgt : Nat) {x y : Int32} {off : Int} (hdg : decode cc pc = .ok (.if_icmp .lt off, 3)) (ht : (pc : Int) + off = (tgt : Int)) (kt : x < y → JJ G K cells slots ws lv tgt st) (kf : ¬ x < y → JJ G K cells slots ws lv (pc + 3) st) : JJ G K cells slots ws lv pc (.int y :: .int x :: st) :=
  fun H locs ls hP hD hS h => lv_icmp_lt cx.1 cx.2.1 hdg ht (fun q => kt q H locs ls hP hD hS h) (fun q => kf q H locs ls hP hD hS h)
theorem j_icmp_lt_T (pc : Nat) (cx : CX G K cc own Ts nL rm) (tgt : Nat) {x y : Int32} {off : Int} (hdg : decode cc pc = .ok (.if_icmp .lt off, 3)) (ht : (pc : Int) + off = (tgt : Int)) (hq : x < y) (kt : JJ G K cells slots ws lv tgt st) : JJ G K cells slots ws lv pc (.int y :: .int x :: st) :=
  j_icmp_lt pc cx tgt hdg ht (fun _ => kt) (fun q => absurd hq q)
theorem j_icmp_lt_F (pc : Nat) (cx : CX G K cc own Ts nL rm) {x y : Int32} {off : Int} (tgt : Nat) (hdg : decode cc pc = .ok (.if_icmp .lt off, 3)) (ht : (pc : Int) + off = (tgt : Int)) (hq : ¬ x < y) (kf : JJ G K cells slots ws lv (pc + 3) st) : JJ G K cells slots ws lv pc (.int y :: .int x :: st) :=
  j_icmp_lt pc cx tgt hdg ht (fun q => absurd q hq) (fun _ => kf)
theorem j_if_lt (pc : Nat) (cx : CX G K cc own Ts nL rm) (tgt : Nat) {x : Int32} {off : Int} (hdg : decode cc pc = .ok (.ifCond .lt off, 3)) (ht : (pc : Int) + off = (tgt : Int)) (kt : x < 0 → JJ G K cells slots ws lv tgt st) (kf : ¬ x < 0 → JJ G K cells slots ws lv (pc + 3) st) : JJ G K cells slots ws lv pc (.int x :: st) :=
  fun H locs ls hP hD hS h => lv_if_lt cx.1 cx.2.1 hdg ht (fun q => kt q H locs ls hP hD hS h) (fun q => kf q H locs ls hP hD hS h)
theorem j_if_lt_T (pc : Nat) (cx : CX G K cc own Ts nL rm) (tgt : Nat) {x : Int32} {off : Int} (hdg : decode cc pc = .ok (.ifCond .lt off, 3)) (ht : (pc : Int) + off = (tgt : Int)) (hq : x < 0) (kt : JJ G K cells slots ws lv tgt st) : JJ G K cells slots ws lv pc (.int x :: st) :=
  j_if_lt pc cx tgt hdg ht (fun _ => kt) (fun q => absurd hq q)
theorem j_if_lt_F (pc : Nat) (cx : CX G K cc own Ts nL rm) {x : Int32} {off : Int} (tgt : Nat) (hdg : decode cc pc = .ok (.ifCond .lt off, 3)) (ht : (pc : Int) + off = (tgt : Int)) (hq : ¬ x < 0) (kf : JJ G K cells slots ws lv (pc + 3) st) : JJ G K cells slots ws lv pc (.int x :: st) :=
  j_if_lt pc cx tgt hdg ht (fun q => absurd q hq) (fun _ => kf)
theorem j_icmp_ge (pc : Nat) (cx : CX G K cc own Ts nL rm) (tgt : Nat) {x y : Int32} {off : Int} (hdg : decode cc pc = .ok (.if_icmp .ge off, 3)) (ht : (pc : Int) + off = (tgt : Int)) (kt : y ≤ x → JJ G K cells slots ws lv tgt st) (kf : ¬ y ≤ x → JJ G K cells slots ws lv (pc + 3) st) : JJ G K cells slots ws lv pc (.int y :: .int x :: st) :=
  fun H locs ls hP hD hS h => lv_icmp_ge cx.1 cx.2.1 hdg ht (fun q => kt q H locs ls hP hD hS h) (fun q => kf q H locs ls hP hD hS h)
theorem j_icmp_ge_T (pc : Nat) (cx : CX G K cc own Ts nL rm) (tgt : Nat) {x y : Int32} {off : Int} (hdg : decode cc pc = .ok (.if_icmp .ge off, 3)) (ht : (pc : Int) + off = (tgt : Int)) (hq : y ≤ x) (kt : JJ G K cells slots ws lv tgt st) : JJ G K cells slots ws lv pc (.int y :: .int x :: st) :=
  j_icmp_ge pc cx tgt hdg ht (fun _ => kt) (fun q => absurd hq q)
theorem j_icmp_ge_F (pc : Nat) (cx : CX G K cc own Ts nL rm) {x y : Int32} {off : Int} (tgt : Nat) (hdg : decode cc pc = .ok (.if_icmp .ge off, 3)) (ht : (pc : Int) + off = (tgt : Int)) (hq : ¬ y ≤ x) (kf : JJ G K cells slots ws lv (pc + 3) st) : JJ G K cells slots ws lv pc (.int y :: .int x :: st) :=
  j_icmp_ge pc cx tgt hdg ht (fun q => absurd q hq) (fun _ => kf)
theorem j_if_ge (pc : Nat) (cx : CX G K cc own Ts nL rm) (tgt : Nat) {x : Int32} {off : Int} (hdg : decode cc pc = .ok (.ifCond .ge off, 3)) (ht : (pc : Int) + off = (tgt : Int)) (kt : 0 ≤ x → JJ G K cells slots ws lv tgt st) (kf : ¬ 0 ≤ x → JJ G K cells slots ws lv (pc + 3) st) : JJ G K cells slots ws lv pc (.int x :: st) :=
  fun H locs ls hP hD hS h => lv_if_ge cx.1 cx.2.1 hdg ht (fun q => kt q H locs ls hP hD hS h) (fun q => kf q H locs ls hP hD hS h)
theorem j_if_ge_T (pc : Nat) (cx : CX G K cc own Ts nL rm) (tgt : Nat) {x : Int32} {off : Int} (hdg : decode cc pc = .ok (.ifCond .ge off, 3)) (ht : (pc : Int) + off = (tgt : Int)) (hq : 0 ≤ x) (kt : JJ G K cells slots ws lv tgt st) : JJ G K cells slots ws lv pc (.int x :: st) :=
  j_if_ge pc cx tgt hdg ht (fun _ => kt) (fun q => absurd hq q)
theorem j_if_ge_F (pc : Nat) (cx : CX G K cc own Ts nL rm) {x : Int32} {off : Int} (tgt : Nat) (hdg : decode cc pc = .ok (.ifCond .ge off, 3)) (ht : (pc : Int) + off = (tgt : Int)) (hq : ¬ 0 ≤ x) (kf : JJ G K cells slots ws lv (pc + 3) st) : JJ G K cells slots ws lv pc (.int x :: st) :=
  j_if_ge pc cx tgt hdg ht (fun q => absurd q hq) (fun _ => kf)
theorem j_icmp_gt (pc : Nat) (cx : CX G K cc own Ts nL rm) (tgt : Nat) {x y : Int32} {off : Int} (hdg : decode cc pc = .ok (.if_icmp .gt off, 3)) (ht : (pc : Int) + off = (tgt : Int)) (kt : y < x → JJ G K cells slots ws lv tgt st) (kf : ¬ y < x → JJ G K cells slots ws lv (pc + 3) st) : JJ G K cells slots ws lv pc (.int y :: .int x :: st) :=
  fun H locs ls hP hD hS h => lv_icmp_gt cx.1 cx.2.1 hdg ht (fun q => kt q H locs ls hP hD hS h) (fun q => kf q H locs ls hP hD hS h)
theorem j_icmp_gt_T (pc : Nat) (cx : CX G K cc own Ts nL rm) (tgt : Nat) {x y : Int32} {off : Int} (hdg : decode cc pc = .ok (.if_icmp .gt off, 3)) (ht : (pc : Int) + off = (tgt : Int)) (hq : y < x) (kt : JJ G K cells slots ws lv tgt st) : JJ G K cells slots ws lv pc (.int y :: .int x :: st) :=
  j_icmp_gt pc cx tgt hdg ht (fun _ => kt) (fun q => absurd hq q)
theorem j_icmp_gt_F (pc : Nat) (cx : CX G K cc own Ts nL rm) {x y : Int32} {off : Int} (tgt : Nat) (hdg : decode cc pc = .ok (.if_icmp .gt off, 3)) (ht : (pc : Int) + off = (tgt : Int)) (hq : ¬ y < x) (kf : JJ G K cells slots ws lv (pc + 3) st) : JJ G K cells slots ws lv pc (.int y :: .int x :: st) :=
  j_icmp_gt pc cx tgt hdg ht (fun q => absurd q hq) (fun _ => kf)
theorem j_if_gt (pc : Nat) (cx : CX G K cc own Ts nL rm) (tgt : Nat) {x : Int32} {off : Int} (hdg : decode cc pc = .ok (.ifCond .gt off, 3)) (ht : (pc : Int) + off = (tgt : Int)) (kt : 0 < x → JJ G K cells slots ws lv tgt st) (kf : ¬ 0 < x → JJ G K cells slots ws lv (pc + 3) st) : JJ G K cells slots ws lv pc (.int x :: st) :=
  fun H locs ls hP hD hS h => lv_if_gt cx.1 cx.2.1 hdg ht (fun q => kt q H locs ls hP hD hS h) (fun q => kf q H locs ls hP hD hS h)
theorem j_if_gt_T (pc : Nat) (cx : CX G K cc own Ts nL rm) (tgt : Nat) {x : Int32} {off : Int} (hdg : decode cc pc = .ok (.ifCond .gt off, 3)) (ht : (pc : Int) + off = (tgt : Int)) (hq : 0 < x) (kt : JJ G K cells slots ws lv tgt st) : JJ G K cells slots ws lv pc (.int x :: st) :=
  j_if_gt pc cx tgt hdg ht (fun _ => kt) (fun q => absurd hq q)
theorem j_if_gt_F (pc : Nat) (cx : CX G K cc own Ts nL rm) {x : Int32} {off : Int} (tgt : Nat) (hdg : decode cc pc = .ok (.ifCond .gt off, 3)) (ht : (pc : Int) + off = (tgt : Int)) (hq : ¬ 0 < x) (kf : JJ G K cells slots ws lv (pc + 3) st) : JJ G K cells slots ws lv pc (.int x :: st) :=
  j_if_gt pc cx tgt hdg ht (fun q => absurd q hq) (fun _ => kf)
theorem j_icmp_le (pc : Nat) (cx : CX G K cc own Ts nL rm) (tgt : Nat) {x y : Int32} {off : Int} (hdg : decode cc pc = .ok (.if_icmp .le off, 3)) (ht : (pc : Int) + off = (tgt : Int)) (kt : x ≤ y → JJ G K cells slots ws lv tgt st) (kf : ¬ x ≤ y → JJ G K cells slots ws lv (pc + 3) st) : JJ G K cells slots ws lv pc (.int y :: .int x :: st) :=
  fun H locs ls hP hD hS h => lv_icmp_le cx.1 cx.2.1 hdg ht (fun q => kt q H locs ls hP hD hS h) (fun q => kf q H locs ls hP hD hS h)
theorem j_icmp_le_T (pc : Nat) (cx : CX G K cc own Ts nL rm) (tgt : Nat) {x y : Int32} {off : Int} (hdg : decode cc pc = .ok (.if_icmp .le off, 3)) (ht : (pc : Int) + off = (tgt : Int)) (hq : x ≤ y) (kt : JJ G K cells slots ws lv tgt st) : JJ G K cells slots ws lv pc (.int y :: .int x :: st) :=
  j_icmp_le pc cx tgt hdg ht (fun _ => kt) (fun q => absurd hq q)
theorem j_icmp_le_F (pc : Nat) (cx : CX G K cc own Ts nL rm) {x y : Int32} {off : Int} (tgt : Nat) (hdg : decode cc pc = .ok (.if_icmp .le off, 3)) (ht : (pc : Int) + off = (tgt : Int)) (hq : ¬ x ≤ y) (kf : JJ G K cells slots ws lv (pc + 3) st) : JJ G K cells slots ws lv pc (.int y :: .int x :: st) :=
  j_icmp_le pc cx tgt hdg ht (fun q => absurd q hq) (fun _ => kf)
theorem j_if_le (pc : Nat) (cx : CX G K cc own Ts nL rm) (tgt : Nat) {x : Int32} {off : Int} (hdg : decode cc pc = .ok (.ifCond .le off, 3)) (ht : (pc : Int) + off = (tgt : Int)) (kt : x ≤ 0 → JJ G K cells slots ws lv tgt st) (kf : ¬ x ≤ 0 → JJ G K cells slots ws lv (pc + 3) st) : JJ G K cells slots ws lv pc (.int x :: st) :=
  fun H locs ls hP hD hS h => lv_if_le cx.1 cx.2.1 hdg ht (fun q => kt q H locs ls hP hD hS h) (fun q => kf q H locs ls hP hD hS h)
theorem j_if_le_T (pc : Nat) (cx : CX G K cc own Ts nL rm) (tgt : Nat) {x : Int32} {off : Int} (hdg : decode cc pc = .ok (.ifCond .le off, 3)) (ht : (pc : Int) + off = (tgt : Int)) (hq : x ≤ 0) (kt : JJ G K cells slots ws lv tgt st) : JJ G K cells slots ws lv pc (.int x :: st) :=
  j_if_le pc cx tgt hdg ht (fun _ => kt) (fun q => absurd hq q)
theorem j_if_le_F (pc : Nat) (cx : CX G K cc own Ts nL rm) {x : Int32} {off : Int} (tgt : Nat) (hdg : decode cc pc = .ok (.ifCond .le off, 3)) (ht : (pc : Int) + off = (tgt : Int)) (hq : ¬ x ≤ 0) (kf : JJ G K cells slots ws lv (pc + 3) st) : JJ G K cells slots ws lv pc (.int x :: st) :=
  j_if_le pc cx tgt hdg ht (fun q => absurd q hq) (fun _ => kf)
end JR
