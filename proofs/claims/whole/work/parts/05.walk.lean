def ic_len : List Nat := [5, 7, 4, 6, 5, 7, 2, 3, 5, 5, 4, 4, 6, 3, 2, 4, 4, 4]
def ic_byt : List (List Int32) := [[114, 105, 100, 101, 114], [114, 101, 103, 117, 108, 97, 114], [108, 97, 100, 121], [102, 97, 116, 104, 101, 114], [99, 108, 101, 114, 107], [98, 97, 114, 114, 105, 101, 114], [105, 102], [110, 111, 116], [116, 114, 97, 105, 110], [100, 101, 112, 116, 104], [119, 105, 115, 104], [114, 117, 115, 104], [110, 117, 109, 98, 101, 114], [97, 110, 100], [111, 114], [101, 120, 105, 116], [114, 105, 100, 101], [115, 116, 97, 121]]
def ic_txt : List (Nat × String) := [(115, "rider"), (117, "regular"), (119, "lady"), (121, "father"), (123, "clerk"), (125, "barrier"), (70, "if"), (100, "not"), (105, "train"), (107, "depth"), (109, "wish"), (111, "rush"), (113, "number"), (98, "and"), (90, "or"), (127, "exit"), (129, "ride"), (131, "stay")]
def ic_nest : List (String × Nat × MethodName × String) := [("InnerCircle", 9, ⟨"InnerCircle$Moment", "<init>", "()V"⟩, "InnerCircle"), ("InnerCircle", 22, ⟨"InnerCircle$Rules", "<init>", "()V"⟩, "InnerCircle"), ("InnerCircle", 53, ⟨"InnerCircle$Rider", "<init>", "()V"⟩, "InnerCircle"), ("InnerCircle", 56, ⟨"InnerCircle$Regular", "<init>", "()V"⟩, "InnerCircle"), ("InnerCircle$Regular", 1, ⟨"InnerCircle$Rider", "<init>", "()V"⟩, "InnerCircle"), ("InnerCircle", 59, ⟨"InnerCircle$Lady", "<init>", "()V"⟩, "InnerCircle"), ("InnerCircle$Lady", 1, ⟨"InnerCircle$Rider", "<init>", "()V"⟩, "InnerCircle"), ("InnerCircle", 62, ⟨"InnerCircle$Father", "<init>", "()V"⟩, "InnerCircle"), ("InnerCircle$Father", 1, ⟨"InnerCircle$Lady", "<init>", "()V"⟩, "InnerCircle"), ("InnerCircle", 65, ⟨"InnerCircle$Clerk", "<init>", "()V"⟩, "InnerCircle"), ("InnerCircle$Clerk", 1, ⟨"InnerCircle$Rider", "<init>", "()V"⟩, "InnerCircle"), ("InnerCircle", 68, ⟨"InnerCircle$Barrier", "<init>", "()V"⟩, "InnerCircle"), ("InnerCircle$Barrier", 1, ⟨"InnerCircle$Clerk", "<init>", "()V"⟩, "InnerCircle"), ("InnerCircle$Net", 32, ⟨"InnerCircle$Moment", "<init>", "()V"⟩, "InnerCircle"), ("InnerCircle$Net", 39, ⟨"InnerCircle$Rules", "<init>", "()V"⟩, "InnerCircle"), ("InnerCircle$Net", 46, ⟨"InnerCircle$Reports", "<init>", "()V"⟩, "InnerCircle"), ("InnerCircle$Plans", 28, ⟨"InnerCircle$Moment", "<init>", "()V"⟩, "InnerCircle"), ("InnerCircle$Net", 134, ⟨"InnerCircle", "isUnder", "(II)Z"⟩, "InnerCircle"), ("InnerCircle$Plans", 92, ⟨"InnerCircle", "has", "(II)Z"⟩, "InnerCircle"), ("InnerCircle$Reports", 89, ⟨"InnerCircle", "within", "(III)Z"⟩, "InnerCircle")]
def ic_abv (j : Nat) : Int32 := if j = 3 then 2 else if j = 5 then 4 else 0
/-- what lies around the things: the classes, the table, the strings, two statics, links between nest mates -/
def ic_K (E : ic_E) (U : State) (H : Heap) : Prop :=
  va_K E.1 vwCl (ic_tys E) U ∧ (va_Z "InnerCircle" "ABOVE" "[I" (.ref E.2.2.2.2.2.1) (ic_A E) U H ∧ va_T .int E.2.2.2.2.2.1 6 (fun j => .int (ic_abv j)) (ic_A E) U H) ∧
  (vk_S 18 ic_len ic_byt E.2.2.2.1 E.2.2.2.2.1 (ic_A E) U H ∧ ∀ (i : Nat) (q : Nat × String), ic_txt[i]? = some q → vk_R "InnerCircle$Rules" q.1 q.2 (E.2.2.2.1 i) U) ∧
  (va_Z "java/lang/String" "COMPACT_STRINGS" "Z" (.int 1) (ic_A E) U H ∧ va_Z "jdk/internal/util/Preconditions" "SIOOBE_FORMATTER" "Ljava/util/function/BiFunction;" E.2.2.2.2.2.2 (ic_A E) U H) ∧
  ∀ q ∈ ic_nest, va_Nw (.methodLinkNest q.1 q.2.1 q.2.2.1 q.2.2.2) U
theorem ic_K.warm {E : ic_E} {s U : State} {H : Heap} (hW : s.WarmedH U.vm) (h : ic_K E s H) : ic_K E U H := by
  obtain ⟨a, ⟨b1, b2⟩, ⟨c1, c2⟩, ⟨d1, d2⟩, e⟩ := h
  have A := hW.alike
  exact ⟨a.moved A, ⟨b1.moved A, b2.moved A⟩, ⟨c1.moved A, fun i q hi => (c2 i q hi).warm hW⟩, ⟨d1.moved A, d2.moved A⟩, fun q hq => va_Nw.warmM hW (e q hq)⟩
theorem ic_K.same {E : ic_E} {u U : State} {H : Heap} (hv : U.vm = u.vm) (h : ic_K E u H) : ic_K E U H := by
  obtain ⟨a, ⟨b1, b2⟩, ⟨c1, c2⟩, ⟨d1, d2⟩, e⟩ := h
  have A : u.vm.Alike U.vm := by rw [hv]; exact Vm.Alike.refl _
  exact ⟨a.moved A, ⟨b1.moved A, b2.moved A⟩, ⟨c1.moved A, fun i q hi => (c2 i q hi).same hv⟩, ⟨d1.moved A, d2.moved A⟩, fun q hq => va_Nw.same rfl hv.symm (e q hq)⟩
theorem ic_K.kept {E : ic_E} {U : State} {H H1 : Heap} (hq : ∀ a : Nat, a < H.size → ¬ ic_A E a → H1[a]? = H[a]?) (h : ic_K E U H) : ic_K E U H1 := by
  obtain ⟨a, ⟨b1, b2⟩, ⟨c1, c2⟩, ⟨d1, d2⟩, e⟩ := h
  exact ⟨a, ⟨b1.kept hq, b2.kept hq⟩, ⟨c1.kept hq, c2⟩, ⟨d1.kept hq, d2.kept hq⟩, e⟩
def ic_M (E : ic_E) (z : Prop) (sh : List ic_S) (h : ic_H) (H : Heap) : Prop := (z → H.size = ic_b E + sh.length) ∧ va_P E.1 vwCl (ic_ws E sh h) H
/-- a frame: the class, the method's name, its bytes, how many locals, what it returns, the room, whether the heap's size is told, the end, what else holds of the start -/
abbrev ic_F : Type := String × String × ByteArray × Nat × Option FieldType × Room × Prop × (List Frame → Array Value → State → State → Prop) × (State → Prop)
def ic_Fx (E : ic_E) (F : ic_F) (p : Program) (s : State) (m : MethodId) (args : Array Value) (meth : Method) (c : Code) : Prop :=
  p.tables.exec = Jvm.exec ∧ c.code = F.2.2.1 ∧ meth.sig.returnType = F.2.2.2.2.1 ∧ meth.locks = false ∧ c.maxLocals = F.2.2.2.1 ∧ s.vm.findClass F.1 = some m.cls ∧ meth.name = F.2.1 ∧ (∀ w ∈ ic_W, w.before args s = true) ∧ ic_K E s s.heap ∧ F.2.2.2.2.2.2.2.2 s
def xx (l : Launch) (E : ic_E) (F : ic_F) (k : Nat × Nat) (pc : Nat) (L : List (Nat × Value)) (st : List Value) (sh : List ic_S) (h : ic_H) : Prop :=
  ∀ (p : Program) (e : Env) (s : State) (m : MethodId) (args : Array Value) (below : List Frame) (meth : Method) (c : Code) (H : Heap) (locs : List Loc) (ls : Array Slot), ic_Fx E F p s m args meth c → ic_M E F.2.2.2.2.2.2.1 sh h H → va_S (ic_A E) s.heap H locs → lv_has ls F.2.2.2.1 L →
    W p l e F.2.2.2.2.2.1 s m args below meth c H locs k.1 k.2 (F.2.2.2.2.2.2.2.1 below args s) (F0 m pc ls st)
def ic_pt (E : ic_E) (o : Nat) : Value := .ref (ic_b E + o)
section XX
variable {l : Launch} {E : ic_E} {F : ic_F} {k : Nat × Nat} {pc : Nat} {L : List (Nat × Value)} {st : List Value} {sh : List ic_S} {h : ic_H}
theorem xx_iconst {n : Int} {v : Int32} (hd : decode F.2.2.1 pc = .ok (.iconst n, 1)) (hv : Int32.ofInt n = v) (kk : xx l E F k (pc + 1) L (.int v :: st) sh h) : xx l E F k pc L (st) sh h :=
  fun p e s m args below meth c H locs ls N M S hl => lv_iconst N.1 N.2.1 hd hv (kk p e s m args below meth c H locs ls N M S hl)
theorem xx_bipush {n : Int} {v : Int32} (hd : decode F.2.2.1 pc = .ok (.bipush n, 2)) (hv : (Int8.ofInt n).toInt32 = v) (kk : xx l E F k (pc + 2) L (.int v :: st) sh h) : xx l E F k pc L (st) sh h :=
  fun p e s m args below meth c H locs ls N M S hl => lv_bipush N.1 N.2.1 hd hv (kk p e s m args below meth c H locs ls N M S hl)
theorem xx_sipush {n : Int} {v : Int32} (hd : decode F.2.2.1 pc = .ok (.sipush n, 3)) (hv : (Int16.ofInt n).toInt32 = v) (kk : xx l E F k (pc + 3) L (.int v :: st) sh h) : xx l E F k pc L (st) sh h :=
  fun p e s m args below meth c H locs ls N M S hl => lv_sipush N.1 N.2.1 hd hv (kk p e s m args below meth c H locs ls N M S hl)
theorem xx_lconst {n : Fin 2} {v : Int64} (hd : decode F.2.2.1 pc = .ok (.lconst n, 1)) (hv : Int64.ofNat (n : Nat) = v) (kk : xx l E F k (pc + 1) L (.long v :: st) sh h) : xx l E F k pc L (st) sh h :=
  fun p e s m args below meth c H locs ls N M S hl => lv_lconst N.1 N.2.1 hd hv (kk p e s m args below meth c H locs ls N M S hl)
theorem xx_iadd {x y : Int32} (hd : decode F.2.2.1 pc = .ok (.iadd, 1)) (kk : xx l E F k (pc + 1) L (.int (x + y) :: st) sh h) : xx l E F k pc L (.int y :: .int x :: st) sh h :=
  fun p e s m args below meth c H locs ls N M S hl => lv_iadd N.1 N.2.1 hd (kk p e s m args below meth c H locs ls N M S hl)
theorem xx_isub {x y : Int32} (hd : decode F.2.2.1 pc = .ok (.isub, 1)) (kk : xx l E F k (pc + 1) L (.int (x - y) :: st) sh h) : xx l E F k pc L (.int y :: .int x :: st) sh h :=
  fun p e s m args below meth c H locs ls N M S hl => lv_isub N.1 N.2.1 hd (kk p e s m args below meth c H locs ls N M S hl)
theorem xx_imul {x y : Int32} (hd : decode F.2.2.1 pc = .ok (.imul, 1)) (kk : xx l E F k (pc + 1) L (.int (x * y) :: st) sh h) : xx l E F k pc L (.int y :: .int x :: st) sh h :=
  fun p e s m args below meth c H locs ls N M S hl => lv_imul N.1 N.2.1 hd (kk p e s m args below meth c H locs ls N M S hl)
theorem xx_iand {x y : Int32} (hd : decode F.2.2.1 pc = .ok (.iand, 1)) (kk : xx l E F k (pc + 1) L (.int (x &&& y) :: st) sh h) : xx l E F k pc L (.int y :: .int x :: st) sh h :=
  fun p e s m args below meth c H locs ls N M S hl => lv_iand N.1 N.2.1 hd (kk p e s m args below meth c H locs ls N M S hl)
theorem xx_ior {x y : Int32} (hd : decode F.2.2.1 pc = .ok (.ior, 1)) (kk : xx l E F k (pc + 1) L (.int (x ||| y) :: st) sh h) : xx l E F k pc L (.int y :: .int x :: st) sh h :=
  fun p e s m args below meth c H locs ls N M S hl => lv_ior N.1 N.2.1 hd (kk p e s m args below meth c H locs ls N M S hl)
theorem xx_ixor {x y : Int32} (hd : decode F.2.2.1 pc = .ok (.ixor, 1)) (kk : xx l E F k (pc + 1) L (.int (x ^^^ y) :: st) sh h) : xx l E F k pc L (.int y :: .int x :: st) sh h :=
  fun p e s m args below meth c H locs ls N M S hl => lv_ixor N.1 N.2.1 hd (kk p e s m args below meth c H locs ls N M S hl)
theorem xx_ishl {x y : Int32} (hd : decode F.2.2.1 pc = .ok (.ishl, 1)) (kk : xx l E F k (pc + 1) L (.int (x <<< (y &&& 31)) :: st) sh h) : xx l E F k pc L (.int y :: .int x :: st) sh h :=
  fun p e s m args below meth c H locs ls N M S hl => lv_ishl N.1 N.2.1 hd (kk p e s m args below meth c H locs ls N M S hl)
theorem xx_ishr {x y : Int32} (hd : decode F.2.2.1 pc = .ok (.ishr, 1)) (kk : xx l E F k (pc + 1) L (.int (x >>> (y &&& 31)) :: st) sh h) : xx l E F k pc L (.int y :: .int x :: st) sh h :=
  fun p e s m args below meth c H locs ls N M S hl => lv_ishr N.1 N.2.1 hd (kk p e s m args below meth c H locs ls N M S hl)
theorem xx_idiv {x y : Int32} (hd : decode F.2.2.1 pc = .ok (.idiv, 1)) (hz : ¬ y = 0) (kk : xx l E F k (pc + 1) L (.int (x / y) :: st) sh h) : xx l E F k pc L (.int y :: .int x :: st) sh h :=
  fun p e s m args below meth c H locs ls N M S hl => lv_idiv N.1 N.2.1 hd hz (kk p e s m args below meth c H locs ls N M S hl)
theorem xx_irem {x y : Int32} (hd : decode F.2.2.1 pc = .ok (.irem, 1)) (hz : ¬ y = 0) (kk : xx l E F k (pc + 1) L (.int (x - x / y * y) :: st) sh h) : xx l E F k pc L (.int y :: .int x :: st) sh h :=
  fun p e s m args below meth c H locs ls N M S hl => lv_irem N.1 N.2.1 hd hz (kk p e s m args below meth c H locs ls N M S hl)
theorem xx_iushr {x y : Int32} (hd : decode F.2.2.1 pc = .ok (.iushr, 1)) (kk : xx l E F k (pc + 1) L (.int ((x.toUInt32 >>> (y.toUInt32 &&& Int32.toUInt32 31)).toInt32) :: st) sh h) : xx l E F k pc L (.int y :: .int x :: st) sh h :=
  fun p e s m args below meth c H locs ls N M S hl => lv_iushr N.1 N.2.1 hd rfl (kk p e s m args below meth c H locs ls N M S hl)
theorem xx_ladd {x y : Int64} (hd : decode F.2.2.1 pc = .ok (.ladd, 1)) (kk : xx l E F k (pc + 1) L (.long (x + y) :: st) sh h) : xx l E F k pc L (.long y :: .long x :: st) sh h :=
  fun p e s m args below meth c H locs ls N M S hl => lv_ladd N.1 N.2.1 hd (kk p e s m args below meth c H locs ls N M S hl)
theorem xx_lsub {x y : Int64} (hd : decode F.2.2.1 pc = .ok (.lsub, 1)) (kk : xx l E F k (pc + 1) L (.long (x - y) :: st) sh h) : xx l E F k pc L (.long y :: .long x :: st) sh h :=
  fun p e s m args below meth c H locs ls N M S hl => lv_lsub N.1 N.2.1 hd (kk p e s m args below meth c H locs ls N M S hl)
theorem xx_lmul {x y : Int64} (hd : decode F.2.2.1 pc = .ok (.lmul, 1)) (kk : xx l E F k (pc + 1) L (.long (x * y) :: st) sh h) : xx l E F k pc L (.long y :: .long x :: st) sh h :=
  fun p e s m args below meth c H locs ls N M S hl => lv_lmul N.1 N.2.1 hd (kk p e s m args below meth c H locs ls N M S hl)
theorem xx_land {x y : Int64} (hd : decode F.2.2.1 pc = .ok (.land, 1)) (kk : xx l E F k (pc + 1) L (.long (x &&& y) :: st) sh h) : xx l E F k pc L (.long y :: .long x :: st) sh h :=
  fun p e s m args below meth c H locs ls N M S hl => lv_land N.1 N.2.1 hd (kk p e s m args below meth c H locs ls N M S hl)
theorem xx_lor {x y : Int64} (hd : decode F.2.2.1 pc = .ok (.lor, 1)) (kk : xx l E F k (pc + 1) L (.long (x ||| y) :: st) sh h) : xx l E F k pc L (.long y :: .long x :: st) sh h :=
  fun p e s m args below meth c H locs ls N M S hl => lv_lor N.1 N.2.1 hd (kk p e s m args below meth c H locs ls N M S hl)
theorem xx_lxor {x y : Int64} (hd : decode F.2.2.1 pc = .ok (.lxor, 1)) (kk : xx l E F k (pc + 1) L (.long (x ^^^ y) :: st) sh h) : xx l E F k pc L (.long y :: .long x :: st) sh h :=
  fun p e s m args below meth c H locs ls N M S hl => lv_lxor N.1 N.2.1 hd (kk p e s m args below meth c H locs ls N M S hl)
theorem xx_ldiv {x y : Int64} (hd : decode F.2.2.1 pc = .ok (.ldiv, 1)) (hz : ¬ y = 0) (kk : xx l E F k (pc + 1) L (.long (x / y) :: st) sh h) : xx l E F k pc L (.long y :: .long x :: st) sh h :=
  fun p e s m args below meth c H locs ls N M S hl => lv_ldiv N.1 N.2.1 hd hz (kk p e s m args below meth c H locs ls N M S hl)
theorem xx_lrem {x y : Int64} (hd : decode F.2.2.1 pc = .ok (.lrem, 1)) (hz : ¬ y = 0) (kk : xx l E F k (pc + 1) L (.long (x - x / y * y) :: st) sh h) : xx l E F k pc L (.long y :: .long x :: st) sh h :=
  fun p e s m args below meth c H locs ls N M S hl => lv_lrem N.1 N.2.1 hd hz (kk p e s m args below meth c H locs ls N M S hl)
theorem xx_ineg {x : Int32} (hd : decode F.2.2.1 pc = .ok (.ineg, 1)) (kk : xx l E F k (pc + 1) L (.int (-x) :: st) sh h) : xx l E F k pc L (.int x :: st) sh h :=
  fun p e s m args below meth c H locs ls N M S hl => lv_ineg N.1 N.2.1 hd (kk p e s m args below meth c H locs ls N M S hl)
theorem xx_i2l {x : Int32} (hd : decode F.2.2.1 pc = .ok (.i2l, 1)) (kk : xx l E F k (pc + 1) L (.long x.toInt64 :: st) sh h) : xx l E F k pc L (.int x :: st) sh h :=
  fun p e s m args below meth c H locs ls N M S hl => lv_i2l N.1 N.2.1 hd rfl (kk p e s m args below meth c H locs ls N M S hl)
theorem xx_l2i {x : Int64} (hd : decode F.2.2.1 pc = .ok (.l2i, 1)) (kk : xx l E F k (pc + 1) L (.int x.toInt32 :: st) sh h) : xx l E F k pc L (.long x :: st) sh h :=
  fun p e s m args below meth c H locs ls N M S hl => lv_l2i N.1 N.2.1 hd rfl (kk p e s m args below meth c H locs ls N M S hl)
theorem xx_i2b {x : Int32} (hd : decode F.2.2.1 pc = .ok (.i2b, 1)) (kk : xx l E F k (pc + 1) L (.int x.toInt8.toInt32 :: st) sh h) : xx l E F k pc L (.int x :: st) sh h :=
  fun p e s m args below meth c H locs ls N M S hl => lv_i2b N.1 N.2.1 hd rfl (kk p e s m args below meth c H locs ls N M S hl)
theorem xx_i2s {x : Int32} (hd : decode F.2.2.1 pc = .ok (.i2s, 1)) (kk : xx l E F k (pc + 1) L (.int x.toInt16.toInt32 :: st) sh h) : xx l E F k pc L (.int x :: st) sh h :=
  fun p e s m args below meth c H locs ls N M S hl => lv_i2s N.1 N.2.1 hd rfl (kk p e s m args below meth c H locs ls N M S hl)
theorem xx_i2c {x : Int32} (hd : decode F.2.2.1 pc = .ok (.i2c, 1)) (kk : xx l E F k (pc + 1) L (.int (x.toUInt32 % 65536).toInt32 :: st) sh h) : xx l E F k pc L (.int x :: st) sh h :=
  fun p e s m args below meth c H locs ls N M S hl => lv_i2c N.1 N.2.1 hd rfl (kk p e s m args below meth c H locs ls N M S hl)
theorem xx_pop {va : Value} (hd : decode F.2.2.1 pc = .ok (.pop, 1)) (hc : va.category = 1) (kk : xx l E F k (pc + 1) L (st) sh h) : xx l E F k pc L (va :: st) sh h :=
  fun p e s m args below meth c H locs ls N M S hl => lv_pop N.1 N.2.1 hd hc (kk p e s m args below meth c H locs ls N M S hl)
theorem xx_dup {va : Value} (hd : decode F.2.2.1 pc = .ok (.dup, 1)) (hc : va.category = 1) (kk : xx l E F k (pc + 1) L (va :: va :: st) sh h) : xx l E F k pc L (va :: st) sh h :=
  fun p e s m args below meth c H locs ls N M S hl => lv_dup N.1 N.2.1 hd hc (kk p e s m args below meth c H locs ls N M S hl)
theorem xx_dup_x1 {va vb : Value} (hd : decode F.2.2.1 pc = .ok (.dup_x1, 1)) (hc : va.category = 1) (hc2 : vb.category = 1) (kk : xx l E F k (pc + 1) L (va :: vb :: va :: st) sh h) : xx l E F k pc L (va :: vb :: st) sh h :=
  fun p e s m args below meth c H locs ls N M S hl => lv_dup_x1 N.1 N.2.1 hd hc hc2 (kk p e s m args below meth c H locs ls N M S hl)
theorem xx_dup_x2 {va vb vd : Value} (hd : decode F.2.2.1 pc = .ok (.dup_x2, 1)) (hc : va.category = 1) (hc2 : vb.category = 1) (hc3 : vd.category = 1) (kk : xx l E F k (pc + 1) L (va :: vb :: vd :: va :: st) sh h) : xx l E F k pc L (va :: vb :: vd :: st) sh h :=
  fun p e s m args below meth c H locs ls N M S hl => lv_dup_x2 N.1 N.2.1 hd hc hc2 hc3 (kk p e s m args below meth c H locs ls N M S hl)
theorem xx_dup2 {va vb : Value} (hd : decode F.2.2.1 pc = .ok (.dup2, 1)) (hc : va.category = 1) (hc2 : vb.category = 1) (kk : xx l E F k (pc + 1) L (va :: vb :: va :: vb :: st) sh h) : xx l E F k pc L (va :: vb :: st) sh h :=
  fun p e s m args below meth c H locs ls N M S hl => lv_dup2_11 N.1 N.2.1 hd hc hc2 (kk p e s m args below meth c H locs ls N M S hl)
theorem xx_lshl {x : Int64} {y : Int32} (hd : decode F.2.2.1 pc = .ok (.lshl, 1)) (kk : xx l E F k (pc + 1) L (.long (x <<< (y.toInt64 &&& 63)) :: st) sh h) : xx l E F k pc L (.int y :: .long x :: st) sh h :=
  fun p e s m args below meth c H locs ls N M S hl => lv_lshl N.1 N.2.1 hd rfl (kk p e s m args below meth c H locs ls N M S hl)
theorem xx_lshr {x : Int64} {y : Int32} (hd : decode F.2.2.1 pc = .ok (.lshr, 1)) (kk : xx l E F k (pc + 1) L (.long (x >>> (y.toInt64 &&& 63)) :: st) sh h) : xx l E F k pc L (.int y :: .long x :: st) sh h :=
  fun p e s m args below meth c H locs ls N M S hl => lv_lshr N.1 N.2.1 hd rfl (kk p e s m args below meth c H locs ls N M S hl)
theorem xx_lushr {x : Int64} {y : Int32} (hd : decode F.2.2.1 pc = .ok (.lushr, 1)) (kk : xx l E F k (pc + 1) L (.long ((x.toUInt64 >>> (y.toInt64.toUInt64 &&& Int64.toUInt64 63)).toInt64) :: st) sh h) : xx l E F k pc L (.int y :: .long x :: st) sh h :=
  fun p e s m args below meth c H locs ls N M S hl => lv_lushr N.1 N.2.1 hd rfl (kk p e s m args below meth c H locs ls N M S hl)
theorem xx_iload_n {q : Fin 4} {i : Nat} {x : Int32} (hd : decode F.2.2.1 pc = .ok (.iload_n q, 1)) (j : Nat) (hi : (q : Nat) = i) (hj : L[j]? = some (i, .int x)) (kk : xx l E F k (pc + 1) L (.int x :: st) sh h) : xx l E F k pc L st sh h :=
  fun p e s m args below meth c H locs ls N M S hl => lv_iload_n N.1 N.2.1 hd hi (lv_at hl j hj) (kk p e s m args below meth c H locs ls N M S hl)
theorem xx_iload {i : Nat} {x : Int32} (hd : decode F.2.2.1 pc = .ok (.iload i, 2)) (j : Nat) (hj : L[j]? = some (i, .int x)) (kk : xx l E F k (pc + 2) L (.int x :: st) sh h) : xx l E F k pc L st sh h :=
  fun p e s m args below meth c H locs ls N M S hl => lv_iload N.1 N.2.1 hd (lv_at hl j hj) (kk p e s m args below meth c H locs ls N M S hl)
theorem xx_istore_n {q : Fin 4} {i : Nat} {x : Int32} {L' : List (Nat × Value)} (hd : decode F.2.2.1 pc = .ok (.istore_n q, 1)) (hi : (q : Nat) = i) (hn : i < F.2.2.2.1) (hL : (i, Value.int x) :: L.filter (fun q => !(q.1 == i) && !(q.1 + 1 == i && q.2.category == 2)) = L') (kk : xx l E F k (pc + 1) L' st sh h) : xx l E F k pc L (.int x :: st) sh h :=
  fun p e s m args below meth c H locs ls N M S hl => lv_istore_n N.1 N.2.1 hd hi hl hn hL (fun ls' hl' => kk p e s m args below meth c H locs ls' N M S hl')
theorem xx_istore {i : Nat} {x : Int32} {L' : List (Nat × Value)} (hd : decode F.2.2.1 pc = .ok (.istore i, 2)) (hn : i < F.2.2.2.1) (hL : (i, Value.int x) :: L.filter (fun q => !(q.1 == i) && !(q.1 + 1 == i && q.2.category == 2)) = L') (kk : xx l E F k (pc + 2) L' st sh h) : xx l E F k pc L (.int x :: st) sh h :=
  fun p e s m args below meth c H locs ls N M S hl => lv_istore N.1 N.2.1 hd hl hn hL (fun ls' hl' => kk p e s m args below meth c H locs ls' N M S hl')
theorem xx_lload_n {q : Fin 4} {i : Nat} {x : Int64} (hd : decode F.2.2.1 pc = .ok (.lload_n q, 1)) (j : Nat) (hi : (q : Nat) = i) (hj : L[j]? = some (i, .long x)) (kk : xx l E F k (pc + 1) L (.long x :: st) sh h) : xx l E F k pc L st sh h :=
  fun p e s m args below meth c H locs ls N M S hl => lv_lload_n N.1 N.2.1 hd hi (lv_at hl j hj) (kk p e s m args below meth c H locs ls N M S hl)
theorem xx_lload {i : Nat} {x : Int64} (hd : decode F.2.2.1 pc = .ok (.lload i, 2)) (j : Nat) (hj : L[j]? = some (i, .long x)) (kk : xx l E F k (pc + 2) L (.long x :: st) sh h) : xx l E F k pc L st sh h :=
  fun p e s m args below meth c H locs ls N M S hl => lv_lload N.1 N.2.1 hd (lv_at hl j hj) (kk p e s m args below meth c H locs ls N M S hl)
theorem xx_lstore_n {q : Fin 4} {i : Nat} {x : Int64} {L' : List (Nat × Value)} (hd : decode F.2.2.1 pc = .ok (.lstore_n q, 1)) (hi : (q : Nat) = i) (hn : i + 1 < F.2.2.2.1) (hL : (i, Value.long x) :: L.filter (fun q => !(q.1 == i) && (!(q.1 == i + 1) && !(q.1 + 1 == i && q.2.category == 2))) = L') (kk : xx l E F k (pc + 1) L' st sh h) : xx l E F k pc L (.long x :: st) sh h :=
  fun p e s m args below meth c H locs ls N M S hl => lv_lstore_n N.1 N.2.1 hd hi hl hn hL (fun ls' hl' => kk p e s m args below meth c H locs ls' N M S hl')
theorem xx_lstore {i : Nat} {x : Int64} {L' : List (Nat × Value)} (hd : decode F.2.2.1 pc = .ok (.lstore i, 2)) (hn : i + 1 < F.2.2.2.1) (hL : (i, Value.long x) :: L.filter (fun q => !(q.1 == i) && (!(q.1 == i + 1) && !(q.1 + 1 == i && q.2.category == 2))) = L') (kk : xx l E F k (pc + 2) L' st sh h) : xx l E F k pc L (.long x :: st) sh h :=
  fun p e s m args below meth c H locs ls N M S hl => lv_lstore N.1 N.2.1 hd hl hn hL (fun ls' hl' => kk p e s m args below meth c H locs ls' N M S hl')
theorem xx_aload_n {q : Fin 4} {i : Nat} {x : Nat} (hd : decode F.2.2.1 pc = .ok (.aload_n q, 1)) (j : Nat) (hi : (q : Nat) = i) (hj : L[j]? = some (i, .ref x)) (kk : xx l E F k (pc + 1) L (.ref x :: st) sh h) : xx l E F k pc L st sh h :=
  fun p e s m args below meth c H locs ls N M S hl => lv_aload_n N.1 N.2.1 hd hi (lv_at hl j hj) (kk p e s m args below meth c H locs ls N M S hl)
theorem xx_aload {i : Nat} {x : Nat} (hd : decode F.2.2.1 pc = .ok (.aload i, 2)) (j : Nat) (hj : L[j]? = some (i, .ref x)) (kk : xx l E F k (pc + 2) L (.ref x :: st) sh h) : xx l E F k pc L st sh h :=
  fun p e s m args below meth c H locs ls N M S hl => lv_aload N.1 N.2.1 hd (lv_at hl j hj) (kk p e s m args below meth c H locs ls N M S hl)
theorem xx_astore_n {q : Fin 4} {i : Nat} {x : Nat} {L' : List (Nat × Value)} (hd : decode F.2.2.1 pc = .ok (.astore_n q, 1)) (hi : (q : Nat) = i) (hn : i < F.2.2.2.1) (hL : (i, Value.ref x) :: L.filter (fun q => !(q.1 == i) && !(q.1 + 1 == i && q.2.category == 2)) = L') (kk : xx l E F k (pc + 1) L' st sh h) : xx l E F k pc L (.ref x :: st) sh h :=
  fun p e s m args below meth c H locs ls N M S hl => lv_astore_n N.1 N.2.1 hd hi hl hn hL (fun ls' hl' => kk p e s m args below meth c H locs ls' N M S hl')
theorem xx_astore {i : Nat} {x : Nat} {L' : List (Nat × Value)} (hd : decode F.2.2.1 pc = .ok (.astore i, 2)) (hn : i < F.2.2.2.1) (hL : (i, Value.ref x) :: L.filter (fun q => !(q.1 == i) && !(q.1 + 1 == i && q.2.category == 2)) = L') (kk : xx l E F k (pc + 2) L' st sh h) : xx l E F k pc L (.ref x :: st) sh h :=
  fun p e s m args below meth c H locs ls N M S hl => lv_astore N.1 N.2.1 hd hl hn hL (fun ls' hl' => kk p e s m args below meth c H locs ls' N M S hl')
theorem xx_iinc {i : Nat} {n : Int} {x v : Int32} {L' : List (Nat × Value)} (hd : decode F.2.2.1 pc = .ok (.iinc i n, 3)) (j : Nat) (hj : L[j]? = some (i, .int x)) (hv : x + Int32.ofInt n = v) (hn : i < F.2.2.2.1) (hL : (i, Value.int v) :: L.filter (fun q => !(q.1 == i) && !(q.1 + 1 == i && q.2.category == 2)) = L') (kk : xx l E F k (pc + 3) L' st sh h) : xx l E F k pc L st sh h :=
  fun p e s m args below meth c H locs ls N M S hl => lv_iinc N.1 N.2.1 hd hl hj hv hn hL (fun ls' hl' => kk p e s m args below meth c H locs ls' N M S hl')
theorem xx_if_eq {x : Int32} {off : Int} (tgt : Nat) (hd : decode F.2.2.1 pc = .ok (.ifCond .eq off, 3)) (ht : (pc : Int) + off = (tgt : Int)) (kt : x = 0 → xx l E F k tgt L st sh h) (kf : ¬ x = 0 → xx l E F k (pc + 3) L st sh h) : xx l E F k pc L (.int x :: st) sh h :=
  fun p e s m args below meth c H locs ls N M S hl => lv_if_eq N.1 N.2.1 hd ht (fun q => kt q p e s m args below meth c H locs ls N M S hl) (fun q => kf q p e s m args below meth c H locs ls N M S hl)
theorem xx_icmp_eq {x y : Int32} {off : Int} (tgt : Nat) (hd : decode F.2.2.1 pc = .ok (.if_icmp .eq off, 3)) (ht : (pc : Int) + off = (tgt : Int)) (kt : x = y → xx l E F k tgt L st sh h) (kf : ¬ x = y → xx l E F k (pc + 3) L st sh h) : xx l E F k pc L (.int y :: .int x :: st) sh h :=
  fun p e s m args below meth c H locs ls N M S hl => lv_icmp_eq N.1 N.2.1 hd ht (fun q => kt q p e s m args below meth c H locs ls N M S hl) (fun q => kf q p e s m args below meth c H locs ls N M S hl)
theorem xx_if_ne {x : Int32} {off : Int} (tgt : Nat) (hd : decode F.2.2.1 pc = .ok (.ifCond .ne off, 3)) (ht : (pc : Int) + off = (tgt : Int)) (kt : ¬ x = 0 → xx l E F k tgt L st sh h) (kf : x = 0 → xx l E F k (pc + 3) L st sh h) : xx l E F k pc L (.int x :: st) sh h :=
  fun p e s m args below meth c H locs ls N M S hl => lv_if_ne N.1 N.2.1 hd ht (fun q => kt q p e s m args below meth c H locs ls N M S hl) (fun q => kf q p e s m args below meth c H locs ls N M S hl)
theorem xx_icmp_ne {x y : Int32} {off : Int} (tgt : Nat) (hd : decode F.2.2.1 pc = .ok (.if_icmp .ne off, 3)) (ht : (pc : Int) + off = (tgt : Int)) (kt : ¬ x = y → xx l E F k tgt L st sh h) (kf : x = y → xx l E F k (pc + 3) L st sh h) : xx l E F k pc L (.int y :: .int x :: st) sh h :=
  fun p e s m args below meth c H locs ls N M S hl => lv_icmp_ne N.1 N.2.1 hd ht (fun q => kt q p e s m args below meth c H locs ls N M S hl) (fun q => kf q p e s m args below meth c H locs ls N M S hl)
theorem xx_if_lt {x : Int32} {off : Int} (tgt : Nat) (hd : decode F.2.2.1 pc = .ok (.ifCond .lt off, 3)) (ht : (pc : Int) + off = (tgt : Int)) (kt : x < 0 → xx l E F k tgt L st sh h) (kf : ¬ x < 0 → xx l E F k (pc + 3) L st sh h) : xx l E F k pc L (.int x :: st) sh h :=
  fun p e s m args below meth c H locs ls N M S hl => lv_if_lt N.1 N.2.1 hd ht (fun q => kt q p e s m args below meth c H locs ls N M S hl) (fun q => kf q p e s m args below meth c H locs ls N M S hl)
theorem xx_icmp_lt {x y : Int32} {off : Int} (tgt : Nat) (hd : decode F.2.2.1 pc = .ok (.if_icmp .lt off, 3)) (ht : (pc : Int) + off = (tgt : Int)) (kt : x < y → xx l E F k tgt L st sh h) (kf : ¬ x < y → xx l E F k (pc + 3) L st sh h) : xx l E F k pc L (.int y :: .int x :: st) sh h :=
  fun p e s m args below meth c H locs ls N M S hl => lv_icmp_lt N.1 N.2.1 hd ht (fun q => kt q p e s m args below meth c H locs ls N M S hl) (fun q => kf q p e s m args below meth c H locs ls N M S hl)
theorem xx_if_ge {x : Int32} {off : Int} (tgt : Nat) (hd : decode F.2.2.1 pc = .ok (.ifCond .ge off, 3)) (ht : (pc : Int) + off = (tgt : Int)) (kt : 0 ≤ x → xx l E F k tgt L st sh h) (kf : ¬ 0 ≤ x → xx l E F k (pc + 3) L st sh h) : xx l E F k pc L (.int x :: st) sh h :=
  fun p e s m args below meth c H locs ls N M S hl => lv_if_ge N.1 N.2.1 hd ht (fun q => kt q p e s m args below meth c H locs ls N M S hl) (fun q => kf q p e s m args below meth c H locs ls N M S hl)
theorem xx_icmp_ge {x y : Int32} {off : Int} (tgt : Nat) (hd : decode F.2.2.1 pc = .ok (.if_icmp .ge off, 3)) (ht : (pc : Int) + off = (tgt : Int)) (kt : y ≤ x → xx l E F k tgt L st sh h) (kf : ¬ y ≤ x → xx l E F k (pc + 3) L st sh h) : xx l E F k pc L (.int y :: .int x :: st) sh h :=
  fun p e s m args below meth c H locs ls N M S hl => lv_icmp_ge N.1 N.2.1 hd ht (fun q => kt q p e s m args below meth c H locs ls N M S hl) (fun q => kf q p e s m args below meth c H locs ls N M S hl)
theorem xx_if_gt {x : Int32} {off : Int} (tgt : Nat) (hd : decode F.2.2.1 pc = .ok (.ifCond .gt off, 3)) (ht : (pc : Int) + off = (tgt : Int)) (kt : 0 < x → xx l E F k tgt L st sh h) (kf : ¬ 0 < x → xx l E F k (pc + 3) L st sh h) : xx l E F k pc L (.int x :: st) sh h :=
  fun p e s m args below meth c H locs ls N M S hl => lv_if_gt N.1 N.2.1 hd ht (fun q => kt q p e s m args below meth c H locs ls N M S hl) (fun q => kf q p e s m args below meth c H locs ls N M S hl)
theorem xx_icmp_gt {x y : Int32} {off : Int} (tgt : Nat) (hd : decode F.2.2.1 pc = .ok (.if_icmp .gt off, 3)) (ht : (pc : Int) + off = (tgt : Int)) (kt : y < x → xx l E F k tgt L st sh h) (kf : ¬ y < x → xx l E F k (pc + 3) L st sh h) : xx l E F k pc L (.int y :: .int x :: st) sh h :=
  fun p e s m args below meth c H locs ls N M S hl => lv_icmp_gt N.1 N.2.1 hd ht (fun q => kt q p e s m args below meth c H locs ls N M S hl) (fun q => kf q p e s m args below meth c H locs ls N M S hl)
theorem xx_if_le {x : Int32} {off : Int} (tgt : Nat) (hd : decode F.2.2.1 pc = .ok (.ifCond .le off, 3)) (ht : (pc : Int) + off = (tgt : Int)) (kt : x ≤ 0 → xx l E F k tgt L st sh h) (kf : ¬ x ≤ 0 → xx l E F k (pc + 3) L st sh h) : xx l E F k pc L (.int x :: st) sh h :=
  fun p e s m args below meth c H locs ls N M S hl => lv_if_le N.1 N.2.1 hd ht (fun q => kt q p e s m args below meth c H locs ls N M S hl) (fun q => kf q p e s m args below meth c H locs ls N M S hl)
theorem xx_icmp_le {x y : Int32} {off : Int} (tgt : Nat) (hd : decode F.2.2.1 pc = .ok (.if_icmp .le off, 3)) (ht : (pc : Int) + off = (tgt : Int)) (kt : x ≤ y → xx l E F k tgt L st sh h) (kf : ¬ x ≤ y → xx l E F k (pc + 3) L st sh h) : xx l E F k pc L (.int y :: .int x :: st) sh h :=
  fun p e s m args below meth c H locs ls N M S hl => lv_icmp_le N.1 N.2.1 hd ht (fun q => kt q p e s m args below meth c H locs ls N M S hl) (fun q => kf q p e s m args below meth c H locs ls N M S hl)
theorem xx_goto {off : Int} (tgt : Nat) (hd : decode F.2.2.1 pc = .ok (.goto off, 3)) (ht : (pc : Int) + off = (tgt : Int)) (kk : xx l E F k tgt L st sh h) : xx l E F k pc L st sh h :=
  fun p e s m args below meth c H locs ls N M S hl => lv_goto N.1 N.2.1 hd ht (kk p e s m args below meth c H locs ls N M S hl)
theorem xx_sub {L2 : List (Nat × Value)} (ks : List Nat) (hL : lv_pick L ks = L2) (kk : xx l E F k pc L2 st sh h) : xx l E F k pc L st sh h :=
  fun p e s m args below meth c H locs ls N M S hl => kk p e s m args below meth c H locs ls N M S (lv_sub hl ks hL)
theorem xx_tin {dflt lo hi : Int} {offs : Array Int} {len : Nat} {x : Int32} {off : Int} (tgt : Nat) (hd : decode F.2.2.1 pc = .ok (.tableswitch dflt lo hi offs, len)) (h1 : ¬ x.toInt < lo) (h2 : ¬ hi < x.toInt) (ho : offs[(x.toInt - lo).toNat]? = some off) (ht : (pc : Int) + off = (tgt : Int)) (kk : xx l E F k tgt L st sh h) : xx l E F k pc L (.int x :: st) sh h :=
  fun p e s m args below meth c H locs ls N M S hl => lv_tableIn N.1 N.2.1 hd h1 h2 ho ht (kk p e s m args below meth c H locs ls N M S hl)
theorem xx_tout {dflt lo hi : Int} {offs : Array Int} {len : Nat} {x : Int32} (tgt : Nat) (hd : decode F.2.2.1 pc = .ok (.tableswitch dflt lo hi offs, len)) (h1 : x.toInt < lo ∨ hi < x.toInt) (ht : (pc : Int) + dflt = (tgt : Int)) (kk : xx l E F k tgt L st sh h) : xx l E F k pc L (.int x :: st) sh h :=
  fun p e s m args below meth c H locs ls N M S hl => lv_tableOut N.1 N.2.1 hd h1 ht (kk p e s m args below meth c H locs ls N M S hl)
end XX
