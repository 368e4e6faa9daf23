section
set_option maxRecDepth 16384
theorem su_code_word {a : Array Value} {s : State} {x : MethodName} {bytes : ByteArray} {maxL : Nat} {ret : Option FieldType} {m : MethodId} {meth : Method} {c : Code}
    (hn : s.methodNamed? x = some m) (hm : s.vm.method? m = some meth) (hc : meth.code = some c) (h1 : c.code = bytes) (h2 : c.maxLocals = maxL) (h3 : c.exceptionTable.isEmpty = true)
    (h4 : meth.sig.returnType = ret) (h5 : meth.locks = false) (h6 : parseMethodDescriptor x.desc = some meth.sig) (h7 : c.maxStack ≤ mostOperands) : (Cond.code x bytes maxL ret).before a s = true := by
  subst h1 h2 h4
  simp [Cond.before, Cond.holds, Cond.value, hn, hm, hc, h3, h5, h6, h7]
theorem su_hand_word {a : Array Value} {s : State} {x : MethodName} {m : MethodId} {nm ds : String} {ps : List FieldType} {ret : Option FieldType} {fl maxL : Nat} {bytes : ByteArray}
    (hn : s.methodNamed? x = some m) (hm : s.vm.method? m = some (Lib.HandJ.method nm ds ps ret fl maxL bytes)) (h5 : (Lib.HandJ.method nm ds ps ret fl maxL bytes).locks = false)
    (h6 : parseMethodDescriptor x.desc = some (Lib.HandJ.method nm ds ps ret fl maxL bytes).sig) : (Cond.code x bytes maxL ret).before a s = true :=
  su_code_word hn hm rfl rfl rfl rfl rfl h5 h6 (by first | decide | exact Nat.le_of_ble_eq_true rfl)
def su_isCode : Jvm.Cond → Bool
  | .code .. => true
  | _ => false
theorem su_words {l : List Jvm.Cond} {f : Jvm.Cond → Bool} (h1 : l.all (fun c => su_isCode c || f c) = true) (h2 : ∀ c ∈ l.filter su_isCode, f c = true) : ∀ c ∈ l, f c = true := by
  intro c hc
  have h := List.all_eq_true.mp h1 c hc
  cases hq : su_isCode c with
  | false => simpa [hq] using h
  | true => exact h2 c (List.mem_filter.mpr ⟨hc, hq⟩)
def su_look {α : Type} (d : α) : List (Nat × α) → Nat → α
  | [], _ => d
  | (k, v) :: r, i => match Nat.beq k i with
    | true => v
    | false => su_look d r i
def su_down {α : Type} (f : Nat → α) (n : Nat) : Nat → List α
  | 0 => []
  | k + 1 => f (n - (k + 1)) :: su_down f n k
def su_arr {α : Type} (d : α) (ps : List (Nat × α)) (n : Nat) : Array α := ⟨su_down (su_look d ps) n n⟩
def su_poolPairs : List Lib.HandW.Entry → Nat → List (Nat × CpInfo)
  | [], _ => []
  | (kind, k, cls, name, desc, c, _) :: r, b =>
    ((if kind ≤ 1 then [(k, if kind = 0 then CpInfo.fieldref b (b + 2) else CpInfo.methodref b (b + 2)), (b, CpInfo.class_ (b + 1)), (b + 1, CpInfo.utf8 (stringToUtf16 cls)), (b + 2, CpInfo.nameAndType (b + 3) (b + 4)), (b + 3, CpInfo.utf8 (stringToUtf16 name)), (b + 4, CpInfo.utf8 (stringToUtf16 desc))]
     else if kind = 2 then [(k, CpInfo.class_ b), (b, CpInfo.utf8 (stringToUtf16 cls))]
     else if kind = 3 then [(k, CpInfo.string b), (b, CpInfo.utf8 (stringToUtf16 name))]
     else if kind = 4 then [(k, CpInfo.long (UInt64.ofNat c))]
     else if kind = 5 then [(k, CpInfo.integer (UInt32.ofNat c))]
     else if kind = 6 then [(k, CpInfo.float (UInt32.ofNat c))]
     else if kind = 8 then [(k, CpInfo.interfaceMethodref b (b + 2)), (b, CpInfo.class_ (b + 1)), (b + 1, CpInfo.utf8 (stringToUtf16 cls)), (b + 2, CpInfo.nameAndType (b + 3) (b + 4)), (b + 3, CpInfo.utf8 (stringToUtf16 name)), (b + 4, CpInfo.utf8 (stringToUtf16 desc))]
     else [(k, CpInfo.double (UInt64.ofNat c))]) : List (Nat × CpInfo)) ++ su_poolPairs r (b + 7)
def su_resPairs : List Lib.HandW.Entry → Nat → List (Nat × Option Resolved)
  | [], _ => []
  | (kind, k, _, _, _, c, i) :: t, b =>
    ((if kind = 0 then [(k, some (Resolved.field c i)), (b, some (Resolved.cls c))]
     else if kind = 1 then [(k, some (Resolved.method ⟨c, i⟩)), (b, some (Resolved.cls c))]
     else if kind = 2 then [(k, some (Resolved.cls c))]
     else if kind = 3 then [(k, some (Resolved.string c))]
     else if kind = 8 then [(k, some (Resolved.method ⟨c, i⟩)), (b, some (Resolved.cls c))]
     else []) : List (Nat × Option Resolved)) ++ su_resPairs t (b + 7)
def su_own (name : String) (flags : Nat) (es : List Lib.HandW.Entry) (fs : List (String × FieldType × Nat)) (m : Method) : Class :=
  { Lib.HandJ.cls name (su_arr CpInfo.unusable (su_poolPairs es (Lib.HandW.top es)) (Lib.HandW.top es + 7 * es.length)) (su_arr (none : Option Resolved) (su_resPairs es (Lib.HandW.top es)) (Lib.HandW.top es + 7 * es.length)) flags (Lib.HandW.fieldsFrom fs 0).toArray #[m] (fs.map fun f => f.2.1).toArray with super := some 1 }
def start1.mLaw : Method := Lib.HandJ.method x.name x.desc [.array .int] ret 0x9 maxLocals code
/-- the class entry of a reference to an inherited member names the subclass: resolved to that class, not to the declarer's -/
def start1.suRes (es : List (Nat × Resolved)) (c : Class) : Class := { c with resolved := es.foldl (fun r e => r.setIfInBounds e.1 (some e.2)) c.resolved }
def start1.cObjectC : Class := { Lib.HandBits.cObject with methods := Lib.HandBits.cObject.methods ++ #[{ name := "clone", desc := "()Ljava/lang/Object;", sig := { parameters := [], returnType := some (.object "java/lang/Object") }, accessFlags := 0x104, code := none }, { name := "getClass", desc := "()Ljava/lang/Class;", sig := { parameters := [], returnType := some (.object "java/lang/Class") }, accessFlags := 0x111, code := none }] }
def start1.c0 : Class := { su_own "LeastbagLaw" 0x31
    [(1, 7, "Leastbag", "make", "(III)I", 2, 1),
     (2, 8, "Leastbag", "", "", 2, 0),
     (0, 13, "LeastbagLaw$Out", "n", "J", 7, 0),
     (2, 14, "LeastbagLaw$Out", "", "", 7, 0),
     (2, 19, "java/lang/IndexOutOfBoundsException", "", "", 38, 0),
     (2, 21, "java/lang/IllegalArgumentException", "", "", 39, 0),
     (1, 23, "Leastbag", "makeLike", "(II)I", 2, 2),
     (1, 27, "Leastbag", "makeOfList", "(I)I", 2, 3),
     (1, 31, "Leastbag", "makeOfSet", "(I)I", 2, 4),
     (1, 34, "Leastbag", "add", "(III)I", 2, 5),
     (2, 37, "java/lang/IllegalStateException", "", "", 40, 0),
     (1, 39, "Leastbag", "offer", "(III)I", 2, 6),
     (1, 42, "Leastbag", "fill", "(IIII)I", 2, 7),
     (1, 46, "Leastbag", "addNothing", "(IZ)I", 2, 8),
     (1, 50, "Leastbag", "addAll", "(II)I", 2, 9),
     (1, 53, "Leastbag", "addList", "(I)I", 2, 10),
     (1, 56, "Leastbag", "poll", "(I)Ljava/lang/String;", 2, 11),
     (0, 60, "LeastbagLaw$Out", "s", "Ljava/lang/String;", 7, 1),
     (1, 64, "Leastbag", "take", "(I)Ljava/lang/String;", 2, 12),
     (1, 67, "Leastbag", "remove", "(III)Z", 2, 13),
     (1, 71, "Leastbag", "sweep", "(II)I", 2, 14),
     (1, 74, "Leastbag", "clear", "(I)I", 2, 15),
     (1, 77, "Leastbag", "pollAll", "(I)Ljava/lang/String;", 2, 16),
     (1, 80, "Leastbag", "pour", "(II)I", 2, 17),
     (1, 83, "Leastbag", "untimely", "(I)I", 2, 18),
     (1, 86, "Leastbag", "lay", "(II)I", 2, 19),
     (1, 89, "Leastbag", "unlay", "()I", 2, 20),
     (1, 93, "Leastbag", "join", "(II)Z", 2, 21),
     (1, 97, "Leastbag", "leave", "(II)Z", 2, 22),
     (1, 100, "Leastbag", "setOrder", "(I)I", 2, 23),
     (1, 103, "Leastbag", "walk", "(I)I", 2, 24),
     (1, 106, "Leastbag", "step", "()I", 2, 25),
     (1, 109, "Leastbag", "walked", "(I)I", 2, 27),
     (1, 112, "Leastbag", "peek", "(I)Ljava/lang/String;", 2, 28),
     (1, 115, "Leastbag", "element", "(I)Ljava/lang/String;", 2, 29),
     (1, 118, "Leastbag", "contains", "(III)Z", 2, 30),
     (1, 121, "Leastbag", "count", "(III)I", 2, 31),
     (1, 124, "Leastbag", "total", "(IIZ)I", 2, 32),
     (1, 128, "Leastbag", "size", "(I)I", 2, 33),
     (1, 131, "Leastbag", "isEmpty", "(I)Z", 2, 34),
     (1, 135, "Leastbag", "orderOf", "(I)I", 2, 35),
     (1, 138, "Leastbag", "ahead", "(IIIII)I", 2, 36),
     (1, 142, "Leastbag", "sorted", "(I)Ljava/lang/String;", 2, 37),
     (1, 145, "Leastbag", "nth", "(II)Ljava/lang/String;", 2, 38),
     (1, 149, "Leastbag", "areAlike", "(II)Z", 2, 39),
     (1, 152, "Leastbag", "beyond", "(I)I", 2, 40),
     (1, 155, "Leastbag", "list", "(I)Ljava/lang/String;", 2, 41),
     (1, 158, "Leastbag", "house", "(I)I", 2, 43),
     (1, 161, "Leastbag", "<init>", "()V", 2, 0),
     (2, 162, "LeastbagModel", "", "", 6, 0),
     (1, 164, "LeastbagModel", "<init>", "()V", 6, 0),
     (1, 165, "LeastbagLaw$Out", "<init>", "()V", 7, 0),
     (1, 166, "LeastbagLaw", "make", "(LLeastbag;IIILLeastbagLaw$Out;)I", 0, 1),
     (1, 171, "LeastbagModel", "make", "(III)I", 6, 17),
     (1, 172, "LeastbagModel", "thrown", "()I", 6, 3),
     (1, 175, "LeastbagLaw", "makeLike", "(LLeastbag;IILLeastbagLaw$Out;)I", 0, 2),
     (1, 178, "LeastbagModel", "makeLike", "(II)I", 6, 18),
     (1, 179, "LeastbagLaw", "makeOfList", "(LLeastbag;ILLeastbagLaw$Out;)I", 0, 3),
     (1, 182, "LeastbagModel", "makeOfList", "(I)I", 6, 19),
     (1, 183, "LeastbagLaw", "makeOfSet", "(LLeastbag;ILLeastbagLaw$Out;)I", 0, 4),
     (1, 185, "LeastbagModel", "makeOfSet", "(I)I", 6, 20),
     (1, 186, "LeastbagLaw", "add", "(LLeastbag;IIILLeastbagLaw$Out;)I", 0, 5),
     (1, 188, "LeastbagModel", "add", "(III)I", 6, 22),
     (1, 189, "LeastbagLaw", "offer", "(LLeastbag;IIILLeastbagLaw$Out;)I", 0, 6),
     (1, 191, "LeastbagModel", "offer", "(III)I", 6, 23),
     (1, 192, "LeastbagLaw", "fill", "(LLeastbag;IIIILLeastbagLaw$Out;)I", 0, 7),
     (1, 195, "LeastbagModel", "fill", "(IIII)I", 6, 24),
     (1, 196, "LeastbagLaw", "addNothing", "(LLeastbag;IZLLeastbagLaw$Out;)I", 0, 8),
     (1, 199, "LeastbagModel", "addNothing", "(IZ)I", 6, 25),
     (1, 200, "LeastbagLaw", "addAll", "(LLeastbag;IILLeastbagLaw$Out;)I", 0, 9),
     (1, 202, "LeastbagModel", "addAll", "(II)I", 6, 26),
     (1, 203, "LeastbagLaw", "addList", "(LLeastbag;ILLeastbagLaw$Out;)I", 0, 10),
     (1, 205, "LeastbagModel", "addList", "(I)I", 6, 27),
     (1, 206, "LeastbagLaw", "poll", "(LLeastbag;ILLeastbagLaw$Out;)I", 0, 11),
     (1, 208, "LeastbagModel", "poll", "(I)Ljava/lang/String;", 6, 29),
     (1, 209, "java/lang/String", "equals", "(Ljava/lang/Object;)Z", 26, 4),
     (1, 215, "LeastbagLaw", "take", "(LLeastbag;ILLeastbagLaw$Out;)I", 0, 12),
     (1, 217, "LeastbagModel", "take", "(I)Ljava/lang/String;", 6, 30),
     (1, 218, "LeastbagLaw", "remove", "(LLeastbag;IIILLeastbagLaw$Out;)I", 0, 13),
     (1, 220, "LeastbagModel", "remove", "(III)Z", 6, 31),
     (1, 221, "LeastbagLaw", "sweep", "(LLeastbag;IILLeastbagLaw$Out;)I", 0, 14),
     (1, 223, "LeastbagModel", "sweep", "(II)I", 6, 33),
     (1, 224, "LeastbagLaw", "clear", "(LLeastbag;ILLeastbagLaw$Out;)I", 0, 15),
     (1, 226, "LeastbagModel", "clear", "(I)I", 6, 34),
     (1, 227, "LeastbagLaw", "pollAll", "(LLeastbag;ILLeastbagLaw$Out;)I", 0, 16),
     (1, 229, "LeastbagModel", "pollAll", "(I)Ljava/lang/String;", 6, 35),
     (1, 230, "LeastbagLaw", "pour", "(LLeastbag;IILLeastbagLaw$Out;)I", 0, 17),
     (1, 232, "LeastbagModel", "pour", "(II)I", 6, 36),
     (1, 233, "LeastbagLaw", "untimely", "(LLeastbag;ILLeastbagLaw$Out;)I", 0, 18),
     (1, 235, "LeastbagModel", "untimely", "(I)I", 6, 37),
     (1, 236, "LeastbagLaw", "lay", "(LLeastbag;IILLeastbagLaw$Out;)I", 0, 19),
     (1, 238, "LeastbagModel", "lay", "(II)I", 6, 38),
     (1, 239, "LeastbagLaw", "unlay", "(LLeastbag;LLeastbagLaw$Out;)I", 0, 20),
     (1, 242, "LeastbagModel", "unlay", "()I", 6, 39),
     (1, 243, "LeastbagLaw", "join", "(LLeastbag;IILLeastbagLaw$Out;)I", 0, 21),
     (1, 245, "LeastbagModel", "join", "(II)Z", 6, 41),
     (1, 246, "LeastbagLaw", "leave", "(LLeastbag;IILLeastbagLaw$Out;)I", 0, 22),
     (1, 248, "LeastbagModel", "leave", "(II)Z", 6, 42),
     (1, 249, "LeastbagLaw", "setOrder", "(LLeastbag;ILLeastbagLaw$Out;)I", 0, 23),
     (1, 251, "LeastbagModel", "setOrder", "(I)I", 6, 43),
     (1, 252, "LeastbagLaw", "walk", "(LLeastbag;ILLeastbagLaw$Out;)I", 0, 24),
     (1, 254, "LeastbagModel", "walk", "(I)I", 6, 44),
     (1, 255, "LeastbagLaw", "step", "(LLeastbag;LLeastbagLaw$Out;)I", 0, 25),
     (1, 257, "LeastbagModel", "step", "()I", 6, 46),
     (1, 258, "Leastbag", "isMore", "()Z", 2, 26),
     (1, 262, "LeastbagModel", "isMore", "()Z", 6, 47),
     (1, 263, "LeastbagLaw", "walked", "(LLeastbag;ILLeastbagLaw$Out;)I", 0, 26),
     (1, 265, "LeastbagModel", "walked", "(I)I", 6, 48),
     (1, 266, "LeastbagLaw", "peek", "(LLeastbag;ILLeastbagLaw$Out;)I", 0, 27),
     (1, 268, "LeastbagModel", "peek", "(I)Ljava/lang/String;", 6, 50),
     (1, 269, "LeastbagLaw", "element", "(LLeastbag;ILLeastbagLaw$Out;)I", 0, 28),
     (1, 271, "LeastbagModel", "element", "(I)Ljava/lang/String;", 6, 51),
     (1, 272, "LeastbagLaw", "contains", "(LLeastbag;IIILLeastbagLaw$Out;)I", 0, 29),
     (1, 274, "LeastbagModel", "contains", "(III)Z", 6, 52),
     (1, 275, "LeastbagLaw", "count", "(LLeastbag;IIILLeastbagLaw$Out;)I", 0, 30),
     (1, 277, "LeastbagModel", "count", "(III)I", 6, 53),
     (1, 278, "LeastbagLaw", "total", "(LLeastbag;IIZLLeastbagLaw$Out;)I", 0, 31),
     (1, 281, "LeastbagModel", "total", "(IIZ)I", 6, 55),
     (1, 282, "LeastbagLaw", "size", "(LLeastbag;ILLeastbagLaw$Out;)I", 0, 32),
     (1, 284, "LeastbagModel", "size", "(I)I", 6, 56),
     (1, 285, "LeastbagLaw", "isEmpty", "(LLeastbag;ILLeastbagLaw$Out;)I", 0, 33),
     (1, 287, "LeastbagModel", "isEmpty", "(I)Z", 6, 57),
     (1, 288, "LeastbagLaw", "orderOf", "(LLeastbag;ILLeastbagLaw$Out;)I", 0, 34),
     (1, 290, "LeastbagModel", "orderOf", "(I)I", 6, 58),
     (1, 291, "LeastbagLaw", "ahead", "(LLeastbag;IIIIILLeastbagLaw$Out;)I", 0, 35),
     (1, 294, "LeastbagModel", "ahead", "(IIIII)I", 6, 59),
     (1, 295, "LeastbagLaw", "sorted", "(LLeastbag;ILLeastbagLaw$Out;)I", 0, 36),
     (1, 297, "LeastbagModel", "sorted", "(I)Ljava/lang/String;", 6, 60),
     (1, 298, "LeastbagLaw", "nth", "(LLeastbag;IILLeastbagLaw$Out;)I", 0, 37),
     (1, 300, "LeastbagModel", "nth", "(II)Ljava/lang/String;", 6, 61),
     (1, 301, "LeastbagLaw", "areAlike", "(LLeastbag;IILLeastbagLaw$Out;)I", 0, 38),
     (1, 303, "LeastbagModel", "areAlike", "(II)Z", 6, 62),
     (1, 304, "LeastbagLaw", "beyond", "(LLeastbag;ILLeastbagLaw$Out;)I", 0, 39),
     (1, 306, "LeastbagModel", "beyond", "(I)I", 6, 63),
     (1, 307, "LeastbagLaw", "list", "(LLeastbag;ILLeastbagLaw$Out;)I", 0, 40),
     (1, 309, "LeastbagModel", "list", "(I)Ljava/lang/String;", 6, 64),
     (1, 310, "Leastbag", "set", "()Ljava/lang/String;", 2, 42),
     (1, 314, "LeastbagModel", "set", "()Ljava/lang/String;", 6, 66),
     (1, 315, "LeastbagLaw", "house", "(LLeastbag;ILLeastbagLaw$Out;)I", 0, 41),
     (1, 317, "LeastbagModel", "house", "(I)I", 6, 68),
     (1, 318, "Leastbag", "knock", "()I", 2, 44),
     (1, 321, "LeastbagModel", "knock", "()I", 6, 69),
     (1, 322, "Leastbag", "isSound", "()Z", 2, 45),
     (1, 325, "LeastbagModel", "isSound", "()Z", 6, 70),
     (1, 326, "Leastbag", "digest", "()J", 2, 46),
     (1, 330, "LeastbagModel", "digest", "()J", 6, 73)]
    [] mLaw with
  methods := #[mLaw,
    (let q := Lib.HandJ.method "make" "(LLeastbag;IIILLeastbagLaw$Out;)I" [.object "Leastbag", .int, .int, .int, .object "LeastbagLaw$Out"] (some .int) 0xa 6 method_2_code; { q with code := q.code.map fun c => { c with exceptionTable := #[{ startPc := 0, endPc := 13, handlerPc := 16, catchType := 19 }, { startPc := 0, endPc := 13, handlerPc := 20, catchType := 21 }] } }),
    (let q := Lib.HandJ.method "makeLike" "(LLeastbag;IILLeastbagLaw$Out;)I" [.object "Leastbag", .int, .int, .object "LeastbagLaw$Out"] (some .int) 0xa 5 method_3_code; { q with code := q.code.map fun c => { c with exceptionTable := #[{ startPc := 0, endPc := 11, handlerPc := 14, catchType := 19 }] } }),
    (let q := Lib.HandJ.method "makeOfList" "(LLeastbag;ILLeastbagLaw$Out;)I" [.object "Leastbag", .int, .object "LeastbagLaw$Out"] (some .int) 0xa 4 method_4_code; { q with code := q.code.map fun c => { c with exceptionTable := #[{ startPc := 0, endPc := 10, handlerPc := 13, catchType := 19 }] } }),
    (let q := Lib.HandJ.method "makeOfSet" "(LLeastbag;ILLeastbagLaw$Out;)I" [.object "Leastbag", .int, .object "LeastbagLaw$Out"] (some .int) 0xa 4 method_5_code; { q with code := q.code.map fun c => { c with exceptionTable := #[{ startPc := 0, endPc := 10, handlerPc := 13, catchType := 19 }] } }),
    (let q := Lib.HandJ.method "add" "(LLeastbag;IIILLeastbagLaw$Out;)I" [.object "Leastbag", .int, .int, .int, .object "LeastbagLaw$Out"] (some .int) 0xa 6 method_6_code; { q with code := q.code.map fun c => { c with exceptionTable := #[{ startPc := 0, endPc := 13, handlerPc := 16, catchType := 19 }, { startPc := 0, endPc := 13, handlerPc := 20, catchType := 21 }, { startPc := 0, endPc := 13, handlerPc := 24, catchType := 37 }] } }),
    (let q := Lib.HandJ.method "offer" "(LLeastbag;IIILLeastbagLaw$Out;)I" [.object "Leastbag", .int, .int, .int, .object "LeastbagLaw$Out"] (some .int) 0xa 6 method_7_code; { q with code := q.code.map fun c => { c with exceptionTable := #[{ startPc := 0, endPc := 13, handlerPc := 16, catchType := 19 }, { startPc := 0, endPc := 13, handlerPc := 20, catchType := 21 }, { startPc := 0, endPc := 13, handlerPc := 24, catchType := 37 }] } }),
    (let q := Lib.HandJ.method "fill" "(LLeastbag;IIIILLeastbagLaw$Out;)I" [.object "Leastbag", .int, .int, .int, .int, .object "LeastbagLaw$Out"] (some .int) 0xa 7 method_8_code; { q with code := q.code.map fun c => { c with exceptionTable := #[{ startPc := 0, endPc := 15, handlerPc := 18, catchType := 19 }, { startPc := 0, endPc := 15, handlerPc := 22, catchType := 21 }, { startPc := 0, endPc := 15, handlerPc := 26, catchType := 37 }] } }),
    (let q := Lib.HandJ.method "addNothing" "(LLeastbag;IZLLeastbagLaw$Out;)I" [.object "Leastbag", .int, .boolean, .object "LeastbagLaw$Out"] (some .int) 0xa 5 method_9_code; { q with code := q.code.map fun c => { c with exceptionTable := #[{ startPc := 0, endPc := 11, handlerPc := 14, catchType := 19 }] } }),
    (let q := Lib.HandJ.method "addAll" "(LLeastbag;IILLeastbagLaw$Out;)I" [.object "Leastbag", .int, .int, .object "LeastbagLaw$Out"] (some .int) 0xa 5 method_10_code; { q with code := q.code.map fun c => { c with exceptionTable := #[{ startPc := 0, endPc := 11, handlerPc := 14, catchType := 19 }, { startPc := 0, endPc := 11, handlerPc := 18, catchType := 37 }] } }),
    (let q := Lib.HandJ.method "addList" "(LLeastbag;ILLeastbagLaw$Out;)I" [.object "Leastbag", .int, .object "LeastbagLaw$Out"] (some .int) 0xa 4 method_11_code; { q with code := q.code.map fun c => { c with exceptionTable := #[{ startPc := 0, endPc := 10, handlerPc := 13, catchType := 19 }, { startPc := 0, endPc := 10, handlerPc := 16, catchType := 37 }] } }),
    (let q := Lib.HandJ.method "poll" "(LLeastbag;ILLeastbagLaw$Out;)I" [.object "Leastbag", .int, .object "LeastbagLaw$Out"] (some .int) 0xa 4 method_12_code; { q with code := q.code.map fun c => { c with exceptionTable := #[{ startPc := 0, endPc := 9, handlerPc := 12, catchType := 19 }] } }),
    (let q := Lib.HandJ.method "take" "(LLeastbag;ILLeastbagLaw$Out;)I" [.object "Leastbag", .int, .object "LeastbagLaw$Out"] (some .int) 0xa 4 method_13_code; { q with code := q.code.map fun c => { c with exceptionTable := #[{ startPc := 0, endPc := 9, handlerPc := 12, catchType := 19 }] } }),
    (let q := Lib.HandJ.method "remove" "(LLeastbag;IIILLeastbagLaw$Out;)I" [.object "Leastbag", .int, .int, .int, .object "LeastbagLaw$Out"] (some .int) 0xa 6 method_14_code; { q with code := q.code.map fun c => { c with exceptionTable := #[{ startPc := 0, endPc := 20, handlerPc := 23, catchType := 19 }, { startPc := 0, endPc := 20, handlerPc := 27, catchType := 21 }] } }),
    (let q := Lib.HandJ.method "sweep" "(LLeastbag;IILLeastbagLaw$Out;)I" [.object "Leastbag", .int, .int, .object "LeastbagLaw$Out"] (some .int) 0xa 5 method_15_code; { q with code := q.code.map fun c => { c with exceptionTable := #[{ startPc := 0, endPc := 11, handlerPc := 14, catchType := 19 }, { startPc := 0, endPc := 11, handlerPc := 18, catchType := 21 }] } }),
    (let q := Lib.HandJ.method "clear" "(LLeastbag;ILLeastbagLaw$Out;)I" [.object "Leastbag", .int, .object "LeastbagLaw$Out"] (some .int) 0xa 4 method_16_code; { q with code := q.code.map fun c => { c with exceptionTable := #[{ startPc := 0, endPc := 10, handlerPc := 13, catchType := 19 }] } }),
    (let q := Lib.HandJ.method "pollAll" "(LLeastbag;ILLeastbagLaw$Out;)I" [.object "Leastbag", .int, .object "LeastbagLaw$Out"] (some .int) 0xa 4 method_17_code; { q with code := q.code.map fun c => { c with exceptionTable := #[{ startPc := 0, endPc := 9, handlerPc := 12, catchType := 19 }] } }),
    (let q := Lib.HandJ.method "pour" "(LLeastbag;IILLeastbagLaw$Out;)I" [.object "Leastbag", .int, .int, .object "LeastbagLaw$Out"] (some .int) 0xa 5 method_18_code; { q with code := q.code.map fun c => { c with exceptionTable := #[{ startPc := 0, endPc := 11, handlerPc := 14, catchType := 19 }, { startPc := 0, endPc := 11, handlerPc := 18, catchType := 37 }] } }),
    (let q := Lib.HandJ.method "untimely" "(LLeastbag;ILLeastbagLaw$Out;)I" [.object "Leastbag", .int, .object "LeastbagLaw$Out"] (some .int) 0xa 4 method_19_code; { q with code := q.code.map fun c => { c with exceptionTable := #[{ startPc := 0, endPc := 10, handlerPc := 13, catchType := 19 }] } }),
    (let q := Lib.HandJ.method "lay" "(LLeastbag;IILLeastbagLaw$Out;)I" [.object "Leastbag", .int, .int, .object "LeastbagLaw$Out"] (some .int) 0xa 5 method_20_code; { q with code := q.code.map fun c => { c with exceptionTable := #[{ startPc := 0, endPc := 11, handlerPc := 14, catchType := 21 }, { startPc := 0, endPc := 11, handlerPc := 18, catchType := 37 }] } }),
    (let q := Lib.HandJ.method "unlay" "(LLeastbag;LLeastbagLaw$Out;)I" [.object "Leastbag", .object "LeastbagLaw$Out"] (some .int) 0xa 3 method_21_code; { q with code := q.code.map fun c => { c with exceptionTable := #[{ startPc := 0, endPc := 9, handlerPc := 12, catchType := 37 }] } }),
    (let q := Lib.HandJ.method "join" "(LLeastbag;IILLeastbagLaw$Out;)I" [.object "Leastbag", .int, .int, .object "LeastbagLaw$Out"] (some .int) 0xa 5 method_22_code; { q with code := q.code.map fun c => { c with exceptionTable := #[{ startPc := 0, endPc := 18, handlerPc := 21, catchType := 21 }, { startPc := 0, endPc := 18, handlerPc := 25, catchType := 37 }] } }),
    (let q := Lib.HandJ.method "leave" "(LLeastbag;IILLeastbagLaw$Out;)I" [.object "Leastbag", .int, .int, .object "LeastbagLaw$Out"] (some .int) 0xa 5 method_23_code; { q with code := q.code.map fun c => { c with exceptionTable := #[{ startPc := 0, endPc := 18, handlerPc := 21, catchType := 21 }] } }),
    (let q := Lib.HandJ.method "setOrder" "(LLeastbag;ILLeastbagLaw$Out;)I" [.object "Leastbag", .int, .object "LeastbagLaw$Out"] (some .int) 0xa 4 method_24_code; { q with code := q.code.map fun c => { c with exceptionTable := #[{ startPc := 0, endPc := 10, handlerPc := 13, catchType := 21 }] } }),
    (let q := Lib.HandJ.method "walk" "(LLeastbag;ILLeastbagLaw$Out;)I" [.object "Leastbag", .int, .object "LeastbagLaw$Out"] (some .int) 0xa 4 method_25_code; { q with code := q.code.map fun c => { c with exceptionTable := #[{ startPc := 0, endPc := 10, handlerPc := 13, catchType := 19 }] } }),
    (let q := Lib.HandJ.method "step" "(LLeastbag;LLeastbagLaw$Out;)I" [.object "Leastbag", .object "LeastbagLaw$Out"] (some .int) 0xa 3 method_26_code; { q with code := q.code.map fun c => { c with exceptionTable := #[{ startPc := 0, endPc := 9, handlerPc := 12, catchType := 37 }] } }),
    (let q := Lib.HandJ.method "walked" "(LLeastbag;ILLeastbagLaw$Out;)I" [.object "Leastbag", .int, .object "LeastbagLaw$Out"] (some .int) 0xa 4 method_27_code; { q with code := q.code.map fun c => { c with exceptionTable := #[{ startPc := 0, endPc := 10, handlerPc := 13, catchType := 21 }, { startPc := 0, endPc := 10, handlerPc := 16, catchType := 37 }] } }),
    (let q := Lib.HandJ.method "peek" "(LLeastbag;ILLeastbagLaw$Out;)I" [.object "Leastbag", .int, .object "LeastbagLaw$Out"] (some .int) 0xa 4 method_28_code; { q with code := q.code.map fun c => { c with exceptionTable := #[{ startPc := 0, endPc := 9, handlerPc := 12, catchType := 19 }] } }),
    (let q := Lib.HandJ.method "element" "(LLeastbag;ILLeastbagLaw$Out;)I" [.object "Leastbag", .int, .object "LeastbagLaw$Out"] (some .int) 0xa 4 method_29_code; { q with code := q.code.map fun c => { c with exceptionTable := #[{ startPc := 0, endPc := 9, handlerPc := 12, catchType := 19 }] } }),
    (let q := Lib.HandJ.method "contains" "(LLeastbag;IIILLeastbagLaw$Out;)I" [.object "Leastbag", .int, .int, .int, .object "LeastbagLaw$Out"] (some .int) 0xa 6 method_30_code; { q with code := q.code.map fun c => { c with exceptionTable := #[{ startPc := 0, endPc := 20, handlerPc := 23, catchType := 19 }, { startPc := 0, endPc := 20, handlerPc := 27, catchType := 21 }] } }),
    (let q := Lib.HandJ.method "count" "(LLeastbag;IIILLeastbagLaw$Out;)I" [.object "Leastbag", .int, .int, .int, .object "LeastbagLaw$Out"] (some .int) 0xa 6 method_31_code; { q with code := q.code.map fun c => { c with exceptionTable := #[{ startPc := 0, endPc := 13, handlerPc := 16, catchType := 19 }, { startPc := 0, endPc := 13, handlerPc := 20, catchType := 21 }] } }),
    (let q := Lib.HandJ.method "total" "(LLeastbag;IIZLLeastbagLaw$Out;)I" [.object "Leastbag", .int, .int, .boolean, .object "LeastbagLaw$Out"] (some .int) 0xa 6 method_32_code; { q with code := q.code.map fun c => { c with exceptionTable := #[{ startPc := 0, endPc := 13, handlerPc := 16, catchType := 19 }, { startPc := 0, endPc := 13, handlerPc := 20, catchType := 21 }] } }),
    (let q := Lib.HandJ.method "size" "(LLeastbag;ILLeastbagLaw$Out;)I" [.object "Leastbag", .int, .object "LeastbagLaw$Out"] (some .int) 0xa 4 method_33_code; { q with code := q.code.map fun c => { c with exceptionTable := #[{ startPc := 0, endPc := 10, handlerPc := 13, catchType := 19 }] } }),
    (let q := Lib.HandJ.method "isEmpty" "(LLeastbag;ILLeastbagLaw$Out;)I" [.object "Leastbag", .int, .object "LeastbagLaw$Out"] (some .int) 0xa 4 method_34_code; { q with code := q.code.map fun c => { c with exceptionTable := #[{ startPc := 0, endPc := 17, handlerPc := 20, catchType := 19 }] } }),
    (let q := Lib.HandJ.method "orderOf" "(LLeastbag;ILLeastbagLaw$Out;)I" [.object "Leastbag", .int, .object "LeastbagLaw$Out"] (some .int) 0xa 4 method_35_code; { q with code := q.code.map fun c => { c with exceptionTable := #[{ startPc := 0, endPc := 10, handlerPc := 13, catchType := 19 }] } }),
    (let q := Lib.HandJ.method "ahead" "(LLeastbag;IIIIILLeastbagLaw$Out;)I" [.object "Leastbag", .int, .int, .int, .int, .int, .object "LeastbagLaw$Out"] (some .int) 0xa 8 method_36_code; { q with code := q.code.map fun c => { c with exceptionTable := #[{ startPc := 0, endPc := 17, handlerPc := 20, catchType := 19 }, { startPc := 0, endPc := 17, handlerPc := 24, catchType := 21 }] } }),
    (let q := Lib.HandJ.method "sorted" "(LLeastbag;ILLeastbagLaw$Out;)I" [.object "Leastbag", .int, .object "LeastbagLaw$Out"] (some .int) 0xa 4 method_37_code; { q with code := q.code.map fun c => { c with exceptionTable := #[{ startPc := 0, endPc := 9, handlerPc := 12, catchType := 19 }] } }),
    (let q := Lib.HandJ.method "nth" "(LLeastbag;IILLeastbagLaw$Out;)I" [.object "Leastbag", .int, .int, .object "LeastbagLaw$Out"] (some .int) 0xa 5 method_38_code; { q with code := q.code.map fun c => { c with exceptionTable := #[{ startPc := 0, endPc := 10, handlerPc := 13, catchType := 19 }] } }),
    (let q := Lib.HandJ.method "areAlike" "(LLeastbag;IILLeastbagLaw$Out;)I" [.object "Leastbag", .int, .int, .object "LeastbagLaw$Out"] (some .int) 0xa 5 method_39_code; { q with code := q.code.map fun c => { c with exceptionTable := #[{ startPc := 0, endPc := 18, handlerPc := 21, catchType := 19 }] } }),
    (let q := Lib.HandJ.method "beyond" "(LLeastbag;ILLeastbagLaw$Out;)I" [.object "Leastbag", .int, .object "LeastbagLaw$Out"] (some .int) 0xa 4 method_40_code; { q with code := q.code.map fun c => { c with exceptionTable := #[{ startPc := 0, endPc := 10, handlerPc := 13, catchType := 19 }] } }),
    (let q := Lib.HandJ.method "list" "(LLeastbag;ILLeastbagLaw$Out;)I" [.object "Leastbag", .int, .object "LeastbagLaw$Out"] (some .int) 0xa 4 method_41_code; { q with code := q.code.map fun c => { c with exceptionTable := #[{ startPc := 0, endPc := 9, handlerPc := 12, catchType := 19 }] } }),
    (let q := Lib.HandJ.method "house" "(LLeastbag;ILLeastbagLaw$Out;)I" [.object "Leastbag", .int, .object "LeastbagLaw$Out"] (some .int) 0xa 4 method_42_code; { q with code := q.code.map fun c => { c with exceptionTable := #[{ startPc := 0, endPc := 10, handlerPc := 13, catchType := 21 }] } })] }
def start1.c2 : Class := { su_own "Leastbag" 0x31
    [(1, 3, "java/lang/Object", "<init>", "()V", 1, 0),
     (2, 9, "Leastbag$Bag", "", "", 3, 0),
     (1, 11, "Leastbag$Bag", "<init>", "()V", 3, 0),
     (0, 12, "Leastbag", "bags", "[LLeastbag$Bag;", 2, 0),
     (2, 16, "Leastbag$Row", "", "", 4, 0),
     (1, 18, "Leastbag$Row", "<init>", "()V", 4, 0),
     (0, 19, "Leastbag", "laid", "LLeastbag$Row;", 2, 1),
     (0, 23, "Leastbag", "joined", "LLeastbag$Bag;", 2, 2),
     (0, 27, "Leastbag", "spare", "LLeastbag$Bag;", 2, 3),
     (2, 30, "java/lang/StringBuilder", "", "", 30, 0),
     (1, 32, "java/lang/StringBuilder", "<init>", "()V", 30, 0),
     (0, 33, "Leastbag", "text", "Ljava/lang/StringBuilder;", 2, 4),
     (0, 37, "Leastbag", "walkBag", "I", 2, 5),
     (1, 41, "Leastbag", "bagTold", "(I)LLeastbag$Bag;", 2, 47),
     (1, 45, "Leastbag", "tested", "(II)V", 2, 50),
     (1, 49, "Leastbag", "endWalkOf", "(I)V", 2, 56),
     (1, 53, "Leastbag", "refused", "()I", 2, 53),
     (1, 57, "Leastbag$Bag", "howMany", "()I", 3, 1),
     (1, 60, "Leastbag$Bag", "makeEmpty", "(I)V", 3, 5),
     (1, 63, "Leastbag$Bag", "makeSame", "(LLeastbag$Bag;)V", 3, 6),
     (1, 67, "Leastbag$Bag", "putRow", "(LLeastbag$Row;)V", 3, 8),
     (1, 71, "Leastbag", "putIn", "(III)I", 2, 55),
     (1, 75, "Leastbag", "testRoom", "(II)V", 2, 52),
     (1, 78, "Leastbag", "thingOf", "(II)I", 2, 70),
     (1, 82, "Leastbag$Bag", "put", "(I)V", 3, 7),
     (1, 85, "Leastbag$Bag", "thingAt", "(I)I", 3, 4),
     (1, 89, "Leastbag$Row", "howMany", "()I", 4, 1),
     (3, 90, "", "-", "", 286, 0),
     (1, 92, "Leastbag$Bag", "takeLeast", "()I", 3, 9),
     (1, 95, "Leastbag", "textOf", "(I)Ljava/lang/String;", 2, 64),
     (1, 99, "Leastbag", "refusedText", "()Ljava/lang/String;", 2, 54),
     (1, 103, "Leastbag", "thingTold", "(II)I", 2, 49),
     (1, 106, "Leastbag$Bag", "takeLike", "(I)Z", 3, 10),
     (1, 110, "Leastbag$Bag", "takeKind", "(I)I", 3, 11),
     (1, 113, "Leastbag$Bag", "orderNow", "()I", 3, 2),
     (1, 116, "java/lang/StringBuilder", "setLength", "(I)V", 30, 6),
     (1, 119, "Leastbag", "writeNext", "(I)V", 2, 67),
     (1, 122, "java/lang/StringBuilder", "toString", "()Ljava/lang/String;", 30, 4),
     (1, 125, "Leastbag$Row", "insertAt", "(II)V", 4, 3),
     (2, 128, "java/lang/IllegalStateException", "", "", 40, 0),
     (3, 130, "", "the list has no thing", "", 290, 0),
     (1, 132, "java/lang/IllegalStateException", "<init>", "(Ljava/lang/String;)V", 40, 0),
     (1, 135, "Leastbag$Row", "dropAt", "(I)V", 4, 4),
     (1, 138, "Leastbag$Bag", "howManyLike", "(I)I", 3, 12),
     (1, 141, "Leastbag$Bag", "arrange", "(I)V", 3, 13),
     (0, 144, "Leastbag", "walkOver", "I", 2, 6),
     (0, 147, "Leastbag", "walkWeight", "I", 2, 7),
     (1, 150, "Leastbag", "bagOfWalk", "()LLeastbag$Bag;", 2, 48),
     (1, 154, "Leastbag", "weightOf", "(I)I", 2, 71),
     (1, 157, "Leastbag", "writeLeast", "(LLeastbag$Bag;)V", 2, 68),
     (1, 160, "Leastbag", "count", "(III)I", 2, 31),
     (1, 163, "Leastbag", "totalOf", "(LLeastbag$Bag;IZ)I", 2, 58),
     (1, 167, "Leastbag$Bag", "rankNow", "(I)I", 3, 3),
     (1, 170, "Leastbag", "rowOf", "(LLeastbag$Bag;)Ljava/lang/String;", 2, 65),
     (1, 174, "Leastbag", "testPlace", "(II)V", 2, 51),
     (1, 177, "Leastbag$Row", "thingAt", "(I)I", 4, 2),
     (1, 178, "Leastbag", "thingsInBags", "()I", 2, 57),
     (0, 181, "Leastbag", "refusals", "I", 2, 8),
     (0, 184, "Leastbag", "knocks", "I", 2, 9),
     (1, 187, "Leastbag", "isBagSound", "(LLeastbag$Bag;)Z", 2, 59),
     (4, 191, "", "", "", 7734, 0),
     (1, 193, "Leastbag", "house", "(I)I", 2, 43),
     (1, 196, "Leastbag", "mixed", "(JJ)J", 2, 61),
     (1, 200, "Leastbag", "mixedBag", "(JLLeastbag$Bag;)J", 2, 63),
     (1, 204, "Leastbag", "writeThing", "(I)V", 2, 66),
     (1, 207, "Leastbag", "writeRow", "(LLeastbag$Bag;)V", 2, 69),
     (1, 210, "Leastbag", "mixedText", "(J)J", 2, 62),
     (1, 214, "Leastbag", "isMore", "()Z", 2, 26),
     (1, 218, "Leastbag", "isSound", "()Z", 2, 45),
     (2, 221, "java/lang/IndexOutOfBoundsException", "", "", 38, 0),
     (3, 223, "", "there is no such bag", "", 282, 0),
     (1, 225, "java/lang/IndexOutOfBoundsException", "<init>", "(Ljava/lang/String;)V", 38, 1),
     (3, 226, "", "there is no walk", "", 292, 0),
     (2, 228, "java/lang/IllegalArgumentException", "", "", 39, 0),
     (3, 230, "", "a number is told that is not allowed there", "", 280, 0),
     (1, 232, "java/lang/IllegalArgumentException", "<init>", "(Ljava/lang/String;)V", 39, 0),
     (3, 233, "", "there is no such place", "", 294, 0),
     (3, 235, "", "there is no room for that many things", "", 284, 0),
     (3, 237, "", "!", "", 288, 0),
     (1, 239, "Leastbag", "isOfKind", "(II)Z", 2, 73),
     (1, 243, "Leastbag", "isWhole", "(LLeastbag$Bag;II)Z", 2, 60),
     (4, 247, "", "", "", 31, 0),
     (1, 249, "java/lang/StringBuilder", "length", "()I", 30, 7),
     (1, 252, "java/lang/StringBuilder", "charAt", "(I)C", 30, 5),
     (1, 256, "java/lang/StringBuilder", "append", "(C)Ljava/lang/StringBuilder;", 30, 2),
     (1, 260, "Leastbag", "letterOf", "(I)I", 2, 72)]
    [("bags", .array (.object "Leastbag$Bag"), 0x12), ("laid", .object "Leastbag$Row", 0x12), ("joined", .object "Leastbag$Bag", 0x12), ("spare", .object "Leastbag$Bag", 0x12), ("text", .object "java/lang/StringBuilder", 0x12), ("walkBag", .int, 0x2), ("walkOver", .int, 0x2), ("walkWeight", .int, 0x2), ("refusals", .int, 0x2), ("knocks", .int, 0x2)] (Lib.HandJ.method "<init>" "()V" [] none 0x1 1 prog_1_method_1_code) with
  methods := #[Lib.HandJ.method "<init>" "()V" [] none 0x1 1 prog_1_method_1_code,
    Lib.HandJ.method "make" "(III)I" [.int, .int, .int] (some .int) 0x1 6 prog_1_method_2_code,
    Lib.HandJ.method "makeLike" "(II)I" [.int, .int] (some .int) 0x1 5 prog_1_method_3_code,
    Lib.HandJ.method "makeOfList" "(I)I" [.int] (some .int) 0x1 3 prog_1_method_4_code,
    Lib.HandJ.method "makeOfSet" "(I)I" [.int] (some .int) 0x1 3 prog_1_method_5_code,
    Lib.HandJ.method "add" "(III)I" [.int, .int, .int] (some .int) 0x1 4 prog_1_method_6_code,
    Lib.HandJ.method "offer" "(III)I" [.int, .int, .int] (some .int) 0x1 4 prog_1_method_7_code,
    Lib.HandJ.method "fill" "(IIII)I" [.int, .int, .int, .int] (some .int) 0x1 7 prog_1_method_8_code,
    Lib.HandJ.method "addNothing" "(IZ)I" [.int, .boolean] (some .int) 0x1 3 prog_1_method_9_code,
    Lib.HandJ.method "addAll" "(II)I" [.int, .int] (some .int) 0x1 6 prog_1_method_10_code,
    Lib.HandJ.method "addList" "(I)I" [.int] (some .int) 0x1 3 prog_1_method_11_code,
    Lib.HandJ.method "poll" "(I)Ljava/lang/String;" [.int] (some (.object "java/lang/String")) 0x1 3 prog_1_method_12_code,
    Lib.HandJ.method "take" "(I)Ljava/lang/String;" [.int] (some (.object "java/lang/String")) 0x1 3 prog_1_method_13_code,
    Lib.HandJ.method "remove" "(III)Z" [.int, .int, .int] (some .boolean) 0x1 6 prog_1_method_14_code,
    Lib.HandJ.method "sweep" "(II)I" [.int, .int] (some .int) 0x1 4 prog_1_method_15_code,
    Lib.HandJ.method "clear" "(I)I" [.int] (some .int) 0x1 4 prog_1_method_16_code,
    Lib.HandJ.method "pollAll" "(I)Ljava/lang/String;" [.int] (some (.object "java/lang/String")) 0x1 4 prog_1_method_17_code,
    Lib.HandJ.method "pour" "(II)I" [.int, .int] (some .int) 0x1 6 prog_1_method_18_code,
    Lib.HandJ.method "untimely" "(I)I" [.int] (some .int) 0x1 2 prog_1_method_19_code,
    Lib.HandJ.method "lay" "(II)I" [.int, .int] (some .int) 0x1 4 prog_1_method_20_code,
    Lib.HandJ.method "unlay" "()I" [] (some .int) 0x1 1 prog_1_method_21_code,
    Lib.HandJ.method "join" "(II)Z" [.int, .int] (some .boolean) 0x1 4 prog_1_method_22_code,
    Lib.HandJ.method "leave" "(II)Z" [.int, .int] (some .boolean) 0x1 3 prog_1_method_23_code,
    Lib.HandJ.method "setOrder" "(I)I" [.int] (some .int) 0x1 3 prog_1_method_24_code,
    Lib.HandJ.method "walk" "(I)I" [.int] (some .int) 0x1 3 prog_1_method_25_code,
    Lib.HandJ.method "step" "()I" [] (some .int) 0x1 2 prog_1_method_26_code,
    Lib.HandJ.method "isMore" "()Z" [] (some .boolean) 0x1 1 prog_1_method_27_code,
    Lib.HandJ.method "walked" "(I)I" [.int] (some .int) 0x1 3 prog_1_method_28_code,
    Lib.HandJ.method "peek" "(I)Ljava/lang/String;" [.int] (some (.object "java/lang/String")) 0x1 3 prog_1_method_29_code,
    Lib.HandJ.method "element" "(I)Ljava/lang/String;" [.int] (some (.object "java/lang/String")) 0x1 3 prog_1_method_30_code,
    Lib.HandJ.method "contains" "(III)Z" [.int, .int, .int] (some .boolean) 0x1 4 prog_1_method_31_code,
    Lib.HandJ.method "count" "(III)I" [.int, .int, .int] (some .int) 0x1 5 prog_1_method_32_code,
    Lib.HandJ.method "total" "(IIZ)I" [.int, .int, .boolean] (some .int) 0x1 5 prog_1_method_33_code,
    Lib.HandJ.method "size" "(I)I" [.int] (some .int) 0x1 2 prog_1_method_34_code,
    Lib.HandJ.method "isEmpty" "(I)Z" [.int] (some .boolean) 0x1 2 prog_1_method_35_code,
    Lib.HandJ.method "orderOf" "(I)I" [.int] (some .int) 0x1 2 prog_1_method_36_code,
    Lib.HandJ.method "ahead" "(IIIII)I" [.int, .int, .int, .int, .int] (some .int) 0x1 9 prog_1_method_37_code,
    Lib.HandJ.method "sorted" "(I)Ljava/lang/String;" [.int] (some (.object "java/lang/String")) 0x1 2 prog_1_method_38_code,
    Lib.HandJ.method "nth" "(II)Ljava/lang/String;" [.int, .int] (some (.object "java/lang/String")) 0x1 4 prog_1_method_39_code,
    Lib.HandJ.method "areAlike" "(II)Z" [.int, .int] (some .boolean) 0x1 7 prog_1_method_40_code,
    Lib.HandJ.method "beyond" "(I)I" [.int] (some .int) 0x1 2 prog_1_method_41_code,
    Lib.HandJ.method "list" "(I)Ljava/lang/String;" [.int] (some (.object "java/lang/String")) 0x1 2 prog_1_method_42_code,
    Lib.HandJ.method "set" "()Ljava/lang/String;" [] (some (.object "java/lang/String")) 0x1 1 prog_1_method_43_code,
    Lib.HandJ.method "house" "(I)I" [.int] (some .int) 0x1 2 prog_1_method_44_code,
    Lib.HandJ.method "knock" "()I" [] (some .int) 0x1 1 prog_1_method_45_code,
    Lib.HandJ.method "isSound" "()Z" [] (some .boolean) 0x1 2 prog_1_method_46_code,
    Lib.HandJ.method "digest" "()J" [] (some .long) 0x1 4 prog_1_method_47_code,
    Lib.HandJ.method "bagTold" "(I)LLeastbag$Bag;" [.int] (some (.object "Leastbag$Bag")) 0x2 2 prog_1_method_48_code,
    Lib.HandJ.method "bagOfWalk" "()LLeastbag$Bag;" [] (some (.object "Leastbag$Bag")) 0x2 1 prog_1_method_49_code,
    Lib.HandJ.method "thingTold" "(II)I" [.int, .int] (some .int) 0xa 2 prog_1_method_50_code,
    Lib.HandJ.method "tested" "(II)V" [.int, .int] none 0xa 2 prog_1_method_51_code,
    Lib.HandJ.method "testPlace" "(II)V" [.int, .int] none 0xa 2 prog_1_method_52_code,
    Lib.HandJ.method "testRoom" "(II)V" [.int, .int] none 0xa 2 prog_1_method_53_code,
    Lib.HandJ.method "refused" "()I" [] (some .int) 0x2 1 prog_1_method_54_code,
    Lib.HandJ.method "refusedText" "()Ljava/lang/String;" [] (some (.object "java/lang/String")) 0x2 1 prog_1_method_55_code,
    Lib.HandJ.method "putIn" "(III)I" [.int, .int, .int] (some .int) 0x2 6 prog_1_method_56_code,
    Lib.HandJ.method "endWalkOf" "(I)V" [.int] none 0x2 2 prog_1_method_57_code,
    Lib.HandJ.method "thingsInBags" "()I" [] (some .int) 0x2 3 prog_1_method_58_code,
    Lib.HandJ.method "totalOf" "(LLeastbag$Bag;IZ)I" [.object "Leastbag$Bag", .int, .boolean] (some .int) 0xa 6 prog_1_method_59_code,
    Lib.HandJ.method "isBagSound" "(LLeastbag$Bag;)Z" [.object "Leastbag$Bag"] (some .boolean) 0x2 9 prog_1_method_60_code,
    Lib.HandJ.method "isWhole" "(LLeastbag$Bag;II)Z" [.object "Leastbag$Bag", .int, .int] (some .boolean) 0xa 6 prog_1_method_61_code,
    Lib.HandJ.method "mixed" "(JJ)J" [.long, .long] (some .long) 0xa 4 prog_1_method_62_code,
    Lib.HandJ.method "mixedText" "(J)J" [.long] (some .long) 0x2 6 prog_1_method_63_code,
    Lib.HandJ.method "mixedBag" "(JLLeastbag$Bag;)J" [.long, .object "Leastbag$Bag"] (some .long) 0x2 7 prog_1_method_64_code,
    Lib.HandJ.method "textOf" "(I)Ljava/lang/String;" [.int] (some (.object "java/lang/String")) 0x2 2 prog_1_method_65_code,
    Lib.HandJ.method "rowOf" "(LLeastbag$Bag;)Ljava/lang/String;" [.object "Leastbag$Bag"] (some (.object "java/lang/String")) 0x2 2 prog_1_method_66_code,
    Lib.HandJ.method "writeThing" "(I)V" [.int] none 0x2 3 prog_1_method_67_code,
    Lib.HandJ.method "writeNext" "(I)V" [.int] none 0x2 2 prog_1_method_68_code,
    Lib.HandJ.method "writeLeast" "(LLeastbag$Bag;)V" [.object "Leastbag$Bag"] none 0x2 2 prog_1_method_69_code,
    Lib.HandJ.method "writeRow" "(LLeastbag$Bag;)V" [.object "Leastbag$Bag"] none 0x2 3 prog_1_method_70_code,
    Lib.HandJ.method "thingOf" "(II)I" [.int, .int] (some .int) 0xa 2 prog_1_method_71_code,
    Lib.HandJ.method "weightOf" "(I)I" [.int] (some .int) 0xa 1 prog_1_method_72_code,
    Lib.HandJ.method "letterOf" "(I)I" [.int] (some .int) 0xa 1 prog_1_method_73_code,
    Lib.HandJ.method "isOfKind" "(II)Z" [.int, .int] (some .boolean) 0xa 3 prog_1_method_74_code,
    Lib.HandJ.method "rankOf" "(II)I" [.int, .int] (some .int) 0xa 6 prog_1_method_75_code] }
def start1.c3 : Class := { su_own "Leastbag$Bag" 0x30
    [(1, 3, "java/lang/Object", "<init>", "()V", 1, 0),
     (2, 9, "Leastbag$Row", "", "", 4, 0),
     (1, 11, "Leastbag$Row", "<init>", "()V", 4, 0),
     (0, 12, "Leastbag$Bag", "turned", "LLeastbag$Row;", 3, 0),
     (1, 18, "Leastbag$Row", "howMany", "()I", 4, 1),
     (0, 22, "Leastbag$Bag", "order", "I", 3, 1),
     (1, 26, "Leastbag", "rankOf", "(II)I", 2, 74),
     (1, 30, "Leastbag$Row", "thingAt", "(I)I", 4, 2),
     (1, 34, "Leastbag$Row", "drain", "()V", 4, 5),
     (1, 37, "Leastbag$Bag", "makeEmpty", "(I)V", 3, 5),
     (1, 41, "Leastbag$Row", "insertAt", "(II)V", 4, 3),
     (1, 45, "Leastbag$Bag", "howManyBehind", "(II)I", 3, 14),
     (1, 48, "Leastbag$Bag", "put", "(I)V", 3, 7),
     (1, 51, "Leastbag$Bag", "thingAt", "(I)I", 3, 4),
     (1, 52, "Leastbag$Row", "dropAt", "(I)V", 4, 4),
     (1, 55, "Leastbag", "isOfKind", "(II)Z", 2, 73)]
    [("turned", .object "Leastbag$Row", 0x12), ("order", .int, 0x2)] (Lib.HandJ.method "<init>" "()V" [] none 0x2 1 prog_2_method_1_code) with
  methods := #[Lib.HandJ.method "<init>" "()V" [] none 0x2 1 prog_2_method_1_code,
    Lib.HandJ.method "howMany" "()I" [] (some .int) 0x0 1 prog_2_method_2_code,
    Lib.HandJ.method "orderNow" "()I" [] (some .int) 0x0 1 prog_2_method_3_code,
    Lib.HandJ.method "rankNow" "(I)I" [.int] (some .int) 0x0 2 prog_2_method_4_code,
    Lib.HandJ.method "thingAt" "(I)I" [.int] (some .int) 0x0 2 prog_2_method_5_code,
    Lib.HandJ.method "makeEmpty" "(I)V" [.int] none 0x0 2 prog_2_method_6_code,
    Lib.HandJ.method "makeSame" "(LLeastbag$Bag;)V" [.object "Leastbag$Bag"] none 0x0 3 prog_2_method_7_code,
    Lib.HandJ.method "put" "(I)V" [.int] none 0x0 2 prog_2_method_8_code,
    Lib.HandJ.method "putRow" "(LLeastbag$Row;)V" [.object "Leastbag$Row"] none 0x0 3 prog_2_method_9_code,
    Lib.HandJ.method "takeLeast" "()I" [] (some .int) 0x0 2 prog_2_method_10_code,
    Lib.HandJ.method "takeLike" "(I)Z" [.int] (some .boolean) 0x0 3 prog_2_method_11_code,
    Lib.HandJ.method "takeKind" "(I)I" [.int] (some .int) 0x0 4 prog_2_method_12_code,
    Lib.HandJ.method "howManyLike" "(I)I" [.int] (some .int) 0x0 4 prog_2_method_13_code,
    Lib.HandJ.method "arrange" "(I)V" [.int] none 0x0 4 prog_2_method_14_code,
    Lib.HandJ.method "howManyBehind" "(II)I" [.int, .int] (some .int) 0x2 7 prog_2_method_15_code],
  nestHost := some 2 }
def start1.c4 : Class := { su_own "Leastbag$Row" 0x30
    [(1, 3, "java/lang/Object", "<init>", "()V", 1, 0),
     (0, 9, "Leastbag$Row", "things", "[I", 4, 0),
     (0, 15, "Leastbag$Row", "many", "I", 4, 1)]
    [("things", .array .int, 0x12), ("many", .int, 0x2)] (Lib.HandJ.method "<init>" "()V" [] none 0x2 1 prog_3_method_1_code) with
  methods := #[Lib.HandJ.method "<init>" "()V" [] none 0x2 1 prog_3_method_1_code,
    Lib.HandJ.method "howMany" "()I" [] (some .int) 0x0 1 prog_3_method_2_code,
    Lib.HandJ.method "thingAt" "(I)I" [.int] (some .int) 0x0 2 prog_3_method_3_code,
    Lib.HandJ.method "insertAt" "(II)V" [.int, .int] none 0x0 4 prog_3_method_4_code,
    Lib.HandJ.method "dropAt" "(I)V" [.int] none 0x0 3 prog_3_method_5_code,
    Lib.HandJ.method "drain" "()V" [] none 0x0 1 prog_3_method_6_code],
  nestHost := some 2 }
def start1.c5 : Class := { su_own "java/lang/StringUTF16" 0x30
    [(2, 3, "java/lang/String", "", "", 26, 0),
     (1, 11, "java/lang/StringUTF16", "newBytesLength", "(I)I", 5, 1),
     (5, 20, "", "", "", 1073741823, 0),
     (0, 44, "java/lang/StringUTF16", "$assertionsDisabled", "Z", 5, 3),
     (1, 48, "java/lang/StringUTF16", "length", "([B)I", 5, 4),
     (0, 59, "java/lang/StringUTF16", "HI_BYTE_SHIFT", "I", 5, 0),
     (0, 63, "java/lang/StringUTF16", "LO_BYTE_SHIFT", "I", 5, 1),
     (1, 67, "java/lang/StringUTF16", "checkIndex", "(I[B)V", 5, 16),
     (1, 71, "java/lang/StringUTF16", "getChar", "([BI)C", 5, 3),
     (1, 96, "java/lang/StringUTF16", "checkBoundsBeginEnd", "(II[B)V", 5, 17),
     (1, 111, "java/lang/StringUTF16", "putChar", "([BII)V", 5, 2),
     (1, 123, "java/lang/StringUTF16", "compress", "([BI[BII)I", 5, 7),
     (1, 126, "java/util/Arrays", "copyOfRange", "([BII)[B", 12, 6),
     (1, 173, "java/lang/StringUTF16", "checkBoundsOffCount", "(II[B)V", 5, 18),
     (1, 241, "java/lang/String", "checkBoundsBeginEnd", "(III)V", 26, 13),
     (0, 251, "java/lang/String", "COMPACT_STRINGS", "Z", 26, 5),
     (1, 257, "java/lang/StringUTF16", "compress", "([BII)[B", 5, 6),
     (1, 259, "java/lang/StringUTF16", "coderFromArrayLen", "([BI)B", 5, 5),
     (1, 263, "java/lang/String", "<init>", "([BB)V", 26, 8),
     (3, 295, "", "", "", 296, 0),
     (1, 380, "java/util/Arrays", "fill", "([BIIB)V", 12, 1),
     (1, 393, "java/lang/StringUTF16", "getChars", "(II[B)I", 5, 15),
     (0, 403, "java/lang/Integer", "DigitOnes", "[B", 33, 6),
     (0, 407, "java/lang/Integer", "DigitTens", "[B", 33, 5),
     (1, 414, "java/lang/String", "checkIndex", "(II)V", 26, 11),
     (1, 419, "java/lang/String", "checkBoundsOffCount", "(III)I", 26, 12)]
    [] (Lib.HandJ.method "newBytesFor" "(I)[B" [.int] (some (.array .byte)) 0x9 1 prog_28_method_2_code) with
  methods := #[Lib.HandJ.method "newBytesFor" "(I)[B" [.int] (some (.array .byte)) 0x9 1 prog_28_method_2_code,
    Lib.HandJ.method "newBytesLength" "(I)I" [.int] (some .int) 0x9 1 prog_28_method_3_code,
    Lib.HandJ.method "putChar" "([BII)V" [.array .byte, .int, .int] none 0x8 3 prog_28_method_4_code,
    Lib.HandJ.method "getChar" "([BI)C" [.array .byte, .int] (some .char) 0x8 2 prog_28_method_5_code,
    Lib.HandJ.method "length" "([B)I" [.array .byte] (some .int) 0x9 1 prog_28_method_6_code,
    Lib.HandJ.method "coderFromArrayLen" "([BI)B" [.array .byte, .int] (some .byte) 0x8 2 prog_28_method_15_code,
    Lib.HandJ.method "compress" "([BII)[B" [.array .byte, .int, .int] (some (.array .byte)) 0x9 6 prog_28_method_17_code,
    Lib.HandJ.method "compress" "([BI[BII)I" [.array .byte, .int, .array .byte, .int, .int] (some .int) 0x9 7 prog_28_method_22_code,
    Lib.HandJ.method "newString" "([BII)Ljava/lang/String;" [.array .byte, .int, .int] (some (.object "java/lang/String")) 0x9 5 prog_28_method_69_code,
    Lib.HandJ.method "fillNull" "([BII)V" [.array .byte, .int, .int] none 0x9 3 prog_28_method_70_code,
    Lib.HandJ.method "putCharSB" "([BII)V" [.array .byte, .int, .int] none 0x9 3 prog_28_method_71_code,
    Lib.HandJ.method "getChars" "(III[B)I" [.int, .int, .int, .array .byte] (some .int) 0x9 5 prog_28_method_77_code,
    Lib.HandJ.method "putCharsAt" "([BICCCC)I" [.array .byte, .int, .char, .char, .char, .char] (some .int) 0x9 7 prog_28_method_81_code,
    Lib.HandJ.method "charAt" "([BI)C" [.array .byte, .int] (some .char) 0x9 2 prog_28_method_83_code,
    Lib.HandJ.method "inflate" "([BI[BII)V" [.array .byte, .int, .array .byte, .int, .int] none 0x9 6 prog_28_method_86_code,
    Lib.HandJ.method "getChars" "(II[B)I" [.int, .int, .array .byte] (some .int) 0x8 7 prog_28_method_89_code,
    Lib.HandJ.method "checkIndex" "(I[B)V" [.int, .array .byte] none 0x9 2 prog_28_method_91_code,
    Lib.HandJ.method "checkBoundsBeginEnd" "(II[B)V" [.int, .int, .array .byte] none 0x9 3 prog_28_method_93_code,
    Lib.HandJ.method "checkBoundsOffCount" "(II[B)V" [.int, .int, .array .byte] none 0x9 3 prog_28_method_94_code],
  fields := (Lib.HandW.fieldsFrom [] 0).toArray ++ #[{ name := "HI_BYTE_SHIFT", type := .int, accessFlags := 0x1a, slot := 0, constantValue := 0 }, { name := "LO_BYTE_SHIFT", type := .int, accessFlags := 0x1a, slot := 1, constantValue := 0 }, { name := "MAX_LENGTH", type := .int, accessFlags := 0x18, slot := 2, constantValue := 0 }, { name := "$assertionsDisabled", type := .boolean, accessFlags := 0x1018, slot := 3, constantValue := 0 }],
  staticTypes := #[.int, .int, .int, .boolean],
  statics := some 1 }
def start1.c6 : Class := { su_own "LeastbagModel" 0x31
    [(1, 1, "java/lang/Object", "<init>", "()V", 1, 0),
     (2, 9, "[[I", "", "", 53, 0),
     (0, 11, "LeastbagModel", "bags", "[[I", 6, 3),
     (0, 14, "LeastbagModel", "orders", "[I", 6, 4),
     (2, 18, "java/util/ArrayList", "", "", 41, 0),
     (1, 20, "java/util/ArrayList", "<init>", "()V", 41, 0),
     (0, 21, "LeastbagModel", "list", "Ljava/util/ArrayList;", 6, 5),
     (0, 25, "LeastbagModel", "set", "[Z", 6, 6),
     (0, 29, "LeastbagModel", "walkBag", "I", 6, 8),
     (0, 33, "LeastbagModel", "thrown", "I", 6, 0),
     (1, 36, "LeastbagModel", "refuse", "(ZI)Z", 6, 4),
     (0, 40, "LeastbagModel", "told", "I", 6, 1),
     (1, 43, "LeastbagModel", "isIn", "(III)Z", 6, 1),
     (2, 47, "java/lang/StringBuilder", "", "", 30, 0),
     (1, 49, "java/lang/StringBuilder", "<init>", "()V", 30, 0),
     (1, 50, "java/lang/StringBuilder", "append", "(I)Ljava/lang/StringBuilder;", 30, 3),
     (3, 54, "", "abcdef", "", 298, 0),
     (1, 56, "java/lang/String", "substring", "(II)Ljava/lang/String;", 26, 5),
     (1, 62, "java/lang/StringBuilder", "append", "(Ljava/lang/String;)Ljava/lang/StringBuilder;", 30, 1),
     (1, 65, "java/lang/StringBuilder", "toString", "()Ljava/lang/String;", 30, 4),
     (1, 69, "LeastbagModel", "compare", "(III)I", 6, 11),
     (1, 73, "LeastbagModel", "many", "([I)I", 6, 13),
     (3, 77, "", "", "", 296, 0),
     (1, 79, "LeastbagModel", "least", "([II)I", 6, 12),
     (1, 83, "java/lang/String", "isEmpty", "()Z", 26, 2),
     (3, 87, "", " ", "", 300, 0),
     (1, 89, "LeastbagModel", "textOf", "(I)Ljava/lang/String;", 6, 10),
     (1, 93, "LeastbagModel", "isNoBag", "(I)Z", 6, 7),
     (1, 97, "LeastbagModel", "start", "(ZI)Z", 6, 5),
     (1, 100, "LeastbagModel", "name", "(I)V", 6, 9),
     (1, 104, "LeastbagModel", "no", "()I", 6, 6),
     (1, 108, "LeastbagModel", "many", "(I)I", 6, 14),
     (1, 111, "LeastbagModel", "empty", "(I)V", 6, 16),
     (1, 114, "java/util/ArrayList", "size", "()I", 41, 3),
     (1, 117, "java/util/ArrayList", "get", "(I)Ljava/lang/Object;", 41, 5),
     (2, 121, "java/lang/Integer", "", "", 33, 0),
     (1, 123, "java/lang/Integer", "intValue", "()I", 33, 4),
     (1, 126, "LeastbagModel", "one", "(Z)I", 6, 2),
     (0, 130, "LeastbagModel", "setOrder", "I", 6, 7),
     (1, 133, "LeastbagModel", "isNoThing", "(II)Z", 6, 8),
     (1, 137, "LeastbagModel", "put", "(III)I", 6, 21),
     (3, 140, "", "-", "", 286, 0),
     (1, 142, "LeastbagModel", "taken", "(ILjava/lang/String;)Ljava/lang/String;", 6, 28),
     (3, 146, "", "!", "", 288, 0),
     (1, 148, "LeastbagModel", "isOf", "(II)Z", 6, 32),
     (1, 151, "LeastbagModel", "rowOf", "([II)Ljava/lang/String;", 6, 15),
     (1, 155, "java/lang/Integer", "valueOf", "(I)Ljava/lang/Integer;", 33, 2),
     (1, 159, "java/util/ArrayList", "add", "(Ljava/lang/Object;)Z", 41, 7),
     (1, 163, "java/util/ArrayList", "remove", "(I)Ljava/lang/Object;", 41, 8),
     (1, 166, "LeastbagModel", "joined", "()I", 6, 40),
     (0, 169, "LeastbagModel", "walked", "I", 6, 9),
     (1, 172, "LeastbagModel", "isMoreNow", "()Z", 6, 45),
     (1, 175, "LeastbagModel", "totalNow", "(IIZ)I", 6, 54),
     (1, 179, "LeastbagModel", "leastText", "(ILjava/lang/String;)Ljava/lang/String;", 6, 49),
     (1, 182, "LeastbagModel", "setNow", "()Ljava/lang/String;", 6, 65),
     (0, 185, "LeastbagModel", "knocked", "I", 6, 2),
     (1, 188, "LeastbagModel", "houseNow", "(I)I", 6, 67),
     (0, 191, "LeastbagModel", "sum", "J", 6, 10),
     (4, 195, "", "", "", 31, 0),
     (1, 197, "java/lang/String", "length", "()I", 26, 1),
     (1, 200, "java/lang/String", "charAt", "(I)C", 26, 3),
     (1, 204, "LeastbagModel", "add", "(J)V", 6, 71),
     (4, 207, "", "", "", 7734, 0),
     (1, 209, "LeastbagModel", "addText", "(Ljava/lang/String;)V", 6, 72)]
    [("thrown", .int, 0x2), ("told", .int, 0x2), ("knocked", .int, 0x2), ("bags", .array (.array .int), 0x12), ("orders", .array .int, 0x12), ("list", .object "java/util/ArrayList", 0x12), ("set", .array .boolean, 0x12), ("setOrder", .int, 0x2), ("walkBag", .int, 0x2), ("walked", .int, 0x2), ("sum", .long, 0x2)] (Lib.HandJ.method "<init>" "()V" [] none 0x1 1 prog_6_method_1_code) with
  methods := #[Lib.HandJ.method "<init>" "()V" [] none 0x1 1 prog_6_method_1_code,
    Lib.HandJ.method "isIn" "(III)Z" [.int, .int, .int] (some .boolean) 0xa 3 prog_6_method_2_code,
    Lib.HandJ.method "one" "(Z)I" [.boolean] (some .int) 0xa 1 prog_6_method_3_code,
    Lib.HandJ.method "thrown" "()I" [] (some .int) 0x1 1 prog_6_method_4_code,
    Lib.HandJ.method "refuse" "(ZI)Z" [.boolean, .int] (some .boolean) 0x2 3 prog_6_method_5_code,
    Lib.HandJ.method "start" "(ZI)Z" [.boolean, .int] (some .boolean) 0x2 3 prog_6_method_6_code,
    Lib.HandJ.method "no" "()I" [] (some .int) 0x2 1 prog_6_method_7_code,
    Lib.HandJ.method "isNoBag" "(I)Z" [.int] (some .boolean) 0xa 1 prog_6_method_8_code,
    Lib.HandJ.method "isNoThing" "(II)Z" [.int, .int] (some .boolean) 0xa 2 prog_6_method_9_code,
    Lib.HandJ.method "name" "(I)V" [.int] none 0x2 2 prog_6_method_10_code,
    Lib.HandJ.method "textOf" "(I)Ljava/lang/String;" [.int] (some (.object "java/lang/String")) 0xa 1 prog_6_method_11_code,
    Lib.HandJ.method "compare" "(III)I" [.int, .int, .int] (some .int) 0xa 6 prog_6_method_12_code,
    Lib.HandJ.method "least" "([II)I" [.array .int, .int] (some .int) 0xa 4 prog_6_method_13_code,
    Lib.HandJ.method "many" "([I)I" [.array .int] (some .int) 0xa 6 prog_6_method_14_code,
    Lib.HandJ.method "many" "(I)I" [.int] (some .int) 0x2 2 prog_6_method_15_code,
    Lib.HandJ.method "rowOf" "([II)Ljava/lang/String;" [.array .int, .int] (some (.object "java/lang/String")) 0xa 5 prog_6_method_16_code,
    Lib.HandJ.method "empty" "(I)V" [.int] none 0x2 3 prog_6_method_17_code,
    Lib.HandJ.method "make" "(III)I" [.int, .int, .int] (some .int) 0x1 5 prog_6_method_18_code,
    Lib.HandJ.method "makeLike" "(II)I" [.int, .int] (some .int) 0x1 4 prog_6_method_19_code,
    Lib.HandJ.method "makeOfList" "(I)I" [.int] (some .int) 0x1 3 prog_6_method_20_code,
    Lib.HandJ.method "makeOfSet" "(I)I" [.int] (some .int) 0x1 3 prog_6_method_21_code,
    Lib.HandJ.method "put" "(III)I" [.int, .int, .int] (some .int) 0x2 4 prog_6_method_22_code,
    Lib.HandJ.method "add" "(III)I" [.int, .int, .int] (some .int) 0x1 4 prog_6_method_23_code,
    Lib.HandJ.method "offer" "(III)I" [.int, .int, .int] (some .int) 0x1 4 prog_6_method_24_code,
    Lib.HandJ.method "fill" "(IIII)I" [.int, .int, .int, .int] (some .int) 0x1 7 prog_6_method_25_code,
    Lib.HandJ.method "addNothing" "(IZ)I" [.int, .boolean] (some .int) 0x1 3 prog_6_method_26_code,
    Lib.HandJ.method "addAll" "(II)I" [.int, .int] (some .int) 0x1 4 prog_6_method_27_code,
    Lib.HandJ.method "addList" "(I)I" [.int] (some .int) 0x1 3 prog_6_method_28_code,
    Lib.HandJ.method "taken" "(ILjava/lang/String;)Ljava/lang/String;" [.int, .object "java/lang/String"] (some (.object "java/lang/String")) 0x2 4 prog_6_method_29_code,
    Lib.HandJ.method "poll" "(I)Ljava/lang/String;" [.int] (some (.object "java/lang/String")) 0x1 2 prog_6_method_30_code,
    Lib.HandJ.method "take" "(I)Ljava/lang/String;" [.int] (some (.object "java/lang/String")) 0x1 2 prog_6_method_31_code,
    Lib.HandJ.method "remove" "(III)Z" [.int, .int, .int] (some .boolean) 0x1 5 prog_6_method_32_code,
    Lib.HandJ.method "isOf" "(II)Z" [.int, .int] (some .boolean) 0xa 3 prog_6_method_33_code,
    Lib.HandJ.method "sweep" "(II)I" [.int, .int] (some .int) 0x1 5 prog_6_method_34_code,
    Lib.HandJ.method "clear" "(I)I" [.int] (some .int) 0x1 3 prog_6_method_35_code,
    Lib.HandJ.method "pollAll" "(I)Ljava/lang/String;" [.int] (some (.object "java/lang/String")) 0x1 3 prog_6_method_36_code,
    Lib.HandJ.method "pour" "(II)I" [.int, .int] (some .int) 0x1 4 prog_6_method_37_code,
    Lib.HandJ.method "untimely" "(I)I" [.int] (some .int) 0x1 2 prog_6_method_38_code,
    Lib.HandJ.method "lay" "(II)I" [.int, .int] (some .int) 0x1 3 prog_6_method_39_code,
    Lib.HandJ.method "unlay" "()I" [] (some .int) 0x1 1 prog_6_method_40_code,
    Lib.HandJ.method "joined" "()I" [] (some .int) 0x2 6 prog_6_method_41_code,
    Lib.HandJ.method "join" "(II)Z" [.int, .int] (some .boolean) 0x1 4 prog_6_method_42_code,
    Lib.HandJ.method "leave" "(II)Z" [.int, .int] (some .boolean) 0x1 4 prog_6_method_43_code,
    Lib.HandJ.method "setOrder" "(I)I" [.int] (some .int) 0x1 3 prog_6_method_44_code,
    Lib.HandJ.method "walk" "(I)I" [.int] (some .int) 0x1 2 prog_6_method_45_code,
    Lib.HandJ.method "isMoreNow" "()Z" [] (some .boolean) 0x2 1 prog_6_method_46_code,
    Lib.HandJ.method "step" "()I" [] (some .int) 0x1 1 prog_6_method_47_code,
    Lib.HandJ.method "isMore" "()Z" [] (some .boolean) 0x1 1 prog_6_method_48_code,
    Lib.HandJ.method "walked" "(I)I" [.int] (some .int) 0x1 2 prog_6_method_49_code,
    Lib.HandJ.method "leastText" "(ILjava/lang/String;)Ljava/lang/String;" [.int, .object "java/lang/String"] (some (.object "java/lang/String")) 0x2 3 prog_6_method_50_code,
    Lib.HandJ.method "peek" "(I)Ljava/lang/String;" [.int] (some (.object "java/lang/String")) 0x1 2 prog_6_method_51_code,
    Lib.HandJ.method "element" "(I)Ljava/lang/String;" [.int] (some (.object "java/lang/String")) 0x1 2 prog_6_method_52_code,
    Lib.HandJ.method "contains" "(III)Z" [.int, .int, .int] (some .boolean) 0x1 4 prog_6_method_53_code,
    Lib.HandJ.method "count" "(III)I" [.int, .int, .int] (some .int) 0x1 4 prog_6_method_54_code,
    Lib.HandJ.method "totalNow" "(IIZ)I" [.int, .int, .boolean] (some .int) 0x2 6 prog_6_method_55_code,
    Lib.HandJ.method "total" "(IIZ)I" [.int, .int, .boolean] (some .int) 0x1 4 prog_6_method_56_code,
    Lib.HandJ.method "size" "(I)I" [.int] (some .int) 0x1 2 prog_6_method_57_code,
    Lib.HandJ.method "isEmpty" "(I)Z" [.int] (some .boolean) 0x1 2 prog_6_method_58_code,
    Lib.HandJ.method "orderOf" "(I)I" [.int] (some .int) 0x1 2 prog_6_method_59_code,
    Lib.HandJ.method "ahead" "(IIIII)I" [.int, .int, .int, .int, .int] (some .int) 0x1 7 prog_6_method_60_code,
    Lib.HandJ.method "sorted" "(I)Ljava/lang/String;" [.int] (some (.object "java/lang/String")) 0x1 2 prog_6_method_61_code,
    Lib.HandJ.method "nth" "(II)Ljava/lang/String;" [.int, .int] (some (.object "java/lang/String")) 0x1 7 prog_6_method_62_code,
    Lib.HandJ.method "areAlike" "(II)Z" [.int, .int] (some .boolean) 0x1 5 prog_6_method_63_code,
    Lib.HandJ.method "beyond" "(I)I" [.int] (some .int) 0x1 2 prog_6_method_64_code,
    Lib.HandJ.method "list" "(I)Ljava/lang/String;" [.int] (some (.object "java/lang/String")) 0x1 2 prog_6_method_65_code,
    Lib.HandJ.method "setNow" "()Ljava/lang/String;" [] (some (.object "java/lang/String")) 0x2 3 prog_6_method_66_code,
    Lib.HandJ.method "set" "()Ljava/lang/String;" [] (some (.object "java/lang/String")) 0x1 1 prog_6_method_67_code,
    Lib.HandJ.method "houseNow" "(I)I" [.int] (some .int) 0x2 4 prog_6_method_68_code,
    Lib.HandJ.method "house" "(I)I" [.int] (some .int) 0x1 2 prog_6_method_69_code,
    Lib.HandJ.method "knock" "()I" [] (some .int) 0x1 1 prog_6_method_70_code,
    Lib.HandJ.method "isSound" "()Z" [] (some .boolean) 0x1 1 prog_6_method_71_code,
    Lib.HandJ.method "add" "(J)V" [.long] none 0x2 3 prog_6_method_72_code,
    Lib.HandJ.method "addText" "(Ljava/lang/String;)V" [.object "java/lang/String"] none 0x2 3 prog_6_method_73_code,
    Lib.HandJ.method "digest" "()J" [] (some .long) 0x1 3 prog_6_method_74_code] }
def start1.c7 : Class := { su_own "LeastbagLaw$Out" 0x30
    [(1, 1, "java/lang/Object", "<init>", "()V", 1, 0)]
    [("n", .long, 0x2), ("s", .object "java/lang/String", 0x2)] (Lib.HandJ.method "<init>" "()V" [] none 0x2 1 prog_5_method_1_code) with
  methods := #[Lib.HandJ.method "<init>" "()V" [] none 0x2 1 prog_5_method_1_code],
  nestHost := some 0 }
def start1.c8 : Class := { su_own "java/util/Objects" 0x31
    [(1, 105, "jdk/internal/util/Preconditions", "checkIndex", "(IILjava/util/function/BiFunction;)I", 9, 0)]
    [] (Lib.HandJ.method "checkIndex" "(II)I" [.int, .int] (some .int) 0x9 2 prog_39_method_17_code) with
  methods := #[Lib.HandJ.method "checkIndex" "(II)I" [.int, .int] (some .int) 0x9 2 prog_39_method_17_code] }
def start1.c9 : Class := { su_own "jdk/internal/util/Preconditions" 0x21
    []
    [] (Lib.HandJ.method "checkIndex" "(IILjava/util/function/BiFunction;)I" [.int, .int, .object "java/util/function/BiFunction"] (some .int) 0x9 3 prog_43_method_11_code) with
  methods := #[Lib.HandJ.method "checkIndex" "(IILjava/util/function/BiFunction;)I" [.int, .int, .object "java/util/function/BiFunction"] (some .int) 0x9 3 prog_43_method_11_code,
    Lib.HandJ.method "checkFromToIndex" "(IIILjava/util/function/BiFunction;)I" [.int, .int, .int, .object "java/util/function/BiFunction"] (some .int) 0x9 4 prog_43_method_12_code,
    Lib.HandJ.method "checkFromIndexSize" "(IIILjava/util/function/BiFunction;)I" [.int, .int, .int, .object "java/util/function/BiFunction"] (some .int) 0x9 4 prog_43_method_13_code],
  fields := (Lib.HandW.fieldsFrom [] 0).toArray ++ #[{ name := "SIOOBE_FORMATTER", type := .object "java/util/function/BiFunction", accessFlags := 0x19, slot := 0, constantValue := 0 }, { name := "AIOOBE_FORMATTER", type := .object "java/util/function/BiFunction", accessFlags := 0x19, slot := 1, constantValue := 0 }, { name := "IOOBE_FORMATTER", type := .object "java/util/function/BiFunction", accessFlags := 0x19, slot := 2, constantValue := 0 }],
  staticTypes := #[.object "java/util/function/BiFunction", .object "java/util/function/BiFunction", .object "java/util/function/BiFunction"],
  statics := some 2 }
def start1.c10 : Class := { su_own "jdk/internal/util/ArraysSupport" 0x21
    [(1, 194, "java/lang/Math", "max", "(II)I", 11, 0),
     (5, 200, "", "", "", 2147483639, 0),
     (1, 201, "jdk/internal/util/ArraysSupport", "hugeLength", "(II)I", 10, 1)]
    [] (Lib.HandJ.method "newLength" "(III)I" [.int, .int, .int] (some .int) 0x9 4 prog_42_method_27_code) with
  methods := #[Lib.HandJ.method "newLength" "(III)I" [.int, .int, .int] (some .int) 0x9 4 prog_42_method_27_code,
    Lib.HandJ.method "hugeLength" "(II)I" [.int, .int] (some .int) 0xa 3 prog_42_method_28_code] }
def start1.c11 : Class := { su_own "java/lang/Math" 0x31
    []
    [] (Lib.HandJ.method "max" "(II)I" [.int, .int] (some .int) 0x9 2 prog_21_method_65_code) with
  methods := #[Lib.HandJ.method "max" "(II)I" [.int, .int] (some .int) 0x9 2 prog_21_method_65_code,
    Lib.HandJ.method "min" "(II)I" [.int, .int] (some .int) 0x9 2 prog_21_method_69_code] }
def start1.c12 : Class := suRes [(477, .cls 47)] <| { su_own "java/util/Arrays" 0x31
    [(2, 2, "java/lang/Object", "", "", 1, 0),
     (1, 13, "java/util/Arrays", "rangeCheck", "(III)V", 12, 0),
     (2, 43, "java/lang/IllegalArgumentException", "", "", 39, 0),
     (2, 45, "java/lang/StringBuilder", "", "", 30, 0),
     (1, 47, "java/lang/StringBuilder", "<init>", "()V", 30, 0),
     (3, 48, "", "fromIndex(", "", 272, 0),
     (1, 50, "java/lang/StringBuilder", "append", "(Ljava/lang/String;)Ljava/lang/StringBuilder;", 30, 1),
     (1, 54, "java/lang/StringBuilder", "append", "(I)Ljava/lang/StringBuilder;", 30, 3),
     (3, 57, "", ") > toIndex(", "", 274, 0),
     (3, 59, "", ")", "", 276, 0),
     (1, 61, "java/lang/StringBuilder", "toString", "()Ljava/lang/String;", 30, 4),
     (1, 65, "java/lang/IllegalArgumentException", "<init>", "(Ljava/lang/String;)V", 39, 0),
     (2, 68, "java/lang/ArrayIndexOutOfBoundsException", "", "", 43, 0),
     (1, 70, "java/lang/ArrayIndexOutOfBoundsException", "<init>", "(I)V", 43, 0),
     (1, 86, "java/lang/Object", "getClass", "()Ljava/lang/Class;", 1, 2),
     (2, 110, "[Ljava/lang/Object;", "", "", 51, 0),
     (1, 150, "java/lang/System", "arraycopy", "(Ljava/lang/Object;ILjava/lang/Object;II)V", 13, 0),
     (1, 300, "java/util/Arrays", "copyOf", "([Ljava/lang/Object;ILjava/lang/Class;)[Ljava/lang/Object;", 12, 3),
     (1, 304, "java/lang/Math", "min", "(II)I", 11, 1),
     (1, 310, "[B", "clone", "()Ljava/lang/Object;", 1, 1),
     (2, 311, "[B", "", "", 47, 0),
     (3, 337, "", " > ", "", 270, 0),
     (1, 339, "java/util/Arrays", "copyOfRangeByte", "([BII)[B", 12, 7),
     (1, 343, "java/util/Arrays", "checkLength", "(II)V", 12, 5)]
    [] (Lib.HandJ.method "rangeCheck" "(III)V" [.int, .int, .int] none 0x8 3 prog_36_method_30_code) with
  methods := #[Lib.HandJ.method "rangeCheck" "(III)V" [.int, .int, .int] none 0x8 3 prog_36_method_30_code,
    Lib.HandJ.method "fill" "([BIIB)V" [.array .byte, .int, .int, .byte] none 0x9 5 prog_36_method_110_code,
    Lib.HandJ.method "copyOf" "([Ljava/lang/Object;I)[Ljava/lang/Object;" [.array (.object "java/lang/Object"), .int] (some (.array (.object "java/lang/Object"))) 0x9 2 prog_36_method_119_code,
    Lib.HandJ.method "copyOf" "([Ljava/lang/Object;ILjava/lang/Class;)[Ljava/lang/Object;" [.array (.object "java/lang/Object"), .int, .object "java/lang/Class"] (some (.array (.object "java/lang/Object"))) 0x9 4 prog_36_method_120_code,
    Lib.HandJ.method "copyOf" "([BI)[B" [.array .byte, .int] (some (.array .byte)) 0x9 3 prog_36_method_121_code,
    Lib.HandJ.method "checkLength" "(II)V" [.int, .int] none 0xa 2 prog_36_method_131_code,
    Lib.HandJ.method "copyOfRange" "([BII)[B" [.array .byte, .int, .int] (some (.array .byte)) 0x9 3 prog_36_method_132_code,
    Lib.HandJ.method "copyOfRangeByte" "([BII)[B" [.array .byte, .int, .int] (some (.array .byte)) 0xa 5 prog_36_method_133_code] }
def start1.c13 : Class := { su_own "java/lang/System" 0x31
    []
    [] ({ name := "arraycopy", desc := "(Ljava/lang/Object;ILjava/lang/Object;II)V", sig := { parameters := [.object "java/lang/Object", .int, .object "java/lang/Object", .int, .int], returnType := none }, accessFlags := 0x109, code := none }) with
  methods := #[{ name := "arraycopy", desc := "(Ljava/lang/Object;ILjava/lang/Object;II)V", sig := { parameters := [.object "java/lang/Object", .int, .object "java/lang/Object", .int, .int], returnType := none }, accessFlags := 0x109, code := none }] }
def start1.c14 : Class := { su_own "java/lang/StringLatin1" 0x30
    [(2, 1, "java/lang/String", "", "", 26, 0),
     (1, 9, "java/lang/String", "checkIndex", "(II)V", 26, 11),
     (1, 112, "java/lang/String", "<init>", "([BB)V", 26, 8),
     (3, 151, "", "", "", 296, 0),
     (1, 232, "java/util/Arrays", "copyOfRange", "([BII)[B", 12, 6),
     (1, 236, "java/util/Arrays", "fill", "([BIIB)V", 12, 1),
     (1, 240, "java/lang/StringUTF16", "inflate", "([BI[BII)V", 5, 14)]
    [] (Lib.HandJ.method "charAt" "([BI)C" [.array .byte, .int] (some .char) 0x9 2 prog_27_method_2_code) with
  methods := #[Lib.HandJ.method "charAt" "([BI)C" [.array .byte, .int] (some .char) 0x9 2 prog_27_method_2_code,
    Lib.HandJ.method "canEncode" "(C)Z" [.char] (some .boolean) 0x9 1 prog_27_method_3_code,
    Lib.HandJ.method "equals" "([B[B)Z" [.array .byte, .array .byte] (some .boolean) 0x9 3 prog_27_method_13_code,
    Lib.HandJ.method "newString" "([BII)Ljava/lang/String;" [.array .byte, .int, .int] (some (.object "java/lang/String")) 0x9 3 prog_27_method_47_code,
    Lib.HandJ.method "fillNull" "([BII)V" [.array .byte, .int, .int] none 0x9 3 prog_27_method_48_code,
    Lib.HandJ.method "inflate" "([BI[BII)V" [.array .byte, .int, .array .byte, .int, .int] none 0x9 5 prog_27_method_50_code] }
def start1.c15 : Class := { su_own "java/lang/Integer$IntegerCache" 0x30
    []
    [] mLaw with
  methods := #[],
  fields := (Lib.HandW.fieldsFrom [] 0).toArray ++ #[{ name := "low", type := .int, accessFlags := 0x18, slot := 0, constantValue := 0 }, { name := "high", type := .int, accessFlags := 0x18, slot := 1, constantValue := 0 }, { name := "cache", type := .array (.object "java/lang/Integer"), accessFlags := 0x18, slot := 2, constantValue := 0 }, { name := "archivedCache", type := .array (.object "java/lang/Integer"), accessFlags := 0x8, slot := 3, constantValue := 0 }, { name := "$assertionsDisabled", type := .boolean, accessFlags := 0x1018, slot := 4, constantValue := 0 }],
  staticTypes := #[.int, .int, .array (.object "java/lang/Integer"), .array (.object "java/lang/Integer"), .boolean],
  statics := some 3 }
def start1.c16 : Class := { su_own "java/lang/Cloneable" 0x601
    []
    [] mLaw with
  methods := #[] }
def start1.c17 : Class := { su_own "java/lang/Appendable" 0x601
    []
    [] mLaw with
  methods := #[] }
def start1.c18 : Class := { su_own "java/lang/CharSequence" 0x601
    []
    [] mLaw with
  methods := #[] }
def start1.c19 : Class := { su_own "java/io/Serializable" 0x601
    []
    [] mLaw with
  methods := #[] }
def start1.c20 : Class := { su_own "java/lang/Comparable" 0x601
    []
    [] mLaw with
  methods := #[] }
def start1.c21 : Class := { su_own "java/lang/constant/Constable" 0x601
    []
    [] mLaw with
  methods := #[] }
def start1.c22 : Class := { su_own "java/lang/constant/ConstantDesc" 0x601
    []
    [] mLaw with
  methods := #[] }
def start1.c23 : Class := { su_own "java/util/RandomAccess" 0x601
    []
    [] mLaw with
  methods := #[] }
def start1.c24 : Class := { su_own "java/lang/Iterable" 0x601
    []
    [] mLaw with
  methods := #[] }
def start1.c25 : Class := { su_own "java/lang/AbstractStringBuilder" 0x420
    [(1, 3, "java/lang/Object", "<init>", "()V", 1, 0),
     (0, 15, "java/lang/AbstractStringBuilder", "value", "[B", 25, 0),
     (0, 18, "java/lang/String", "COMPACT_STRINGS", "Z", 26, 5),
     (0, 22, "java/lang/AbstractStringBuilder", "coder", "B", 25, 1),
     (1, 26, "java/lang/StringUTF16", "newBytesFor", "(I)[B", 5, 0),
     (1, 32, "java/lang/String", "length", "()I", 26, 1),
     (5, 39, "", "", "", 2147483647, 0),
     (1, 40, "java/lang/String", "coder", "()B", 26, 9),
     (0, 73, "java/lang/AbstractStringBuilder", "maybeLatin1", "Z", 25, 2),
     (0, 79, "java/lang/AbstractStringBuilder", "count", "I", 25, 3),
     (1, 83, "java/lang/AbstractStringBuilder", "isLatin1", "()Z", 25, 12),
     (1, 100, "java/lang/AbstractStringBuilder", "ensureCapacityInternal", "(I)V", 25, 2),
     (1, 104, "java/lang/AbstractStringBuilder", "newCapacity", "(I)I", 25, 3),
     (1, 108, "java/util/Arrays", "copyOf", "([BI)[B", 12, 4),
     (1, 114, "jdk/internal/util/ArraysSupport", "newLength", "(III)I", 10, 0),
     (1, 125, "java/lang/StringLatin1", "inflate", "([BI[BII)V", 14, 5),
     (2, 129, "java/lang/StringIndexOutOfBoundsException", "", "", 42, 0),
     (1, 131, "java/lang/StringIndexOutOfBoundsException", "<init>", "(I)V", 42, 0),
     (1, 133, "java/lang/StringLatin1", "fillNull", "([BII)V", 14, 4),
     (1, 137, "java/lang/StringUTF16", "fillNull", "([BII)V", 5, 9),
     (1, 138, "java/lang/Math", "min", "(II)I", 11, 1),
     (1, 144, "java/lang/String", "checkIndex", "(II)V", 26, 11),
     (1, 148, "java/lang/StringUTF16", "getChar", "([BI)C", 5, 3),
     (1, 191, "java/lang/StringLatin1", "canEncode", "(C)Z", 14, 1),
     (1, 195, "java/lang/AbstractStringBuilder", "inflate", "()V", 25, 4),
     (1, 197, "java/lang/StringUTF16", "putCharSB", "([BII)V", 5, 10),
     (1, 204, "java/lang/AbstractStringBuilder", "appendNull", "()Ljava/lang/AbstractStringBuilder;", 25, 8),
     (1, 208, "java/lang/AbstractStringBuilder", "putStringAt", "(ILjava/lang/String;)V", 25, 14),
     (1, 226, "java/lang/StringUTF16", "putCharsAt", "([BICCCC)I", 5, 12),
     (1, 245, "java/lang/Integer", "stringSize", "(I)I", 33, 1),
     (1, 248, "java/lang/Integer", "getChars", "(II[B)I", 33, 0),
     (1, 251, "java/lang/StringUTF16", "getChars", "(III[B)I", 5, 11),
     (1, 397, "java/lang/AbstractStringBuilder", "inflateIfNeededFor", "(Ljava/lang/String;)V", 25, 13),
     (1, 399, "java/lang/String", "getBytes", "([BIB)V", 26, 6)]
    [("value", .array .byte, 0x0), ("coder", .byte, 0x0), ("maybeLatin1", .boolean, 0x0), ("count", .int, 0x0)] (Lib.HandJ.method "<init>" "(I)V" [.int] none 0x0 2 prog_8_method_2_code) with
  methods := #[Lib.HandJ.method "<init>" "(I)V" [.int] none 0x0 2 prog_8_method_2_code,
    Lib.HandJ.method "length" "()I" [] (some .int) 0x1 1 prog_8_method_6_code,
    Lib.HandJ.method "ensureCapacityInternal" "(I)V" [.int] none 0x2 3 prog_8_method_9_code,
    Lib.HandJ.method "newCapacity" "(I)I" [.int] (some .int) 0x2 6 prog_8_method_10_code,
    Lib.HandJ.method "inflate" "()V" [] none 0x2 2 prog_8_method_11_code,
    Lib.HandJ.method "setLength" "(I)V" [.int] none 0x1 2 prog_8_method_13_code,
    Lib.HandJ.method "charAt" "(I)C" [.int] (some .char) 0x1 5 prog_8_method_14_code,
    Lib.HandJ.method "append" "(Ljava/lang/String;)Ljava/lang/AbstractStringBuilder;" [.object "java/lang/String"] (some (.object "java/lang/AbstractStringBuilder")) 0x1 3 prog_8_method_22_code,
    Lib.HandJ.method "appendNull" "()Ljava/lang/AbstractStringBuilder;" [] (some (.object "java/lang/AbstractStringBuilder")) 0x2 3 prog_8_method_26_code,
    Lib.HandJ.method "append" "(C)Ljava/lang/AbstractStringBuilder;" [.char] (some (.object "java/lang/AbstractStringBuilder")) 0x1 2 prog_8_method_31_code,
    Lib.HandJ.method "append" "(I)Ljava/lang/AbstractStringBuilder;" [.int] (some (.object "java/lang/AbstractStringBuilder")) 0x1 4 prog_8_method_32_code,
    Lib.HandJ.method "getValue" "()[B" [] (some (.array .byte)) 0x10 1 prog_8_method_64_code,
    Lib.HandJ.method "isLatin1" "()Z" [] (some .boolean) 0x10 1 prog_8_method_68_code,
    Lib.HandJ.method "inflateIfNeededFor" "(Ljava/lang/String;)V" [.object "java/lang/String"] none 0x2 2 prog_8_method_71_code,
    Lib.HandJ.method "putStringAt" "(ILjava/lang/String;)V" [.int, .object "java/lang/String"] none 0x2 3 prog_8_method_73_code],
  interfaces := #[17, 18] }
def start1.c26 : Class := { su_own "java/lang/String" 0x31
    [(1, 1, "java/lang/Object", "<init>", "()V", 1, 0),
     (0, 9, "java/lang/String", "value", "[B", 26, 0),
     (2, 10, "java/lang/String", "", "", 26, 0),
     (0, 15, "java/lang/String", "coder", "B", 26, 1),
     (0, 38, "java/lang/String", "COMPACT_STRINGS", "Z", 26, 5),
     (1, 47, "java/lang/StringUTF16", "coderFromArrayLen", "([BI)B", 5, 5),
     (1, 54, "java/util/Arrays", "copyOfRange", "([BII)[B", 12, 6),
     (1, 106, "java/lang/StringLatin1", "inflate", "([BI[BII)V", 14, 5),
     (1, 212, "java/lang/System", "arraycopy", "(Ljava/lang/Object;ILjava/lang/Object;II)V", 13, 0),
     (1, 335, "java/lang/String", "coder", "()B", 26, 9),
     (1, 489, "java/lang/String", "<init>", "(Ljava/lang/AbstractStringBuilder;Ljava/lang/Void;)V", 26, 7),
     (1, 492, "java/lang/String", "isLatin1", "()Z", 26, 10),
     (1, 495, "java/lang/StringLatin1", "charAt", "([BI)C", 14, 0),
     (1, 498, "java/lang/StringUTF16", "charAt", "([BI)C", 5, 13),
     (1, 505, "java/lang/String", "length", "()I", 26, 1),
     (1, 521, "java/lang/String", "checkBoundsBeginEnd", "(III)V", 26, 13),
     (1, 541, "java/lang/StringLatin1", "equals", "([B[B)Z", 14, 2),
     (1, 549, "java/lang/AbstractStringBuilder", "length", "()I", 25, 1),
     (1, 552, "java/lang/AbstractStringBuilder", "getValue", "()[B", 25, 11),
     (1, 685, "java/lang/StringLatin1", "newString", "([BII)Ljava/lang/String;", 14, 3),
     (1, 689, "java/lang/StringUTF16", "newString", "([BII)Ljava/lang/String;", 5, 8),
     (1, 1047, "java/lang/AbstractStringBuilder", "isLatin1", "()Z", 25, 12),
     (0, 1048, "java/lang/AbstractStringBuilder", "maybeLatin1", "Z", 25, 2),
     (1, 1051, "java/lang/StringUTF16", "compress", "([BII)[B", 5, 6),
     (0, 1053, "jdk/internal/util/Preconditions", "SIOOBE_FORMATTER", "Ljava/util/function/BiFunction;", 9, 0),
     (1, 1059, "jdk/internal/util/Preconditions", "checkIndex", "(IILjava/util/function/BiFunction;)I", 9, 0),
     (1, 1062, "jdk/internal/util/Preconditions", "checkFromToIndex", "(IIILjava/util/function/BiFunction;)I", 9, 1),
     (1, 1065, "jdk/internal/util/Preconditions", "checkFromIndexSize", "(IIILjava/util/function/BiFunction;)I", 9, 2)]
    [("value", .array .byte, 0x12), ("coder", .byte, 0x12), ("hash", .int, 0x2), ("hashIsZero", .boolean, 0x2)] (Lib.HandJ.method "<init>" "(Ljava/lang/StringBuilder;)V" [.object "java/lang/StringBuilder"] none 0x1 2 prog_24_method_53_code) with
  methods := #[Lib.HandJ.method "<init>" "(Ljava/lang/StringBuilder;)V" [.object "java/lang/StringBuilder"] none 0x1 2 prog_24_method_53_code,
    Lib.HandJ.method "length" "()I" [] (some .int) 0x1 1 prog_24_method_54_code,
    Lib.HandJ.method "isEmpty" "()Z" [] (some .boolean) 0x1 1 prog_24_method_55_code,
    Lib.HandJ.method "charAt" "(I)C" [.int] (some .char) 0x1 2 prog_24_method_56_code,
    Lib.HandJ.method "equals" "(Ljava/lang/Object;)Z" [.object "java/lang/Object"] (some .boolean) 0x1 3 prog_24_method_66_code,
    Lib.HandJ.method "substring" "(II)Ljava/lang/String;" [.int, .int] (some (.object "java/lang/String")) 0x1 5 prog_24_method_92_code,
    Lib.HandJ.method "getBytes" "([BIB)V" [.array .byte, .int, .byte] none 0x0 4 prog_24_method_147_code,
    Lib.HandJ.method "<init>" "(Ljava/lang/AbstractStringBuilder;Ljava/lang/Void;)V" [.object "java/lang/AbstractStringBuilder", .object "java/lang/Void"] none 0x0 5 prog_24_method_150_code,
    Lib.HandJ.method "<init>" "([BB)V" [.array .byte, .byte] none 0x0 3 prog_24_method_151_code,
    Lib.HandJ.method "coder" "()B" [] (some .byte) 0x0 1 prog_24_method_152_code,
    Lib.HandJ.method "isLatin1" "()Z" [] (some .boolean) 0x0 1 prog_24_method_154_code,
    Lib.HandJ.method "checkIndex" "(II)V" [.int, .int] none 0x8 2 prog_24_method_155_code,
    Lib.HandJ.method "checkBoundsOffCount" "(III)I" [.int, .int, .int] (some .int) 0x8 3 prog_24_method_157_code,
    Lib.HandJ.method "checkBoundsBeginEnd" "(III)V" [.int, .int, .int] none 0x8 3 prog_24_method_158_code],
  interfaces := #[19, 20, 18, 21, 22],
  fields := (Lib.HandW.fieldsFrom [("value", .array .byte, 0x12), ("coder", .byte, 0x12), ("hash", .int, 0x2), ("hashIsZero", .boolean, 0x2)] 0).toArray ++ #[{ name := "serialVersionUID", type := .long, accessFlags := 0x1a, slot := 0, constantValue := 0 }, { name := "COMPACT_STRINGS", type := .boolean, accessFlags := 0x18, slot := 1, constantValue := 0 }, { name := "serialPersistentFields", type := .array (.object "java/io/ObjectStreamField"), accessFlags := 0x1a, slot := 2, constantValue := 0 }, { name := "REPL", type := .char, accessFlags := 0x1a, slot := 3, constantValue := 0 }, { name := "CASE_INSENSITIVE_ORDER", type := .object "java/util/Comparator", accessFlags := 0x19, slot := 4, constantValue := 0 }, { name := "LATIN1", type := .byte, accessFlags := 0x18, slot := 5, constantValue := 0 }, { name := "UTF16", type := .byte, accessFlags := 0x18, slot := 6, constantValue := 0 }],
  staticTypes := #[.long, .boolean, .array (.object "java/io/ObjectStreamField"), .char, .object "java/util/Comparator", .byte, .byte],
  statics := some 4 }
def start1.c27 : Class := { su_own "java/lang/Throwable" 0x21
    [(1, 1, "java/lang/Object", "<init>", "()V", 1, 0),
     (0, 7, "java/lang/Throwable", "cause", "Ljava/lang/Throwable;", 27, 2),
     (0, 13, "java/lang/Throwable", "UNASSIGNED_STACK", "[Ljava/lang/StackTraceElement;", 27, 7),
     (0, 17, "java/lang/Throwable", "stackTrace", "[Ljava/lang/StackTraceElement;", 27, 3),
     (0, 20, "java/lang/Throwable", "SUPPRESSED_SENTINEL", "Ljava/util/List;", 27, 8),
     (0, 24, "java/lang/Throwable", "suppressedExceptions", "Ljava/util/List;", 27, 5),
     (1, 27, "java/lang/Throwable", "fillInStackTrace", "()Ljava/lang/Throwable;", 27, 2),
     (0, 31, "java/lang/Throwable", "detailMessage", "Ljava/lang/String;", 27, 1),
     (0, 198, "java/lang/Throwable", "backtrace", "Ljava/lang/Object;", 27, 0),
     (1, 202, "java/lang/Throwable", "fillInStackTrace", "(I)Ljava/lang/Throwable;", 27, 3)]
    [("backtrace", .object "java/lang/Object", 0x82), ("detailMessage", .object "java/lang/String", 0x2), ("cause", .object "java/lang/Throwable", 0x2), ("stackTrace", .array (.object "java/lang/StackTraceElement"), 0x2), ("depth", .int, 0x82), ("suppressedExceptions", .object "java/util/List", 0x2)] (Lib.HandJ.method "<init>" "()V" [] none 0x1 1 prog_30_method_1_code) with
  methods := #[Lib.HandJ.method "<init>" "()V" [] none 0x1 1 prog_30_method_1_code,
    Lib.HandJ.method "<init>" "(Ljava/lang/String;)V" [.object "java/lang/String"] none 0x1 2 prog_30_method_2_code,
    Lib.HandJ.method "fillInStackTrace" "()Ljava/lang/Throwable;" [] (some (.object "java/lang/Throwable")) 0x21 1 prog_30_method_18_code,
    { name := "fillInStackTrace", desc := "(I)Ljava/lang/Throwable;", sig := { parameters := [.int], returnType := some (.object "java/lang/Throwable") }, accessFlags := 0x102, code := none }],
  interfaces := #[19],
  fields := (Lib.HandW.fieldsFrom [("backtrace", .object "java/lang/Object", 0x82), ("detailMessage", .object "java/lang/String", 0x2), ("cause", .object "java/lang/Throwable", 0x2), ("stackTrace", .array (.object "java/lang/StackTraceElement"), 0x2), ("depth", .int, 0x82), ("suppressedExceptions", .object "java/util/List", 0x2)] 0).toArray ++ #[{ name := "serialVersionUID", type := .long, accessFlags := 0x1a, slot := 0, constantValue := 0 }, { name := "UNASSIGNED_STACK", type := .array (.object "java/lang/StackTraceElement"), accessFlags := 0x1a, slot := 1, constantValue := 0 }, { name := "SUPPRESSED_SENTINEL", type := .object "java/util/List", accessFlags := 0x1a, slot := 2, constantValue := 0 }, { name := "NULL_CAUSE_MESSAGE", type := .object "java/lang/String", accessFlags := 0x1a, slot := 3, constantValue := 0 }, { name := "SELF_SUPPRESSION_MESSAGE", type := .object "java/lang/String", accessFlags := 0x1a, slot := 4, constantValue := 0 }, { name := "CAUSE_CAPTION", type := .object "java/lang/String", accessFlags := 0x1a, slot := 5, constantValue := 0 }, { name := "SUPPRESSED_CAPTION", type := .object "java/lang/String", accessFlags := 0x1a, slot := 6, constantValue := 0 }, { name := "EMPTY_THROWABLE_ARRAY", type := .array (.object "java/lang/Throwable"), accessFlags := 0x1a, slot := 7, constantValue := 0 }, { name := "$assertionsDisabled", type := .boolean, accessFlags := 0x1018, slot := 8, constantValue := 0 }],
  staticTypes := #[.long, .array (.object "java/lang/StackTraceElement"), .object "java/util/List", .object "java/lang/String", .object "java/lang/String", .object "java/lang/String", .object "java/lang/String", .array (.object "java/lang/Throwable"), .boolean],
  statics := some 5 }
def start1.c28 : Class := { su_own "java/lang/Number" 0x421
    [(1, 1, "java/lang/Object", "<init>", "()V", 1, 0)]
    [] (Lib.HandJ.method "<init>" "()V" [] none 0x1 1 prog_22_method_1_code) with
  methods := #[Lib.HandJ.method "<init>" "()V" [] none 0x1 1 prog_22_method_1_code],
  interfaces := #[19] }
def start1.c29 : Class := { su_own "java/util/Collection" 0x601
    []
    [] mLaw with
  methods := #[],
  interfaces := #[24] }
def start1.c30 : Class := { su_own "java/lang/StringBuilder" 0x31
    [(1, 1, "java/lang/AbstractStringBuilder", "<init>", "(I)V", 25, 0),
     (2, 18, "java/lang/String", "", "", 26, 0),
     (1, 29, "java/lang/AbstractStringBuilder", "append", "(Ljava/lang/String;)Ljava/lang/AbstractStringBuilder;", 25, 7),
     (1, 50, "java/lang/AbstractStringBuilder", "append", "(C)Ljava/lang/AbstractStringBuilder;", 25, 9),
     (1, 53, "java/lang/AbstractStringBuilder", "append", "(I)Ljava/lang/AbstractStringBuilder;", 25, 10),
     (1, 137, "java/lang/String", "<init>", "(Ljava/lang/StringBuilder;)V", 26, 0),
     (1, 329, "java/lang/AbstractStringBuilder", "charAt", "(I)C", 25, 6),
     (1, 333, "java/lang/AbstractStringBuilder", "setLength", "(I)V", 25, 5),
     (1, 343, "java/lang/AbstractStringBuilder", "length", "()I", 25, 1)]
    [] (Lib.HandJ.method "<init>" "()V" [] none 0x1 1 prog_25_method_1_code) with
  methods := #[Lib.HandJ.method "<init>" "()V" [] none 0x1 1 prog_25_method_1_code,
    Lib.HandJ.method "append" "(Ljava/lang/String;)Ljava/lang/StringBuilder;" [.object "java/lang/String"] (some (.object "java/lang/StringBuilder")) 0x1 2 prog_25_method_7_code,
    Lib.HandJ.method "append" "(C)Ljava/lang/StringBuilder;" [.char] (some (.object "java/lang/StringBuilder")) 0x1 2 prog_25_method_14_code,
    Lib.HandJ.method "append" "(I)Ljava/lang/StringBuilder;" [.int] (some (.object "java/lang/StringBuilder")) 0x1 2 prog_25_method_15_code,
    Lib.HandJ.method "toString" "()Ljava/lang/String;" [] (some (.object "java/lang/String")) 0x1 1 prog_25_method_42_code,
    Lib.HandJ.method "charAt" "(I)C" [.int] (some .char) 0x1041 2 prog_25_method_88_code,
    Lib.HandJ.method "setLength" "(I)V" [.int] none 0x1041 2 prog_25_method_89_code,
    Lib.HandJ.method "length" "()I" [] (some .int) 0x1041 1 prog_25_method_93_code],
  interfaces := #[17, 19, 20, 18],
  super := some 25,
  instanceTypes := #[.array .byte, .byte, .boolean, .int],
  fields := (Lib.HandW.fieldsFrom [] 4).toArray }
def start1.c31 : Class := { su_own "java/util/AbstractCollection" 0x421
    [(1, 1, "java/lang/Object", "<init>", "()V", 1, 0)]
    [] (Lib.HandJ.method "<init>" "()V" [] none 0x4 1 prog_33_method_1_code) with
  methods := #[Lib.HandJ.method "<init>" "()V" [] none 0x4 1 prog_33_method_1_code],
  interfaces := #[29] }
def start1.c32 : Class := { su_own "java/lang/Exception" 0x21
    [(1, 7, "java/lang/Throwable", "<init>", "(Ljava/lang/String;)V", 27, 1)]
    [] ({ name := "<init>", desc := "()V", sig := { parameters := [], returnType := none }, accessFlags := 0x1, code := none }) with
  methods := #[{ name := "<init>", desc := "()V", sig := { parameters := [], returnType := none }, accessFlags := 0x1, code := none },
    Lib.HandJ.method "<init>" "(Ljava/lang/String;)V" [.object "java/lang/String"] none 0x1 2 prog_14_method_2_code],
  super := some 27,
  instanceTypes := #[.object "java/lang/Object", .object "java/lang/String", .object "java/lang/Throwable", .array (.object "java/lang/StackTraceElement"), .int, .object "java/util/List"],
  fields := (Lib.HandW.fieldsFrom [] 6).toArray }
def start1.c33 : Class := { su_own "java/lang/Integer" 0x31
    [(2, 1, "java/lang/Integer", "", "", 33, 0),
     (0, 83, "java/lang/Integer", "DigitOnes", "[B", 33, 6),
     (0, 87, "java/lang/Integer", "DigitTens", "[B", 33, 5),
     (0, 191, "java/lang/Integer$IntegerCache", "high", "I", 15, 1),
     (0, 195, "java/lang/Integer$IntegerCache", "cache", "[Ljava/lang/Integer;", 15, 2),
     (1, 199, "java/lang/Integer", "<init>", "(I)V", 33, 3),
     (1, 202, "java/lang/Number", "<init>", "()V", 28, 0),
     (0, 205, "java/lang/Integer", "value", "I", 33, 0)]
    [("value", .int, 0x12)] (Lib.HandJ.method "getChars" "(II[B)I" [.int, .int, .array .byte] (some .int) 0x8 7 prog_18_method_12_code) with
  methods := #[Lib.HandJ.method "getChars" "(II[B)I" [.int, .int, .array .byte] (some .int) 0x8 7 prog_18_method_12_code,
    Lib.HandJ.method "stringSize" "(I)I" [.int] (some .int) 0x8 4 prog_18_method_13_code,
    Lib.HandJ.method "valueOf" "(I)Ljava/lang/Integer;" [.int] (some (.object "java/lang/Integer")) 0x9 1 prog_18_method_22_code,
    Lib.HandJ.method "<init>" "(I)V" [.int] none 0x1 2 prog_18_method_23_code,
    Lib.HandJ.method "intValue" "()I" [] (some .int) 0x1 1 prog_18_method_27_code],
  interfaces := #[20, 21, 22],
  super := some 28,
  instanceTypes := #[.int],
  fields := (Lib.HandW.fieldsFrom [("value", .int, 0x12)] 0).toArray ++ #[{ name := "MIN_VALUE", type := .int, accessFlags := 0x19, slot := 0, constantValue := 0 }, { name := "MAX_VALUE", type := .int, accessFlags := 0x19, slot := 1, constantValue := 0 }, { name := "TYPE", type := .object "java/lang/Class", accessFlags := 0x19, slot := 2, constantValue := 0 }, { name := "digits", type := .array .char, accessFlags := 0x18, slot := 3, constantValue := 0 }, { name := "DigitTens", type := .array .byte, accessFlags := 0x18, slot := 4, constantValue := 0 }, { name := "DigitOnes", type := .array .byte, accessFlags := 0x18, slot := 5, constantValue := 0 }, { name := "SIZE", type := .int, accessFlags := 0x19, slot := 6, constantValue := 0 }, { name := "BYTES", type := .int, accessFlags := 0x19, slot := 7, constantValue := 0 }, { name := "serialVersionUID", type := .long, accessFlags := 0x1a, slot := 8, constantValue := 0 }],
  staticTypes := #[.int, .int, .object "java/lang/Class", .array .char, .array .byte, .array .byte, .int, .int, .long],
  statics := some 6 }
def start1.c34 : Class := { su_own "java/util/SequencedCollection" 0x601
    []
    [] mLaw with
  methods := #[],
  interfaces := #[29] }
def start1.c35 : Class := { su_own "java/lang/RuntimeException" 0x21
    [(1, 7, "java/lang/Exception", "<init>", "(Ljava/lang/String;)V", 32, 1)]
    [] ({ name := "<init>", desc := "()V", sig := { parameters := [], returnType := none }, accessFlags := 0x1, code := none }) with
  methods := #[{ name := "<init>", desc := "()V", sig := { parameters := [], returnType := none }, accessFlags := 0x1, code := none },
    Lib.HandJ.method "<init>" "(Ljava/lang/String;)V" [.object "java/lang/String"] none 0x1 2 prog_23_method_2_code],
  super := some 32,
  instanceTypes := #[.object "java/lang/Object", .object "java/lang/String", .object "java/lang/Throwable", .array (.object "java/lang/StackTraceElement"), .int, .object "java/util/List"],
  fields := (Lib.HandW.fieldsFrom [] 6).toArray }
def start1.c36 : Class := { su_own "java/util/List" 0x601
    []
    [] mLaw with
  methods := #[],
  interfaces := #[34] }
def start1.c37 : Class := { su_own "java/util/AbstractList" 0x421
    [(1, 1, "java/util/AbstractCollection", "<init>", "()V", 31, 0),
     (0, 7, "java/util/AbstractList", "modCount", "I", 37, 0)]
    [("modCount", .int, 0x84)] (Lib.HandJ.method "<init>" "()V" [] none 0x4 1 prog_34_method_1_code) with
  methods := #[Lib.HandJ.method "<init>" "()V" [] none 0x4 1 prog_34_method_1_code],
  interfaces := #[36],
  super := some 31,
  instanceTypes := #[.int],
  fields := (Lib.HandW.fieldsFrom [("modCount", .int, 0x84)] 0).toArray }
def start1.c38 : Class := { su_own "java/lang/IndexOutOfBoundsException" 0x21
    [(1, 7, "java/lang/RuntimeException", "<init>", "(Ljava/lang/String;)V", 35, 1)]
    [] ({ name := "<init>", desc := "()V", sig := { parameters := [], returnType := none }, accessFlags := 0x1, code := none }) with
  methods := #[{ name := "<init>", desc := "()V", sig := { parameters := [], returnType := none }, accessFlags := 0x1, code := none },
    Lib.HandJ.method "<init>" "(Ljava/lang/String;)V" [.object "java/lang/String"] none 0x1 2 prog_17_method_2_code],
  super := some 35,
  instanceTypes := #[.object "java/lang/Object", .object "java/lang/String", .object "java/lang/Throwable", .array (.object "java/lang/StackTraceElement"), .int, .object "java/util/List"],
  fields := (Lib.HandW.fieldsFrom [] 6).toArray }
def start1.c39 : Class := { su_own "java/lang/IllegalArgumentException" 0x21
    [(1, 7, "java/lang/RuntimeException", "<init>", "(Ljava/lang/String;)V", 35, 1)]
    [] (Lib.HandJ.method "<init>" "(Ljava/lang/String;)V" [.object "java/lang/String"] none 0x1 2 prog_15_method_2_code) with
  methods := #[Lib.HandJ.method "<init>" "(Ljava/lang/String;)V" [.object "java/lang/String"] none 0x1 2 prog_15_method_2_code],
  super := some 35,
  instanceTypes := #[.object "java/lang/Object", .object "java/lang/String", .object "java/lang/Throwable", .array (.object "java/lang/StackTraceElement"), .int, .object "java/util/List"],
  fields := (Lib.HandW.fieldsFrom [] 6).toArray }
def start1.c40 : Class := { su_own "java/lang/IllegalStateException" 0x21
    [(1, 7, "java/lang/RuntimeException", "<init>", "(Ljava/lang/String;)V", 35, 1)]
    [] (Lib.HandJ.method "<init>" "(Ljava/lang/String;)V" [.object "java/lang/String"] none 0x1 2 prog_16_method_2_code) with
  methods := #[Lib.HandJ.method "<init>" "(Ljava/lang/String;)V" [.object "java/lang/String"] none 0x1 2 prog_16_method_2_code],
  super := some 35,
  instanceTypes := #[.object "java/lang/Object", .object "java/lang/String", .object "java/lang/Throwable", .array (.object "java/lang/StackTraceElement"), .int, .object "java/util/List"],
  fields := (Lib.HandW.fieldsFrom [] 6).toArray }
def start1.c41 : Class := suRes [(180, .cls 41)] <| { su_own "java/util/ArrayList" 0x21
    [(1, 1, "java/util/AbstractList", "<init>", "()V", 37, 0),
     (2, 7, "java/lang/Object", "", "", 1, 0),
     (0, 9, "java/util/ArrayList", "elementData", "[Ljava/lang/Object;", 41, 0),
     (0, 39, "java/util/ArrayList", "DEFAULTCAPACITY_EMPTY_ELEMENTDATA", "[Ljava/lang/Object;", 41, 5),
     (0, 48, "java/util/ArrayList", "size", "I", 41, 1),
     (0, 63, "java/util/ArrayList", "modCount", "I", 37, 0),
     (1, 66, "java/util/Arrays", "copyOf", "([Ljava/lang/Object;I)[Ljava/lang/Object;", 12, 2),
     (1, 69, "java/util/ArrayList", "grow", "(I)[Ljava/lang/Object;", 41, 1),
     (1, 73, "jdk/internal/util/ArraysSupport", "newLength", "(III)I", 10, 0),
     (1, 79, "java/lang/Math", "max", "(II)I", 11, 0),
     (1, 112, "java/lang/System", "arraycopy", "(Ljava/lang/Object;ILjava/lang/Object;II)V", 13, 0),
     (1, 118, "java/util/Objects", "checkIndex", "(II)I", 8, 0),
     (1, 123, "java/util/ArrayList", "elementData", "(I)Ljava/lang/Object;", 41, 4),
     (1, 129, "java/util/ArrayList", "grow", "()[Ljava/lang/Object;", 41, 2),
     (1, 131, "java/util/ArrayList", "add", "(Ljava/lang/Object;[Ljava/lang/Object;I)V", 41, 6),
     (1, 144, "java/util/ArrayList", "fastRemove", "([Ljava/lang/Object;I)V", 41, 9)]
    [("elementData", .array (.object "java/lang/Object"), 0x80), ("size", .int, 0x2)] (Lib.HandJ.method "<init>" "()V" [] none 0x1 1 prog_35_method_2_code) with
  methods := #[Lib.HandJ.method "<init>" "()V" [] none 0x1 1 prog_35_method_2_code,
    Lib.HandJ.method "grow" "(I)[Ljava/lang/Object;" [.int] (some (.array (.object "java/lang/Object"))) 0x2 4 prog_35_method_6_code,
    Lib.HandJ.method "grow" "()[Ljava/lang/Object;" [] (some (.array (.object "java/lang/Object"))) 0x2 1 prog_35_method_7_code,
    Lib.HandJ.method "size" "()I" [] (some .int) 0x1 1 prog_35_method_8_code,
    Lib.HandJ.method "elementData" "(I)Ljava/lang/Object;" [.int] (some (.object "java/lang/Object")) 0x0 2 prog_35_method_18_code,
    Lib.HandJ.method "get" "(I)Ljava/lang/Object;" [.int] (some (.object "java/lang/Object")) 0x1 2 prog_35_method_20_code,
    Lib.HandJ.method "add" "(Ljava/lang/Object;[Ljava/lang/Object;I)V" [.object "java/lang/Object", .array (.object "java/lang/Object"), .int] none 0x2 4 prog_35_method_24_code,
    Lib.HandJ.method "add" "(Ljava/lang/Object;)Z" [.object "java/lang/Object"] (some .boolean) 0x1 2 prog_35_method_25_code,
    Lib.HandJ.method "remove" "(I)Ljava/lang/Object;" [.int] (some (.object "java/lang/Object")) 0x1 4 prog_35_method_29_code,
    Lib.HandJ.method "fastRemove" "([Ljava/lang/Object;I)V" [.array (.object "java/lang/Object"), .int] none 0x2 4 prog_35_method_39_code],
  interfaces := #[36, 23, 16, 19],
  super := some 37,
  instanceTypes := #[.int, .array (.object "java/lang/Object"), .int],
  fields := (Lib.HandW.fieldsFrom [("elementData", .array (.object "java/lang/Object"), 0x80), ("size", .int, 0x2)] 1).toArray ++ #[{ name := "serialVersionUID", type := .long, accessFlags := 0x1a, slot := 0, constantValue := 0 }, { name := "DEFAULT_CAPACITY", type := .int, accessFlags := 0x1a, slot := 1, constantValue := 0 }, { name := "EMPTY_ELEMENTDATA", type := .array (.object "java/lang/Object"), accessFlags := 0x1a, slot := 2, constantValue := 0 }, { name := "DEFAULTCAPACITY_EMPTY_ELEMENTDATA", type := .array (.object "java/lang/Object"), accessFlags := 0x1a, slot := 3, constantValue := 0 }],
  staticTypes := #[.long, .int, .array (.object "java/lang/Object"), .array (.object "java/lang/Object")],
  statics := some 7 }
def start1.c42 : Class := { su_own "java/lang/StringIndexOutOfBoundsException" 0x21
    [(1, 7, "java/lang/IndexOutOfBoundsException", "<init>", "(Ljava/lang/String;)V", 38, 1),
     (2, 10, "java/lang/StringBuilder", "", "", 30, 0),
     (1, 12, "java/lang/StringBuilder", "<init>", "()V", 30, 0),
     (3, 13, "", "String index out of range: ", "", 268, 0),
     (1, 15, "java/lang/StringBuilder", "append", "(Ljava/lang/String;)Ljava/lang/StringBuilder;", 30, 1),
     (1, 19, "java/lang/StringBuilder", "append", "(I)Ljava/lang/StringBuilder;", 30, 3),
     (1, 22, "java/lang/StringBuilder", "toString", "()Ljava/lang/String;", 30, 4)]
    [] (Lib.HandJ.method "<init>" "(I)V" [.int] none 0x1 2 prog_26_method_3_code) with
  methods := #[Lib.HandJ.method "<init>" "(I)V" [.int] none 0x1 2 prog_26_method_3_code],
  super := some 38,
  instanceTypes := #[.object "java/lang/Object", .object "java/lang/String", .object "java/lang/Throwable", .array (.object "java/lang/StackTraceElement"), .int, .object "java/util/List"],
  fields := (Lib.HandW.fieldsFrom [] 6).toArray }
def start1.c43 : Class := { su_own "java/lang/ArrayIndexOutOfBoundsException" 0x21
    [(1, 7, "java/lang/IndexOutOfBoundsException", "<init>", "(Ljava/lang/String;)V", 38, 1),
     (2, 10, "java/lang/StringBuilder", "", "", 30, 0),
     (1, 12, "java/lang/StringBuilder", "<init>", "()V", 30, 0),
     (3, 13, "", "Array index out of range: ", "", 278, 0),
     (1, 15, "java/lang/StringBuilder", "append", "(Ljava/lang/String;)Ljava/lang/StringBuilder;", 30, 1),
     (1, 19, "java/lang/StringBuilder", "append", "(I)Ljava/lang/StringBuilder;", 30, 3),
     (1, 22, "java/lang/StringBuilder", "toString", "()Ljava/lang/String;", 30, 4)]
    [] (Lib.HandJ.method "<init>" "(I)V" [.int] none 0x1 2 prog_10_method_3_code) with
  methods := #[Lib.HandJ.method "<init>" "(I)V" [.int] none 0x1 2 prog_10_method_3_code],
  super := some 38,
  instanceTypes := #[.object "java/lang/Object", .object "java/lang/String", .object "java/lang/Throwable", .array (.object "java/lang/StackTraceElement"), .int, .object "java/util/List"],
  fields := (Lib.HandW.fieldsFrom [] 6).toArray }
def start1.cPrim (name : String) (ch : Char) : Class := { Lib.HandJ.cls name #[] #[] 0x411 #[] #[] #[] with kind := .primitive ch, cf := none }
def start1.cArr (name : String) (prim : Nat) (t : FieldType) : Class := { Lib.HandJ.cls name #[] #[] 0x411 #[] #[] #[] with kind := .array prim t, super := some 1, cf := none }
def start1.args0 : Array Value := #[.ref 0]
def start1.cells0 : Array Value := #[.int (-49), .int (-12), .int 25, .int 62, .int 99, .int 136, .int 173, .int (-41), .int (-4), .int 33, .int 70, .int 107, .int 144, .int 181, .int (-33), .int 4, .int 41, .int 78, .int 115, .int 152, .int 189, .int (-25), .int 12, .int 49, .int 86, .int 123, .int 160, .int (-54), .int (-17), .int 20, .int 57, .int 94, .int 131, .int 168, .int (-46), .int (-9), .int 28, .int 65, .int 102, .int 139, .int 176, .int (-38), .int (-1), .int 36, .int 73, .int 110, .int 147, .int 184, .int (-30), .int 7, .int 44, .int 81, .int 118, .int 155, .int (-59), .int (-22), .int 15, .int 52, .int 89, .int 126, .int 163, .int (-51), .int (-14), .int 23, .int 60, .int 97, .int 134, .int 171, .int (-43), .int (-6), .int 31, .int 68, .int 105, .int 142, .int 179, .int (-35), .int 2, .int 39, .int 76, .int 113, .int 150, .int 187, .int (-27), .int 10, .int 47, .int 84, .int 121, .int 158, .int (-56), .int (-19), .int 18, .int 55, .int 92, .int 129, .int 166, .int (-48), .int (-11), .int 26, .int 63, .int 100]
def start1.aboutOf (script : Array Value) : State where
  vm := { classes := #[c0, cObjectC, c2, c3, c4, c5, c6, c7, c8, c9, c10, c11, c12, c13, c14, c15, c16, c17, c18, c19, c20, c21, c22, c23, c24, c25, c26, c27, c28, c29, c30, c31, c32, c33, c34, c35, c36, c37, c38, c39, c40, c41, c42, c43, cPrim "int" 'I', { cArr "[I" 44 .int with interfaces := #[16] }, cPrim "byte" 'B', { cArr "[B" 46 .byte with interfaces := #[16] }, cPrim "boolean" 'Z', { cArr "[Z" 48 .boolean with interfaces := #[16] }, { cArr "[LLeastbag$Bag;" 3 (.object "Leastbag$Bag") with interfaces := #[16] }, { cArr "[Ljava/lang/Object;" 1 (.object "java/lang/Object") with mirror := some 302, interfaces := #[16] }, { cArr "[Ljava/lang/Integer;" 33 (.object "java/lang/Integer") with interfaces := #[16] }, { cArr "[[I" 45 (.array .int) with interfaces := #[16] }] }
  heap := #[{ cls := 45, slots := script, vm := .none }, { cls := 5, slots := #[.int (0), .int (8), .int 0, .int (1)], vm := .statics 5 }, { cls := 9, slots := #[.null, .null, .null], vm := .statics 9 }, { cls := 15, slots := #[.int 0, .int (127), .ref 11, .null, .int 0], vm := .statics 15 }, { cls := 26, slots := #[.long 0, .int (1), .null, .int 0, .null, .int 0, .int 0], vm := .statics 26 }, { cls := 27, slots := #[.long 0, .null, .null, .null, .null, .null, .null, .null, .int 0], vm := .statics 27 }, { cls := 33, slots := #[.int 0, .int 0, .null, .null, .ref 9, .ref 8, .int 0, .int 0, .long 0], vm := .statics 33 }, { cls := 41, slots := #[.long 0, .int 0, .null, .ref 10], vm := .statics 41 }, { cls := 47, slots := #[.int (48), .int (49), .int (50), .int (51), .int (52), .int (53), .int (54), .int (55), .int (56), .int (57), .int (48), .int (49), .int (50), .int (51), .int (52), .int (53), .int (54), .int (55), .int (56), .int (57), .int (48), .int (49), .int (50), .int (51), .int (52), .int (53), .int (54), .int (55), .int (56), .int (57), .int (48), .int (49), .int (50), .int (51), .int (52), .int (53), .int (54), .int (55), .int (56), .int (57), .int (48), .int (49), .int (50), .int (51), .int (52), .int (53), .int (54), .int (55), .int (56), .int (57), .int (48), .int (49), .int (50), .int (51), .int (52), .int (53), .int (54), .int (55), .int (56), .int (57), .int (48), .int (49), .int (50), .int (51), .int (52), .int (53), .int (54), .int (55), .int (56), .int (57), .int (48), .int (49), .int (50), .int (51), .int (52), .int (53), .int (54), .int (55), .int (56), .int (57), .int (48), .int (49), .int (50), .int (51), .int (52), .int (53), .int (54), .int (55), .int (56), .int (57), .int (48), .int (49), .int (50), .int (51), .int (52), .int (53), .int (54), .int (55), .int (56), .int (57)], vm := .none }, { cls := 47, slots := #[.int (48), .int (48), .int (48), .int (48), .int (48), .int (48), .int (48), .int (48), .int (48), .int (48), .int (49), .int (49), .int (49), .int (49), .int (49), .int (49), .int (49), .int (49), .int (49), .int (49), .int (50), .int (50), .int (50), .int (50), .int (50), .int (50), .int (50), .int (50), .int (50), .int (50), .int (51), .int (51), .int (51), .int (51), .int (51), .int (51), .int (51), .int (51), .int (51), .int (51), .int (52), .int (52), .int (52), .int (52), .int (52), .int (52), .int (52), .int (52), .int (52), .int (52), .int (53), .int (53), .int (53), .int (53), .int (53), .int (53), .int (53), .int (53), .int (53), .int (53), .int (54), .int (54), .int (54), .int (54), .int (54), .int (54), .int (54), .int (54), .int (54), .int (54), .int (55), .int (55), .int (55), .int (55), .int (55), .int (55), .int (55), .int (55), .int (55), .int (55), .int (56), .int (56), .int (56), .int (56), .int (56), .int (56), .int (56), .int (56), .int (56), .int (56), .int (57), .int (57), .int (57), .int (57), .int (57), .int (57), .int (57), .int (57), .int (57), .int (57)], vm := .none }, { cls := 51, slots := #[], vm := .none }, { cls := 52, slots := #[.ref 12, .ref 13, .ref 14, .ref 15, .ref 16, .ref 17, .ref 18, .ref 19, .ref 20, .ref 21, .ref 22, .ref 23, .ref 24, .ref 25, .ref 26, .ref 27, .ref 28, .ref 29, .ref 30, .ref 31, .ref 32, .ref 33, .ref 34, .ref 35, .ref 36, .ref 37, .ref 38, .ref 39, .ref 40, .ref 41, .ref 42, .ref 43, .ref 44, .ref 45, .ref 46, .ref 47, .ref 48, .ref 49, .ref 50, .ref 51, .ref 52, .ref 53, .ref 54, .ref 55, .ref 56, .ref 57, .ref 58, .ref 59, .ref 60, .ref 61, .ref 62, .ref 63, .ref 64, .ref 65, .ref 66, .ref 67, .ref 68, .ref 69, .ref 70, .ref 71, .ref 72, .ref 73, .ref 74, .ref 75, .ref 76, .ref 77, .ref 78, .ref 79, .ref 80, .ref 81, .ref 82, .ref 83, .ref 84, .ref 85, .ref 86, .ref 87, .ref 88, .ref 89, .ref 90, .ref 91, .ref 92, .ref 93, .ref 94, .ref 95, .ref 96, .ref 97, .ref 98, .ref 99, .ref 100, .ref 101, .ref 102, .ref 103, .ref 104, .ref 105, .ref 106, .ref 107, .ref 108, .ref 109, .ref 110, .ref 111, .ref 112, .ref 113, .ref 114, .ref 115, .ref 116, .ref 117, .ref 118, .ref 119, .ref 120, .ref 121, .ref 122, .ref 123, .ref 124, .ref 125, .ref 126, .ref 127, .ref 128, .ref 129, .ref 130, .ref 131, .ref 132, .ref 133, .ref 134, .ref 135, .ref 136, .ref 137, .ref 138, .ref 139, .ref 140, .ref 141, .ref 142, .ref 143, .ref 144, .ref 145, .ref 146, .ref 147, .ref 148, .ref 149, .ref 150, .ref 151, .ref 152, .ref 153, .ref 154, .ref 155, .ref 156, .ref 157, .ref 158, .ref 159, .ref 160, .ref 161, .ref 162, .ref 163, .ref 164, .ref 165, .ref 166, .ref 167, .ref 168, .ref 169, .ref 170, .ref 171, .ref 172, .ref 173, .ref 174, .ref 175, .ref 176, .ref 177, .ref 178, .ref 179, .ref 180, .ref 181, .ref 182, .ref 183, .ref 184, .ref 185, .ref 186, .ref 187, .ref 188, .ref 189, .ref 190, .ref 191, .ref 192, .ref 193, .ref 194, .ref 195, .ref 196, .ref 197, .ref 198, .ref 199, .ref 200, .ref 201, .ref 202, .ref 203, .ref 204, .ref 205, .ref 206, .ref 207, .ref 208, .ref 209, .ref 210, .ref 211, .ref 212, .ref 213, .ref 214, .ref 215, .ref 216, .ref 217, .ref 218, .ref 219, .ref 220, .ref 221, .ref 222, .ref 223, .ref 224, .ref 225, .ref 226, .ref 227, .ref 228, .ref 229, .ref 230, .ref 231, .ref 232, .ref 233, .ref 234, .ref 235, .ref 236, .ref 237, .ref 238, .ref 239, .ref 240, .ref 241, .ref 242, .ref 243, .ref 244, .ref 245, .ref 246, .ref 247, .ref 248, .ref 249, .ref 250, .ref 251, .ref 252, .ref 253, .ref 254, .ref 255, .ref 256, .ref 257, .ref 258, .ref 259, .ref 260, .ref 261, .ref 262, .ref 263, .ref 264, .ref 265, .ref 266, .ref 267], vm := .none }, { cls := 33, slots := #[.int (-128)], vm := .none }, { cls := 33, slots := #[.int (-127)], vm := .none }, { cls := 33, slots := #[.int (-126)], vm := .none }, { cls := 33, slots := #[.int (-125)], vm := .none }, { cls := 33, slots := #[.int (-124)], vm := .none }, { cls := 33, slots := #[.int (-123)], vm := .none }, { cls := 33, slots := #[.int (-122)], vm := .none }, { cls := 33, slots := #[.int (-121)], vm := .none }, { cls := 33, slots := #[.int (-120)], vm := .none }, { cls := 33, slots := #[.int (-119)], vm := .none }, { cls := 33, slots := #[.int (-118)], vm := .none }, { cls := 33, slots := #[.int (-117)], vm := .none }, { cls := 33, slots := #[.int (-116)], vm := .none }, { cls := 33, slots := #[.int (-115)], vm := .none }, { cls := 33, slots := #[.int (-114)], vm := .none }, { cls := 33, slots := #[.int (-113)], vm := .none }, { cls := 33, slots := #[.int (-112)], vm := .none }, { cls := 33, slots := #[.int (-111)], vm := .none }, { cls := 33, slots := #[.int (-110)], vm := .none }, { cls := 33, slots := #[.int (-109)], vm := .none }, { cls := 33, slots := #[.int (-108)], vm := .none }, { cls := 33, slots := #[.int (-107)], vm := .none }, { cls := 33, slots := #[.int (-106)], vm := .none }, { cls := 33, slots := #[.int (-105)], vm := .none }, { cls := 33, slots := #[.int (-104)], vm := .none }, { cls := 33, slots := #[.int (-103)], vm := .none }, { cls := 33, slots := #[.int (-102)], vm := .none }, { cls := 33, slots := #[.int (-101)], vm := .none }, { cls := 33, slots := #[.int (-100)], vm := .none }, { cls := 33, slots := #[.int (-99)], vm := .none }, { cls := 33, slots := #[.int (-98)], vm := .none }, { cls := 33, slots := #[.int (-97)], vm := .none }, { cls := 33, slots := #[.int (-96)], vm := .none }, { cls := 33, slots := #[.int (-95)], vm := .none }, { cls := 33, slots := #[.int (-94)], vm := .none }, { cls := 33, slots := #[.int (-93)], vm := .none }, { cls := 33, slots := #[.int (-92)], vm := .none }, { cls := 33, slots := #[.int (-91)], vm := .none }, { cls := 33, slots := #[.int (-90)], vm := .none }, { cls := 33, slots := #[.int (-89)], vm := .none }, { cls := 33, slots := #[.int (-88)], vm := .none }, { cls := 33, slots := #[.int (-87)], vm := .none }, { cls := 33, slots := #[.int (-86)], vm := .none }, { cls := 33, slots := #[.int (-85)], vm := .none }, { cls := 33, slots := #[.int (-84)], vm := .none }, { cls := 33, slots := #[.int (-83)], vm := .none }, { cls := 33, slots := #[.int (-82)], vm := .none }, { cls := 33, slots := #[.int (-81)], vm := .none }, { cls := 33, slots := #[.int (-80)], vm := .none }, { cls := 33, slots := #[.int (-79)], vm := .none }, { cls := 33, slots := #[.int (-78)], vm := .none }, { cls := 33, slots := #[.int (-77)], vm := .none }, { cls := 33, slots := #[.int (-76)], vm := .none }, { cls := 33, slots := #[.int (-75)], vm := .none }, { cls := 33, slots := #[.int (-74)], vm := .none }, { cls := 33, slots := #[.int (-73)], vm := .none }, { cls := 33, slots := #[.int (-72)], vm := .none }, { cls := 33, slots := #[.int (-71)], vm := .none }, { cls := 33, slots := #[.int (-70)], vm := .none }, { cls := 33, slots := #[.int (-69)], vm := .none }, { cls := 33, slots := #[.int (-68)], vm := .none }, { cls := 33, slots := #[.int (-67)], vm := .none }, { cls := 33, slots := #[.int (-66)], vm := .none }, { cls := 33, slots := #[.int (-65)], vm := .none }, { cls := 33, slots := #[.int (-64)], vm := .none }, { cls := 33, slots := #[.int (-63)], vm := .none }, { cls := 33, slots := #[.int (-62)], vm := .none }, { cls := 33, slots := #[.int (-61)], vm := .none }, { cls := 33, slots := #[.int (-60)], vm := .none }, { cls := 33, slots := #[.int (-59)], vm := .none }, { cls := 33, slots := #[.int (-58)], vm := .none }, { cls := 33, slots := #[.int (-57)], vm := .none }, { cls := 33, slots := #[.int (-56)], vm := .none }, { cls := 33, slots := #[.int (-55)], vm := .none }, { cls := 33, slots := #[.int (-54)], vm := .none }, { cls := 33, slots := #[.int (-53)], vm := .none }, { cls := 33, slots := #[.int (-52)], vm := .none }, { cls := 33, slots := #[.int (-51)], vm := .none }, { cls := 33, slots := #[.int (-50)], vm := .none }, { cls := 33, slots := #[.int (-49)], vm := .none }, { cls := 33, slots := #[.int (-48)], vm := .none }, { cls := 33, slots := #[.int (-47)], vm := .none }, { cls := 33, slots := #[.int (-46)], vm := .none }, { cls := 33, slots := #[.int (-45)], vm := .none }, { cls := 33, slots := #[.int (-44)], vm := .none }, { cls := 33, slots := #[.int (-43)], vm := .none }, { cls := 33, slots := #[.int (-42)], vm := .none }, { cls := 33, slots := #[.int (-41)], vm := .none }, { cls := 33, slots := #[.int (-40)], vm := .none }, { cls := 33, slots := #[.int (-39)], vm := .none }, { cls := 33, slots := #[.int (-38)], vm := .none }, { cls := 33, slots := #[.int (-37)], vm := .none }, { cls := 33, slots := #[.int (-36)], vm := .none }, { cls := 33, slots := #[.int (-35)], vm := .none }, { cls := 33, slots := #[.int (-34)], vm := .none }, { cls := 33, slots := #[.int (-33)], vm := .none }, { cls := 33, slots := #[.int (-32)], vm := .none }, { cls := 33, slots := #[.int (-31)], vm := .none }, { cls := 33, slots := #[.int (-30)], vm := .none }, { cls := 33, slots := #[.int (-29)], vm := .none }, { cls := 33, slots := #[.int (-28)], vm := .none }, { cls := 33, slots := #[.int (-27)], vm := .none }, { cls := 33, slots := #[.int (-26)], vm := .none }, { cls := 33, slots := #[.int (-25)], vm := .none }, { cls := 33, slots := #[.int (-24)], vm := .none }, { cls := 33, slots := #[.int (-23)], vm := .none }, { cls := 33, slots := #[.int (-22)], vm := .none }, { cls := 33, slots := #[.int (-21)], vm := .none }, { cls := 33, slots := #[.int (-20)], vm := .none }, { cls := 33, slots := #[.int (-19)], vm := .none }, { cls := 33, slots := #[.int (-18)], vm := .none }, { cls := 33, slots := #[.int (-17)], vm := .none }, { cls := 33, slots := #[.int (-16)], vm := .none }, { cls := 33, slots := #[.int (-15)], vm := .none }, { cls := 33, slots := #[.int (-14)], vm := .none }, { cls := 33, slots := #[.int (-13)], vm := .none }, { cls := 33, slots := #[.int (-12)], vm := .none }, { cls := 33, slots := #[.int (-11)], vm := .none }, { cls := 33, slots := #[.int (-10)], vm := .none }, { cls := 33, slots := #[.int (-9)], vm := .none }, { cls := 33, slots := #[.int (-8)], vm := .none }, { cls := 33, slots := #[.int (-7)], vm := .none }, { cls := 33, slots := #[.int (-6)], vm := .none }, { cls := 33, slots := #[.int (-5)], vm := .none }, { cls := 33, slots := #[.int (-4)], vm := .none }, { cls := 33, slots := #[.int (-3)], vm := .none }, { cls := 33, slots := #[.int (-2)], vm := .none }, { cls := 33, slots := #[.int (-1)], vm := .none }, { cls := 33, slots := #[.int 0], vm := .none }, { cls := 33, slots := #[.int 1], vm := .none }, { cls := 33, slots := #[.int 2], vm := .none }, { cls := 33, slots := #[.int 3], vm := .none }, { cls := 33, slots := #[.int 4], vm := .none }, { cls := 33, slots := #[.int 5], vm := .none }, { cls := 33, slots := #[.int 6], vm := .none }, { cls := 33, slots := #[.int 7], vm := .none }, { cls := 33, slots := #[.int 8], vm := .none }, { cls := 33, slots := #[.int 9], vm := .none }, { cls := 33, slots := #[.int 10], vm := .none }, { cls := 33, slots := #[.int 11], vm := .none }, { cls := 33, slots := #[.int 12], vm := .none }, { cls := 33, slots := #[.int 13], vm := .none }, { cls := 33, slots := #[.int 14], vm := .none }, { cls := 33, slots := #[.int 15], vm := .none }, { cls := 33, slots := #[.int 16], vm := .none }, { cls := 33, slots := #[.int 17], vm := .none }, { cls := 33, slots := #[.int 18], vm := .none }, { cls := 33, slots := #[.int 19], vm := .none }, { cls := 33, slots := #[.int 20], vm := .none }, { cls := 33, slots := #[.int 21], vm := .none }, { cls := 33, slots := #[.int 22], vm := .none }, { cls := 33, slots := #[.int 23], vm := .none }, { cls := 33, slots := #[.int 24], vm := .none }, { cls := 33, slots := #[.int 25], vm := .none }, { cls := 33, slots := #[.int 26], vm := .none }, { cls := 33, slots := #[.int 27], vm := .none }, { cls := 33, slots := #[.int 28], vm := .none }, { cls := 33, slots := #[.int 29], vm := .none }, { cls := 33, slots := #[.int 30], vm := .none }, { cls := 33, slots := #[.int 31], vm := .none }, { cls := 33, slots := #[.int 32], vm := .none }, { cls := 33, slots := #[.int 33], vm := .none }, { cls := 33, slots := #[.int 34], vm := .none }, { cls := 33, slots := #[.int 35], vm := .none }, { cls := 33, slots := #[.int 36], vm := .none }, { cls := 33, slots := #[.int 37], vm := .none }, { cls := 33, slots := #[.int 38], vm := .none }, { cls := 33, slots := #[.int 39], vm := .none }, { cls := 33, slots := #[.int 40], vm := .none }, { cls := 33, slots := #[.int 41], vm := .none }, { cls := 33, slots := #[.int 42], vm := .none }, { cls := 33, slots := #[.int 43], vm := .none }, { cls := 33, slots := #[.int 44], vm := .none }, { cls := 33, slots := #[.int 45], vm := .none }, { cls := 33, slots := #[.int 46], vm := .none }, { cls := 33, slots := #[.int 47], vm := .none }, { cls := 33, slots := #[.int 48], vm := .none }, { cls := 33, slots := #[.int 49], vm := .none }, { cls := 33, slots := #[.int 50], vm := .none }, { cls := 33, slots := #[.int 51], vm := .none }, { cls := 33, slots := #[.int 52], vm := .none }, { cls := 33, slots := #[.int 53], vm := .none }, { cls := 33, slots := #[.int 54], vm := .none }, { cls := 33, slots := #[.int 55], vm := .none }, { cls := 33, slots := #[.int 56], vm := .none }, { cls := 33, slots := #[.int 57], vm := .none }, { cls := 33, slots := #[.int 58], vm := .none }, { cls := 33, slots := #[.int 59], vm := .none }, { cls := 33, slots := #[.int 60], vm := .none }, { cls := 33, slots := #[.int 61], vm := .none }, { cls := 33, slots := #[.int 62], vm := .none }, { cls := 33, slots := #[.int 63], vm := .none }, { cls := 33, slots := #[.int 64], vm := .none }, { cls := 33, slots := #[.int 65], vm := .none }, { cls := 33, slots := #[.int 66], vm := .none }, { cls := 33, slots := #[.int 67], vm := .none }, { cls := 33, slots := #[.int 68], vm := .none }, { cls := 33, slots := #[.int 69], vm := .none }, { cls := 33, slots := #[.int 70], vm := .none }, { cls := 33, slots := #[.int 71], vm := .none }, { cls := 33, slots := #[.int 72], vm := .none }, { cls := 33, slots := #[.int 73], vm := .none }, { cls := 33, slots := #[.int 74], vm := .none }, { cls := 33, slots := #[.int 75], vm := .none }, { cls := 33, slots := #[.int 76], vm := .none }, { cls := 33, slots := #[.int 77], vm := .none }, { cls := 33, slots := #[.int 78], vm := .none }, { cls := 33, slots := #[.int 79], vm := .none }, { cls := 33, slots := #[.int 80], vm := .none }, { cls := 33, slots := #[.int 81], vm := .none }, { cls := 33, slots := #[.int 82], vm := .none }, { cls := 33, slots := #[.int 83], vm := .none }, { cls := 33, slots := #[.int 84], vm := .none }, { cls := 33, slots := #[.int 85], vm := .none }, { cls := 33, slots := #[.int 86], vm := .none }, { cls := 33, slots := #[.int 87], vm := .none }, { cls := 33, slots := #[.int 88], vm := .none }, { cls := 33, slots := #[.int 89], vm := .none }, { cls := 33, slots := #[.int 90], vm := .none }, { cls := 33, slots := #[.int 91], vm := .none }, { cls := 33, slots := #[.int 92], vm := .none }, { cls := 33, slots := #[.int 93], vm := .none }, { cls := 33, slots := #[.int 94], vm := .none }, { cls := 33, slots := #[.int 95], vm := .none }, { cls := 33, slots := #[.int 96], vm := .none }, { cls := 33, slots := #[.int 97], vm := .none }, { cls := 33, slots := #[.int 98], vm := .none }, { cls := 33, slots := #[.int 99], vm := .none }, { cls := 33, slots := #[.int 100], vm := .none }, { cls := 33, slots := #[.int 101], vm := .none }, { cls := 33, slots := #[.int 102], vm := .none }, { cls := 33, slots := #[.int 103], vm := .none }, { cls := 33, slots := #[.int 104], vm := .none }, { cls := 33, slots := #[.int 105], vm := .none }, { cls := 33, slots := #[.int 106], vm := .none }, { cls := 33, slots := #[.int 107], vm := .none }, { cls := 33, slots := #[.int 108], vm := .none }, { cls := 33, slots := #[.int 109], vm := .none }, { cls := 33, slots := #[.int 110], vm := .none }, { cls := 33, slots := #[.int 111], vm := .none }, { cls := 33, slots := #[.int 112], vm := .none }, { cls := 33, slots := #[.int 113], vm := .none }, { cls := 33, slots := #[.int 114], vm := .none }, { cls := 33, slots := #[.int 115], vm := .none }, { cls := 33, slots := #[.int 116], vm := .none }, { cls := 33, slots := #[.int 117], vm := .none }, { cls := 33, slots := #[.int 118], vm := .none }, { cls := 33, slots := #[.int 119], vm := .none }, { cls := 33, slots := #[.int 120], vm := .none }, { cls := 33, slots := #[.int 121], vm := .none }, { cls := 33, slots := #[.int 122], vm := .none }, { cls := 33, slots := #[.int 123], vm := .none }, { cls := 33, slots := #[.int 124], vm := .none }, { cls := 33, slots := #[.int 125], vm := .none }, { cls := 33, slots := #[.int 126], vm := .none }, { cls := 33, slots := #[.int 127], vm := .none }, { cls := 26, slots := #[.ref 269, .int 0, .int 0, .int 0], vm := .none }, { cls := 47, slots := #[.int 83, .int 116, .int 114, .int 105, .int 110, .int 103, .int 32, .int 105, .int 110, .int 100, .int 101, .int 120, .int 32, .int 111, .int 117, .int 116, .int 32, .int 111, .int 102, .int 32, .int 114, .int 97, .int 110, .int 103, .int 101, .int 58, .int 32], vm := .none }, { cls := 26, slots := #[.ref 271, .int 0, .int 0, .int 0], vm := .none }, { cls := 47, slots := #[.int 32, .int 62, .int 32], vm := .none }, { cls := 26, slots := #[.ref 273, .int 0, .int 0, .int 0], vm := .none }, { cls := 47, slots := #[.int 102, .int 114, .int 111, .int 109, .int 73, .int 110, .int 100, .int 101, .int 120, .int 40], vm := .none }, { cls := 26, slots := #[.ref 275, .int 0, .int 0, .int 0], vm := .none }, { cls := 47, slots := #[.int 41, .int 32, .int 62, .int 32, .int 116, .int 111, .int 73, .int 110, .int 100, .int 101, .int 120, .int 40], vm := .none }, { cls := 26, slots := #[.ref 277, .int 0, .int 0, .int 0], vm := .none }, { cls := 47, slots := #[.int 41], vm := .none }, { cls := 26, slots := #[.ref 279, .int 0, .int 0, .int 0], vm := .none }, { cls := 47, slots := #[.int 65, .int 114, .int 114, .int 97, .int 121, .int 32, .int 105, .int 110, .int 100, .int 101, .int 120, .int 32, .int 111, .int 117, .int 116, .int 32, .int 111, .int 102, .int 32, .int 114, .int 97, .int 110, .int 103, .int 101, .int 58, .int 32], vm := .none }, { cls := 26, slots := #[.ref 281, .int 0, .int 0, .int 0], vm := .none }, { cls := 47, slots := #[.int 97, .int 32, .int 110, .int 117, .int 109, .int 98, .int 101, .int 114, .int 32, .int 105, .int 115, .int 32, .int 116, .int 111, .int 108, .int 100, .int 32, .int 116, .int 104, .int 97, .int 116, .int 32, .int 105, .int 115, .int 32, .int 110, .int 111, .int 116, .int 32, .int 97, .int 108, .int 108, .int 111, .int 119, .int 101, .int 100, .int 32, .int 116, .int 104, .int 101, .int 114, .int 101], vm := .none }, { cls := 26, slots := #[.ref 283, .int 0, .int 0, .int 0], vm := .none }, { cls := 47, slots := #[.int 116, .int 104, .int 101, .int 114, .int 101, .int 32, .int 105, .int 115, .int 32, .int 110, .int 111, .int 32, .int 115, .int 117, .int 99, .int 104, .int 32, .int 98, .int 97, .int 103], vm := .none }, { cls := 26, slots := #[.ref 285, .int 0, .int 0, .int 0], vm := .none }, { cls := 47, slots := #[.int 116, .int 104, .int 101, .int 114, .int 101, .int 32, .int 105, .int 115, .int 32, .int 110, .int 111, .int 32, .int 114, .int 111, .int 111, .int 109, .int 32, .int 102, .int 111, .int 114, .int 32, .int 116, .int 104, .int 97, .int 116, .int 32, .int 109, .int 97, .int 110, .int 121, .int 32, .int 116, .int 104, .int 105, .int 110, .int 103, .int 115], vm := .none }, { cls := 26, slots := #[.ref 287, .int 0, .int 0, .int 0], vm := .none }, { cls := 47, slots := #[.int 45], vm := .none }, { cls := 26, slots := #[.ref 289, .int 0, .int 0, .int 0], vm := .none }, { cls := 47, slots := #[.int 33], vm := .none }, { cls := 26, slots := #[.ref 291, .int 0, .int 0, .int 0], vm := .none }, { cls := 47, slots := #[.int 116, .int 104, .int 101, .int 32, .int 108, .int 105, .int 115, .int 116, .int 32, .int 104, .int 97, .int 115, .int 32, .int 110, .int 111, .int 32, .int 116, .int 104, .int 105, .int 110, .int 103], vm := .none }, { cls := 26, slots := #[.ref 293, .int 0, .int 0, .int 0], vm := .none }, { cls := 47, slots := #[.int 116, .int 104, .int 101, .int 114, .int 101, .int 32, .int 105, .int 115, .int 32, .int 110, .int 111, .int 32, .int 119, .int 97, .int 108, .int 107], vm := .none }, { cls := 26, slots := #[.ref 295, .int 0, .int 0, .int 0], vm := .none }, { cls := 47, slots := #[.int 116, .int 104, .int 101, .int 114, .int 101, .int 32, .int 105, .int 115, .int 32, .int 110, .int 111, .int 32, .int 115, .int 117, .int 99, .int 104, .int 32, .int 112, .int 108, .int 97, .int 99, .int 101], vm := .none }, { cls := 26, slots := #[.ref 297, .int 0, .int 0, .int 0], vm := .none }, { cls := 47, slots := #[], vm := .none }, { cls := 26, slots := #[.ref 299, .int 0, .int 0, .int 0], vm := .none }, { cls := 47, slots := #[.int 97, .int 98, .int 99, .int 100, .int 101, .int 102], vm := .none }, { cls := 26, slots := #[.ref 301, .int 0, .int 0, .int 0], vm := .none }, { cls := 47, slots := #[.int 32], vm := .none }, { cls := 1, slots := #[], vm := .none }]
  slotsUsed := script.size + 1067
  threads := #[{ frames := .invoking ⟨0, 0⟩ args0 :: Lib.HandBits.below0 }]
def start1.about : State := aboutOf cells0
end
section
theorem tq_l {args : Array Value} {s : State} {A B : Cond} (h : (Cond.and A B).before args s = true) : A.before args s = true := by
  simp only [Cond.before_and, Bool.and_eq_true] at h
  exact h.1
theorem tq_r {args : Array Value} {s : State} {A B : Cond} (h : (Cond.and A B).before args s = true) : B.before args s = true := by
  simp only [Cond.before_and, Bool.and_eq_true] at h
  exact h.2
theorem tq_lists (args : Array Value) (s : State) (h : (Cond.and given_1 narrow_1).before args s = true) :
    ∃ k, s.vm.findClass "[Ljava/lang/StackTraceElement;" = some k := by
  have h := tq_r h
  have h1 : (Jvm.Cond.not (Jvm.Cond.castable "[Ljava/lang/StackTraceElement;" "java/lang/String")).before args s = true :=
    tq_r (tq_r (tq_r (tq_r (tq_l (tq_l (tq_r (tq_l (tq_r (tq_l (h))))))))))
  cases hc : s.vm.findClass "[Ljava/lang/StackTraceElement;" with
  | some k => exact ⟨k, rfl⟩
  | none =>
    exfalso
    simp [Cond.before, Cond.holds, Cond.value, hc] at h1
end
section
theorem tq_notListed : start1.about.vm.findClass "[Ljava/lang/StackTraceElement;" = none := by decide +kernel
theorem tq_witness : (Cond.and given_1 narrow_1).before start1.args0 start1.about ≠ true := by
  intro h
  obtain ⟨k, hk⟩ := tq_lists _ _ h
  rw [tq_notListed] at hk
  exact absurd hk (by simp)
theorem i_vc : Claimed_1_1 ∧ Claimed_1_2 := sorry
end
