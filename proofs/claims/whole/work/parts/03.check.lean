/-! ===== The check of a method's bytes against the small machine's code ===== -/
abbrev mm_X : Type := Except DecodeError (Instr × Nat)
/-- the words that are carried by themselves, and two kinds that are carried beside them -/
def mm_kg (w : Jvm.Cond) : Bool := match w with
  | .methodLink _ _ _ => true
  | .code _ _ _ _ => true
  | .instanceMethod _ => true
  | .fieldLink _ _ _ _ _ => true
  | .soleField _ _ => true
  | .selects _ _ _ => true
  | .laysFinal _ _ _ _ => true
  | .lays _ _ _ _ => true
  | .static _ => true
  | .initialized _ => true
  | .classLink _ _ _ => true
  | .instantiable _ _ => true
  | .superclass _ _ => true
  | .constant _ _ _ => true
  | .arrayClass _ => true
  | .constantLong _ _ _ => true
  | .native _ => true
  | _ => false
def mm_kn (w : Jvm.Cond) : Bool := match w with
  | .methodLinkNest _ _ _ _ => true
  | .arrayOver (.object _) => true
  | _ => false
def mm_tb : List Jvm.Cond := lw_tbl.filter (fun w => mm_kg w || mm_kn w)
def mm_tg : List Jvm.Cond := lw_tbl.filter mm_kg
/-- a word by its place: 1000 * the list + the index -/
def mm_wd (w : Nat) : Option Jvm.Cond := match w / 1000 with
  | 0 => (k2_sels lw_privs)[w % 1000]?
  | 1 => tables_1_1[w % 1000]?
  | 2 => tables_1_2[w % 1000]?
  | 3 => tables_1_3[w % 1000]?
  | 4 => tables_1_4[w % 1000]?
  | 5 => tables_1_5[w % 1000]?
  | 6 => tables_1_6[w % 1000]?
  | 7 => tables_1_7[w % 1000]?
  | 8 => tables_1_8[w % 1000]?
  | _ => none
theorem mm_wd_mem {w : Nat} {x : Jvm.Cond} (h : mm_wd w = some x) : x ∈ lw_tbl := by
  have e : lw_tbl = k2_sels lw_privs ++ (tables_1_1 ++ (tables_1_2 ++ (tables_1_3 ++ (tables_1_4 ++ (tables_1_5 ++ (tables_1_6 ++ (tables_1_7 ++ tables_1_8))))))) := rfl
  rw [e]
  unfold mm_wd at h
  split at h
  · exact List.mem_append_left _ (List.mem_of_getElem? h)
  · exact List.mem_append_right _ (List.mem_append_left _ (List.mem_of_getElem? h))
  · exact List.mem_append_right _ (List.mem_append_right _ (List.mem_append_left _ (List.mem_of_getElem? h)))
  · exact List.mem_append_right _ (List.mem_append_right _ (List.mem_append_right _ (List.mem_append_left _ (List.mem_of_getElem? h))))
  · exact List.mem_append_right _ (List.mem_append_right _ (List.mem_append_right _ (List.mem_append_right _ (List.mem_append_left _ (List.mem_of_getElem? h)))))
  · exact List.mem_append_right _ (List.mem_append_right _ (List.mem_append_right _ (List.mem_append_right _ (List.mem_append_right _ (List.mem_append_left _ (List.mem_of_getElem? h))))))
  · exact List.mem_append_right _ (List.mem_append_right _ (List.mem_append_right _ (List.mem_append_right _ (List.mem_append_right _ (List.mem_append_right _ (List.mem_append_left _ (List.mem_of_getElem? h)))))))
  · exact List.mem_append_right _ (List.mem_append_right _ (List.mem_append_right _ (List.mem_append_right _ (List.mem_append_right _ (List.mem_append_right _ (List.mem_append_right _ (List.mem_append_left _ (List.mem_of_getElem? h))))))))
  · exact List.mem_append_right _ (List.mem_append_right _ (List.mem_append_right _ (List.mem_append_right _ (List.mem_append_right _ (List.mem_append_right _ (List.mem_append_right _ (List.mem_append_right _ (List.mem_of_getElem? h))))))))
  · cases h
/-- a field link among the words: of the class's k-th field -/
def mm_fl (own : String) (ix ci k w : Nat) : Bool := match vwCl[ci]? with
  | some q => decide (k < q.2.2) && decide (mm_wd w = some (.fieldLink own ix (q.2.1 k).1 (q.2.1 k).2.1 (q.2.1 k).2.2.1))
  | none => false
/-- a put may be: not final, or in the class's own <init>; t: 0 int, 1 boolean, 2 a reference -/
def mm_fp (own mn : String) (ci k t : Nat) : Bool := match vwCl[ci]? with
  | some q => (!((q.2.1 k).2.2.2) || (decide (mn = "<init>") && decide ((q.2.1 k).1 = own))) && (match parseFieldDescriptor (q.2.1 k).2.2.1 with
    | some .int => decide (t = 0)
    | some .boolean => decide (t = 1)
    | some (.object _) => decide (t = 2)
    | some (.array _) => decide (t = 2)
    | _ => false)
  | none => false
def mc_0 (a : Nat) (r : mm_X) : Option Nat := match r with
  | .ok (.iload_n k, 1) => if (k : Nat) = a then some 1 else none
  | .ok (.iload k, 2) => if k = a then some 2 else none
  | _ => none
def mc_1 (a : Nat) (r : mm_X) : Option Nat := match r with
  | .ok (.lload_n k, 1) => if (k : Nat) = a then some 1 else none
  | .ok (.lload k, 2) => if k = a then some 2 else none
  | _ => none
def mc_2 (a : Nat) (r : mm_X) : Option Nat := match r with
  | .ok (.aload_n k, 1) => if (k : Nat) = a then some 1 else none
  | .ok (.aload k, 2) => if k = a then some 2 else none
  | _ => none
def mc_3 (a : Nat) (r : mm_X) : Option Nat := match r with
  | .ok (.istore_n k, 1) => if (k : Nat) = a then some 1 else none
  | .ok (.istore k, 2) => if k = a then some 2 else none
  | _ => none
def mc_4 (a : Nat) (r : mm_X) : Option Nat := match r with
  | .ok (.lstore_n k, 1) => if (k : Nat) = a then some 1 else none
  | .ok (.lstore k, 2) => if k = a then some 2 else none
  | _ => none
def mc_5 (a : Nat) (r : mm_X) : Option Nat := match r with
  | .ok (.astore_n k, 1) => if (k : Nat) = a then some 1 else none
  | .ok (.astore k, 2) => if k = a then some 2 else none
  | _ => none
def mc_6 (a : Nat) (n : Int) (r : mm_X) : Option Nat := match r with
  | .ok (.iinc k z, 3) => if k = a ∧ z = n then some 3 else none
  | _ => none
def mc_7 (own : String) (w : Nat) (n : Int) (r : mm_X) : Option Nat := match r with
  | .ok (.iconst z, 1) => if Int32.ofInt z = Int32.ofInt n then some 1 else none
  | .ok (.bipush z, 2) => if (Int8.ofInt z).toInt32 = Int32.ofInt n then some 2 else none
  | .ok (.sipush z, 3) => if (Int16.ofInt z).toInt32 = Int32.ofInt n then some 3 else none
  | .ok (.ldc ix, 2) => if mm_wd w = some (.constant own ix (Int32.ofInt n)) then some 2 else none
  | .ok (.ldc_w ix, 3) => if mm_wd w = some (.constant own ix (Int32.ofInt n)) then some 3 else none
  | _ => none
def mc_8 (own : String) (w : Nat) (n : Int) (r : mm_X) : Option Nat := match r with
  | .ok (.lconst z, 1) => if Int64.ofNat (z : Nat) = Int64.ofInt n then some 1 else none
  | .ok (.ldc2_w ix, 3) => if mm_wd w = some (.constantLong own ix (Int64.ofInt n)) then some 3 else none
  | _ => none
def mc_9 (own : String) (a : Nat) (r : mm_X) : Option Nat := match r with
  | .ok (.ldc ix, 2) => if own = "FenceSides$Tokens" ∧ ((a = 0 ∧ ix = 25) ∨ (a = 1 ∧ ix = 71)) then some 2 else none
  | _ => none
def mc_13 (f : Nat) (r : mm_X) : Option Nat := match r with
  | .ok (.iadd, 1) => if f = 0 then some 1 else none
  | .ok (.isub, 1) => if f = 1 then some 1 else none
  | .ok (.imul, 1) => if f = 2 then some 1 else none
  | .ok (.iand, 1) => if f = 3 then some 1 else none
  | .ok (.ior, 1) => if f = 4 then some 1 else none
  | .ok (.ixor, 1) => if f = 5 then some 1 else none
  | .ok (.ishl, 1) => if f = 6 then some 1 else none
  | .ok (.ishr, 1) => if f = 7 then some 1 else none
  | .ok (.iushr, 1) => if f = 8 then some 1 else none
  | _ => none
def mc_16 (f : Nat) (r : mm_X) : Option Nat := match r with
  | .ok (.ladd, 1) => if f = 0 then some 1 else none
  | .ok (.lsub, 1) => if f = 1 then some 1 else none
  | .ok (.lmul, 1) => if f = 2 then some 1 else none
  | .ok (.lor, 1) => if f = 3 then some 1 else none
  | _ => none
/-- an instruction without operands -/
def mc_s (i : Instr) (r : mm_X) : Option Nat := match r with
  | .ok (j, 1) => if j = i then some 1 else none
  | _ => none
def mc_23 (own : String) (ci k w : Nat) (r : mm_X) : Option Nat := match r with
  | .ok (.getfield ix, 3) => if mm_fl own ix ci k w = true then some 3 else none
  | _ => none
def mc_24 (own mn : String) (ci k w t : Nat) (r : mm_X) : Option Nat := match r with
  | .ok (.putfield ix, 3) => if mm_fl own ix ci k w = true ∧ mm_fp own mn ci k t = true then some 3 else none
  | _ => none
def mc_36 (own : String) (ci w : Nat) (r : mm_X) : Option Nat := match r with
  | .ok (.new ix, 3) => (match vwCl[ci]? with
    | some q => if mm_wd w = some (.classLink own ix q.1) then some 3 else none
    | none => none)
  | _ => none
def mc_37 (t : Nat) (r : mm_X) : Option Nat := match r with
  | .ok (.newarray .int, 2) => if t = 0 then some 2 else none
  | .ok (.newarray .byte, 2) => if t = 1 then some 2 else none
  | .ok (.newarray .boolean, 2) => if t = 2 then some 2 else none
  | .ok (.newarray .long, 2) => if t = 3 then some 2 else none
  | _ => none
def mc_38 (own : String) (w : Nat) (r : mm_X) : Option Nat := match r with
  | .ok (.anewarray ix, 3) => if mm_wd w = some (.classLink own ix "FenceSides$State") then some 3 else none
  | _ => none
def mc_39 (own : String) (w : Nat) (r : mm_X) : Option Nat := match r with
  | .ok (.invokespecial ix, 3) => if mm_wd w = some (.methodLink own ix objectInit) then some 3 else none
  | _ => none
def mc_40 (own : String) (w : Nat) (r : mm_X) : Option Nat := match r with
  | .ok (.invokestatic ix, 3) => if mm_wd w = some (.methodLink own ix arraycopyName) then some 3 else none
  | _ => none
def mc_41 (own : String) (w : Nat) (r : mm_X) : Option Nat := match r with
  | .ok (.invokevirtual ix, 3) => if mm_wd w = some (.methodLink own ix ⟨"java/lang/String", "charAt", "(I)C"⟩) then some 3 else none
  | _ => none
def mc_42 (own : String) (w : Nat) (r : mm_X) : Option Nat := match r with
  | .ok (.invokevirtual ix, 3) => if mm_wd w = some (.methodLink own ix ⟨"java/lang/String", "indexOf", "(I)I"⟩) then some 3 else none
  | _ => none
def mc_43 (own : String) (w : Nat) (r : mm_X) : Option Nat := match r with
  | .ok (.invokestatic ix, 3) => if mm_wd w = some (.methodLink own ix ⟨"java/lang/Math", "max", "(II)I"⟩) then some 3 else none
  | _ => none
def mc_44 (own : String) (w : Nat) (r : mm_X) : Option Nat := match r with
  | .ok (.invokestatic ix, 3) => if mm_wd w = some (.methodLink own ix ⟨"java/lang/Math", "min", "(II)I"⟩) then some 3 else none
  | _ => none
/-- the length of a straight instruction, if the bytes have it -/
def mm_one (own mn : String) (i : mm_I) (r : mm_X) : Option Nat :=
  match i.1 with
  | 0 => mc_0 i.2.1 r
  | 1 => mc_1 i.2.1 r
  | 2 => mc_2 i.2.1 r
  | 3 => mc_3 i.2.1 r
  | 4 => mc_4 i.2.1 r
  | 5 => mc_5 i.2.1 r
  | 6 => mc_6 i.2.1 i.2.2.2 r
  | 7 => mc_7 own i.2.1 i.2.2.2 r
  | 8 => mc_8 own i.2.1 i.2.2.2 r
  | 9 => mc_9 own i.2.1 r
  | 10 => mc_s .pop r
  | 11 => mc_s .dup r
  | 12 => mc_s .dup2 r
  | 13 => mc_13 i.2.1 r
  | 14 => mc_s .idiv r
  | 15 => mc_s .irem r
  | 16 => mc_16 i.2.1 r
  | 17 => mc_s .lshl r
  | 18 => mc_s .lcmp r
  | 19 => mc_s .i2l r
  | 20 => mc_s .l2i r
  | 21 => mc_s .i2b r
  | 22 => mc_s .i2c r
  | 23 => mc_23 own i.2.1 i.2.2.1 i.2.2.2.toNat r
  | 24 => mc_24 own mn i.2.1 i.2.2.1 i.2.2.2.toNat 0 r
  | 25 => mc_24 own mn i.2.1 i.2.2.1 i.2.2.2.toNat 1 r
  | 26 => mc_24 own mn i.2.1 i.2.2.1 i.2.2.2.toNat 2 r
  | 27 => mc_s .iaload r
  | 28 => mc_s .iastore r
  | 29 => mc_s .baload r
  | 30 => mc_s .bastore r
  | 31 => mc_s .laload r
  | 32 => mc_s .lastore r
  | 33 => mc_s .aaload r
  | 34 => mc_s .aastore r
  | 35 => mc_s .arraylength r
  | 36 => mc_36 own i.2.1 i.2.2.1 r
  | 37 => mc_37 i.2.1 r
  | 38 => mc_38 own i.2.2.1 r
  | 39 => mc_39 own i.2.2.1 r
  | 40 => mc_40 own i.2.2.1 r
  | 41 => mc_41 own i.2.2.1 r
  | 42 => mc_42 own i.2.2.1 r
  | 43 => mc_43 own i.2.2.1 r
  | 44 => mc_44 own i.2.2.1 r
  | _ => none
def mm_cn (k : Nat) : ClassFile.Cond := match k with
  | 0 => .eq
  | 1 => .ne
  | 2 => .lt
  | 3 => .ge
  | 4 => .gt
  | _ => .le
/-- a jump, if the bytes have it; lab: a block's first byte -/
def mjc_0 (lab : Nat → Nat) (b1 : Nat) (pc : Nat) (r : mm_X) : Bool := match r with
  | .ok (.goto off, 3) => decide ((pc : Int) + off = (lab b1 : Int))
  | _ => false
def mjc_1 (lab : Nat → Nat) (f b1 b2 : Nat) (pc : Nat) (r : mm_X) : Bool := match r with
  | .ok (.ifCond c off, 3) => decide (c = mm_cn f) && decide ((pc : Int) + off = (lab b1 : Int)) && decide (lab b2 = pc + 3)
  | _ => false
def mjc_2 (lab : Nat → Nat) (f b1 b2 : Nat) (pc : Nat) (r : mm_X) : Bool := match r with
  | .ok (.if_icmp c off, 3) => decide (c = mm_cn f) && decide ((pc : Int) + off = (lab b1 : Int)) && decide (lab b2 = pc + 3)
  | _ => false
def mjc_4 (lab : Nat → Nat) (b0 pc : Nat) (offs : Array Int) (k : Nat) : Bool := match offs[k]? with
  | some off => decide ((pc : Int) + off = (lab (b0 + k) : Int))
  | none => false
def mjc_3 (lab : Nat → Nat) (b0 n : Nat) (lo : Int) (pc : Nat) (r : mm_X) : Bool := match r with
  | .ok (.tableswitch dflt lo2 hi offs, _) => decide (lo2 = lo) && decide (hi + 1 = lo + (n : Int)) && decide ((pc : Int) + dflt = (lab (b0 + n) : Int)) && (List.range n).all (mjc_4 lab b0 pc offs)
  | _ => false
def mm_jck (lab : Nat → Nat) (i : mm_I) (pc : Nat) (r : mm_X) : Bool :=
  match i.1 with
  | 50 => mjc_0 lab i.2.1 pc r
  | 51 => decide (lab i.2.1 = pc)
  | 52 => mjc_1 lab 0 i.2.1 i.2.2.1 pc r
  | 53 => mjc_1 lab 1 i.2.1 i.2.2.1 pc r
  | 54 => mjc_1 lab 2 i.2.1 i.2.2.1 pc r
  | 55 => mjc_1 lab 3 i.2.1 i.2.2.1 pc r
  | 56 => mjc_1 lab 4 i.2.1 i.2.2.1 pc r
  | 57 => mjc_1 lab 5 i.2.1 i.2.2.1 pc r
  | 58 => mjc_3 lab i.2.1 i.2.2.1 i.2.2.2 pc r
  | 60 => mjc_2 lab 0 i.2.1 i.2.2.1 pc r
  | 61 => mjc_2 lab 1 i.2.1 i.2.2.1 pc r
  | 62 => mjc_2 lab 2 i.2.1 i.2.2.1 pc r
  | 63 => mjc_2 lab 3 i.2.1 i.2.2.1 pc r
  | 64 => mjc_2 lab 4 i.2.1 i.2.2.1 pc r
  | 65 => mjc_2 lab 5 i.2.1 i.2.2.1 pc r
  | _ => false
/-- a method's own facts: its name, bytes, locals, answer; the kind of call, the receiver's class, how many parameters; the places of its words: code, instanceMethod or static, selects, initialized -/
abbrev mm_T : Type := MethodName × ByteArray × Nat × Option FieldType × Nat × Nat × Nat × List Nat
/-- the words of a method, at their places -/
def mm_tck (t : mm_T) : Bool :=
  decide (mm_wd (t.2.2.2.2.2.2.2.getD 3 0) = some (.initialized t.1.cls)) && plainName t.1.cls &&
  (decide (t.1.cls ≠ "java/lang/invoke/MethodHandle") && decide (t.1.cls ≠ "java/lang/invoke/VarHandle") && decide ((parseMethodDescriptor t.1.desc).map (fun d => d.parameters.length) = some t.2.2.2.2.2.2.1)) &&
  (match t.2.2.2.2.1 with
  | 0 => decide (mm_wd (t.2.2.2.2.2.2.2.getD 1 0) = some (.static t.1))
  | 1 => decide (mm_wd (t.2.2.2.2.2.2.2.getD 1 0) = some (.instanceMethod t.1)) && decide (mm_wd (t.2.2.2.2.2.2.2.getD 2 0) = some (.selects t.1.cls t.1 t.1)) && (match vwCl[t.2.2.2.2.2.1]? with
    | some q => decide (q.1 = t.1.cls)
    | none => false)
  | 2 => decide (mm_wd (t.2.2.2.2.2.2.2.getD 1 0) = some (.instanceMethod t.1)) && decide (t.1.name = "<init>") && decide (t.2.2.2.1 = none)
  | _ => false)
def mm_cw (t : mm_T) : Prop := mm_wd (t.2.2.2.2.2.2.2.getD 0 0) = some (.code t.1 t.2.1 t.2.2.1 t.2.2.2.1)
/-- a call: by its method link, or (a private <init> of a nest mate) its nest link -/
def mm_cck (own : String) (t : mm_T) (w : Nat) (r : mm_X) : Bool := match r with
  | .ok (.invokestatic ix, 3) => decide (t.2.2.2.2.1 = 0) && decide (mm_wd w = some (.methodLink own ix t.1))
  | .ok (.invokevirtual ix, 3) => decide (t.2.2.2.2.1 = 1) && decide (mm_wd w = some (.methodLink own ix t.1))
  | .ok (.invokespecial ix, 3) => decide (t.2.2.2.2.1 = 2) && (decide (mm_wd w = some (.methodLink own ix t.1)) || decide (mm_wd w = some (.methodLinkNest own ix t.1 "FenceSides")))
  | _ => false
def mm_chk (tb : Nat → Option mm_T) (own mn : String) (rt : Option FieldType) (cc : ByteArray) (lab : Nat → Nat) : Nat → List mm_I → Bool
  | _, [] => true
  | pc, i :: is =>
    if i.1 < 50 then (match mm_one own mn i (decode cc pc) with
      | some k => mm_chk tb own mn rt cc lab (pc + k) is
      | none => false)
    else if i.1 < 70 then mm_jck lab i pc (decode cc pc)
    else if i.1 = 70 then (match tb i.2.1 with
      | some t => mm_cck own t i.2.2.1 (decode cc pc) && mm_chk tb own mn rt cc lab (pc + 3) is
      | none => false)
    else if i.1 = 71 then decide (decode cc pc = .ok (.ireturn, 1)) && decide (rt = some .int)
    else if i.1 = 72 then decide (decode cc pc = .ok (.ireturn, 1)) && decide (rt = some .boolean)
    else if i.1 = 73 then decide (decode cc pc = .ok (.lreturn, 1)) && decide (rt = some .long)
    else decide (decode cc pc = .ok (.return_, 1)) && decide (rt = none)
