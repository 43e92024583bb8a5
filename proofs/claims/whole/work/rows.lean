section
/-- a private method of a class that the tables say can be made, by its rows of tables_1 -/
def lw_okq (q : MethodName × Nat) : Prop := (q.1.cls ≠ "java/lang/invoke/MethodHandle" ∧ q.1.cls ≠ "java/lang/invoke/VarHandle") ∧ Cond.instantiable q.1.cls q.2 ∈ tables_1 ∧ Cond.privateMethod q.1 ∈ tables_1 ∧ Cond.instanceMethod q.1 ∈ tables_1
theorem lw_p0 : lw_okq (⟨"LeasePair", "deliver", "(LLeasePair$Message;)Z"⟩, 8) := ⟨⟨by decide +kernel, by decide +kernel⟩, List.mem_of_getElem? (i := 14) (by decide +kernel), List.mem_of_getElem? (i := 303) (by decide +kernel), List.mem_of_getElem? (i := 304) (by decide +kernel)⟩
theorem lw_p1 : lw_okq (⟨"LeasePair", "deliverAnswer", "(LLeasePair$Message;)Z"⟩, 8) := ⟨⟨by decide +kernel, by decide +kernel⟩, List.mem_of_getElem? (i := 14) (by decide +kernel), List.mem_of_getElem? (i := 307) (by decide +kernel), List.mem_of_getElem? (i := 308) (by decide +kernel)⟩
theorem lw_p2 : lw_okq (⟨"LeasePair", "countHolders", "(I)I"⟩, 8) := ⟨⟨by decide +kernel, by decide +kernel⟩, List.mem_of_getElem? (i := 14) (by decide +kernel), List.mem_of_getElem? (i := 319) (by decide +kernel), List.mem_of_getElem? (i := 320) (by decide +kernel)⟩
theorem lw_p3 : lw_okq (⟨"LeasePair", "clockOf", "(LLeasePair$Server;)I"⟩, 8) := ⟨⟨by decide +kernel, by decide +kernel⟩, List.mem_of_getElem? (i := 14) (by decide +kernel), List.mem_of_getElem? (i := 335) (by decide +kernel), List.mem_of_getElem? (i := 336) (by decide +kernel)⟩
theorem lw_p4 : lw_okq (⟨"java/lang/Throwable", "fillInStackTrace", "(I)Ljava/lang/Throwable;"⟩, 6) := ⟨⟨by decide +kernel, by decide +kernel⟩, List.mem_of_getElem? (i := 545) (by decide +kernel), List.mem_of_getElem? (i := 543) (by decide +kernel), List.mem_of_getElem? (i := 544) (by decide +kernel)⟩
theorem lw_p5 : lw_okq (⟨"LeasePair", "serverOf", "(I)LLeasePair$Server;"⟩, 8) := ⟨⟨by decide +kernel, by decide +kernel⟩, List.mem_of_getElem? (i := 14) (by decide +kernel), List.mem_of_getElem? (i := 577) (by decide +kernel), List.mem_of_getElem? (i := 578) (by decide +kernel)⟩
theorem lw_p6 : lw_okq (⟨"LeasePair", "clientOf", "(I)LLeasePair$Client;"⟩, 8) := ⟨⟨by decide +kernel, by decide +kernel⟩, List.mem_of_getElem? (i := 14) (by decide +kernel), List.mem_of_getElem? (i := 629) (by decide +kernel), List.mem_of_getElem? (i := 630) (by decide +kernel)⟩
theorem lw_p7 : lw_okq (⟨"LeasePairModel", "isRight", "(Z)Z"⟩, 36) := ⟨⟨by decide +kernel, by decide +kernel⟩, List.mem_of_getElem? (i := 766) (by decide +kernel), List.mem_of_getElem? (i := 893) (by decide +kernel), List.mem_of_getElem? (i := 894) (by decide +kernel)⟩
theorem lw_p8 : lw_okq (⟨"LeasePairModel", "isServer", "(I)Z"⟩, 36) := ⟨⟨by decide +kernel, by decide +kernel⟩, List.mem_of_getElem? (i := 766) (by decide +kernel), List.mem_of_getElem? (i := 901) (by decide +kernel), List.mem_of_getElem? (i := 902) (by decide +kernel)⟩
theorem lw_p9 : lw_okq (⟨"LeasePairModel", "writes", "(I)Z"⟩, 36) := ⟨⟨by decide +kernel, by decide +kernel⟩, List.mem_of_getElem? (i := 766) (by decide +kernel), List.mem_of_getElem? (i := 917) (by decide +kernel), List.mem_of_getElem? (i := 918) (by decide +kernel)⟩
theorem lw_p10 : lw_okq (⟨"LeasePairModel", "sendHello", "(I)V"⟩, 36) := ⟨⟨by decide +kernel, by decide +kernel⟩, List.mem_of_getElem? (i := 766) (by decide +kernel), List.mem_of_getElem? (i := 921) (by decide +kernel), List.mem_of_getElem? (i := 922) (by decide +kernel)⟩
theorem lw_p11 : lw_okq (⟨"LeasePairModel", "say", "(IIIIIII)V"⟩, 36) := ⟨⟨by decide +kernel, by decide +kernel⟩, List.mem_of_getElem? (i := 766) (by decide +kernel), List.mem_of_getElem? (i := 925) (by decide +kernel), List.mem_of_getElem? (i := 926) (by decide +kernel)⟩
theorem lw_p12 : lw_okq (⟨"LeasePairModel", "put", "()V"⟩, 36) := ⟨⟨by decide +kernel, by decide +kernel⟩, List.mem_of_getElem? (i := 766) (by decide +kernel), List.mem_of_getElem? (i := 929) (by decide +kernel), List.mem_of_getElem? (i := 930) (by decide +kernel)⟩
theorem lw_p13 : lw_okq (⟨"LeasePairModel", "remove", "(I)V"⟩, 36) := ⟨⟨by decide +kernel, by decide +kernel⟩, List.mem_of_getElem? (i := 766) (by decide +kernel), List.mem_of_getElem? (i := 933) (by decide +kernel), List.mem_of_getElem? (i := 934) (by decide +kernel)⟩
theorem lw_p14 : lw_okq (⟨"LeasePairModel", "clock", "(I)I"⟩, 36) := ⟨⟨by decide +kernel, by decide +kernel⟩, List.mem_of_getElem? (i := 766) (by decide +kernel), List.mem_of_getElem? (i := 941) (by decide +kernel), List.mem_of_getElem? (i := 942) (by decide +kernel)⟩
theorem lw_p15 : lw_okq (⟨"LeasePairModel", "sendUpdate", "(II)V"⟩, 36) := ⟨⟨by decide +kernel, by decide +kernel⟩, List.mem_of_getElem? (i := 766) (by decide +kernel), List.mem_of_getElem? (i := 953) (by decide +kernel), List.mem_of_getElem? (i := 954) (by decide +kernel)⟩
def lw_privs_1 : List (MethodName × Nat) := [(⟨"LeasePair", "deliver", "(LLeasePair$Message;)Z"⟩, 8), (⟨"LeasePair", "deliverAnswer", "(LLeasePair$Message;)Z"⟩, 8), (⟨"LeasePair", "countHolders", "(I)I"⟩, 8), (⟨"LeasePair", "clockOf", "(LLeasePair$Server;)I"⟩, 8), (⟨"java/lang/Throwable", "fillInStackTrace", "(I)Ljava/lang/Throwable;"⟩, 6), (⟨"LeasePair", "serverOf", "(I)LLeasePair$Server;"⟩, 8), (⟨"LeasePair", "clientOf", "(I)LLeasePair$Client;"⟩, 8), (⟨"LeasePairModel", "isRight", "(Z)Z"⟩, 36), (⟨"LeasePairModel", "isServer", "(I)Z"⟩, 36), (⟨"LeasePairModel", "writes", "(I)Z"⟩, 36), (⟨"LeasePairModel", "sendHello", "(I)V"⟩, 36), (⟨"LeasePairModel", "say", "(IIIIIII)V"⟩, 36), (⟨"LeasePairModel", "put", "()V"⟩, 36), (⟨"LeasePairModel", "remove", "(I)V"⟩, 36), (⟨"LeasePairModel", "clock", "(I)I"⟩, 36), (⟨"LeasePairModel", "sendUpdate", "(II)V"⟩, 36)]
theorem lw_r1 : ∀ q ∈ lw_privs_1, lw_okq q := List.forall_mem_cons.mpr ⟨lw_p0, List.forall_mem_cons.mpr ⟨lw_p1, List.forall_mem_cons.mpr ⟨lw_p2, List.forall_mem_cons.mpr ⟨lw_p3, List.forall_mem_cons.mpr ⟨lw_p4, List.forall_mem_cons.mpr ⟨lw_p5, List.forall_mem_cons.mpr ⟨lw_p6, List.forall_mem_cons.mpr ⟨lw_p7, List.forall_mem_cons.mpr ⟨lw_p8, List.forall_mem_cons.mpr ⟨lw_p9, List.forall_mem_cons.mpr ⟨lw_p10, List.forall_mem_cons.mpr ⟨lw_p11, List.forall_mem_cons.mpr ⟨lw_p12, List.forall_mem_cons.mpr ⟨lw_p13, List.forall_mem_cons.mpr ⟨lw_p14, List.forall_mem_cons.mpr ⟨lw_p15, fun _ h => absurd h List.not_mem_nil⟩⟩⟩⟩⟩⟩⟩⟩⟩⟩⟩⟩⟩⟩⟩⟩
theorem lw_p16 : lw_okq (⟨"LeasePairModel", "ends", "(II)Z"⟩, 36) := ⟨⟨by decide +kernel, by decide +kernel⟩, List.mem_of_getElem? (i := 766) (by decide +kernel), List.mem_of_getElem? (i := 961) (by decide +kernel), List.mem_of_getElem? (i := 962) (by decide +kernel)⟩
theorem lw_p17 : lw_okq (⟨"LeasePairModel", "change", "(I)V"⟩, 36) := ⟨⟨by decide +kernel, by decide +kernel⟩, List.mem_of_getElem? (i := 766) (by decide +kernel), List.mem_of_getElem? (i := 968) (by decide +kernel), List.mem_of_getElem? (i := 969) (by decide +kernel)⟩
theorem lw_p18 : lw_okq (⟨"LeasePairModel", "isPlace", "(I)Z"⟩, 36) := ⟨⟨by decide +kernel, by decide +kernel⟩, List.mem_of_getElem? (i := 766) (by decide +kernel), List.mem_of_getElem? (i := 980) (by decide +kernel), List.mem_of_getElem? (i := 981) (by decide +kernel)⟩
theorem lw_p19 : lw_okq (⟨"LeasePairModel", "hears", "([I)Z"⟩, 36) := ⟨⟨by decide +kernel, by decide +kernel⟩, List.mem_of_getElem? (i := 766) (by decide +kernel), List.mem_of_getElem? (i := 984) (by decide +kernel), List.mem_of_getElem? (i := 985) (by decide +kernel)⟩
theorem lw_p20 : lw_okq (⟨"LeasePairModel", "count", "(I)V"⟩, 36) := ⟨⟨by decide +kernel, by decide +kernel⟩, List.mem_of_getElem? (i := 766) (by decide +kernel), List.mem_of_getElem? (i := 988) (by decide +kernel), List.mem_of_getElem? (i := 989) (by decide +kernel)⟩
theorem lw_p21 : lw_okq (⟨"LeasePairModel", "holds", "(I)Z"⟩, 36) := ⟨⟨by decide +kernel, by decide +kernel⟩, List.mem_of_getElem? (i := 766) (by decide +kernel), List.mem_of_getElem? (i := 992) (by decide +kernel), List.mem_of_getElem? (i := 993) (by decide +kernel)⟩
theorem lw_p22 : lw_okq (⟨"LeasePairModel", "hearHello", "(II)V"⟩, 36) := ⟨⟨by decide +kernel, by decide +kernel⟩, List.mem_of_getElem? (i := 766) (by decide +kernel), List.mem_of_getElem? (i := 996) (by decide +kernel), List.mem_of_getElem? (i := 997) (by decide +kernel)⟩
theorem lw_p23 : lw_okq (⟨"LeasePairModel", "hearUpdate", "(I[I)V"⟩, 36) := ⟨⟨by decide +kernel, by decide +kernel⟩, List.mem_of_getElem? (i := 766) (by decide +kernel), List.mem_of_getElem? (i := 1000) (by decide +kernel), List.mem_of_getElem? (i := 1001) (by decide +kernel)⟩
theorem lw_p24 : lw_okq (⟨"LeasePairModel", "takes", "(II[I)Z"⟩, 36) := ⟨⟨by decide +kernel, by decide +kernel⟩, List.mem_of_getElem? (i := 766) (by decide +kernel), List.mem_of_getElem? (i := 1004) (by decide +kernel), List.mem_of_getElem? (i := 1005) (by decide +kernel)⟩
theorem lw_p25 : lw_okq (⟨"LeasePairModel", "turns", "(II)V"⟩, 36) := ⟨⟨by decide +kernel, by decide +kernel⟩, List.mem_of_getElem? (i := 766) (by decide +kernel), List.mem_of_getElem? (i := 1008) (by decide +kernel), List.mem_of_getElem? (i := 1009) (by decide +kernel)⟩
theorem lw_p26 : lw_okq (⟨"LeasePairModel", "takesBound", "(I[IZ)Z"⟩, 36) := ⟨⟨by decide +kernel, by decide +kernel⟩, List.mem_of_getElem? (i := 766) (by decide +kernel), List.mem_of_getElem? (i := 1012) (by decide +kernel), List.mem_of_getElem? (i := 1013) (by decide +kernel)⟩
theorem lw_p27 : lw_okq (⟨"LeasePairModel", "bind", "(IIII)V"⟩, 36) := ⟨⟨by decide +kernel, by decide +kernel⟩, List.mem_of_getElem? (i := 766) (by decide +kernel), List.mem_of_getElem? (i := 1016) (by decide +kernel), List.mem_of_getElem? (i := 1017) (by decide +kernel)⟩
theorem lw_p28 : lw_okq (⟨"LeasePairModel", "areFresh", "(I)Z"⟩, 36) := ⟨⟨by decide +kernel, by decide +kernel⟩, List.mem_of_getElem? (i := 766) (by decide +kernel), List.mem_of_getElem? (i := 1020) (by decide +kernel), List.mem_of_getElem? (i := 1021) (by decide +kernel)⟩
theorem lw_p29 : lw_okq (⟨"LeasePairModel", "sendAck", "(IIII)V"⟩, 36) := ⟨⟨by decide +kernel, by decide +kernel⟩, List.mem_of_getElem? (i := 766) (by decide +kernel), List.mem_of_getElem? (i := 1024) (by decide +kernel), List.mem_of_getElem? (i := 1025) (by decide +kernel)⟩
theorem lw_p30 : lw_okq (⟨"LeasePairModel", "hearAck", "(I[I)V"⟩, 36) := ⟨⟨by decide +kernel, by decide +kernel⟩, List.mem_of_getElem? (i := 766) (by decide +kernel), List.mem_of_getElem? (i := 1028) (by decide +kernel), List.mem_of_getElem? (i := 1029) (by decide +kernel)⟩
theorem lw_p31 : lw_okq (⟨"LeasePairModel", "hearNew", "(IIII)V"⟩, 36) := ⟨⟨by decide +kernel, by decide +kernel⟩, List.mem_of_getElem? (i := 766) (by decide +kernel), List.mem_of_getElem? (i := 1032) (by decide +kernel), List.mem_of_getElem? (i := 1033) (by decide +kernel)⟩
def lw_privs_2 : List (MethodName × Nat) := [(⟨"LeasePairModel", "ends", "(II)Z"⟩, 36), (⟨"LeasePairModel", "change", "(I)V"⟩, 36), (⟨"LeasePairModel", "isPlace", "(I)Z"⟩, 36), (⟨"LeasePairModel", "hears", "([I)Z"⟩, 36), (⟨"LeasePairModel", "count", "(I)V"⟩, 36), (⟨"LeasePairModel", "holds", "(I)Z"⟩, 36), (⟨"LeasePairModel", "hearHello", "(II)V"⟩, 36), (⟨"LeasePairModel", "hearUpdate", "(I[I)V"⟩, 36), (⟨"LeasePairModel", "takes", "(II[I)Z"⟩, 36), (⟨"LeasePairModel", "turns", "(II)V"⟩, 36), (⟨"LeasePairModel", "takesBound", "(I[IZ)Z"⟩, 36), (⟨"LeasePairModel", "bind", "(IIII)V"⟩, 36), (⟨"LeasePairModel", "areFresh", "(I)Z"⟩, 36), (⟨"LeasePairModel", "sendAck", "(IIII)V"⟩, 36), (⟨"LeasePairModel", "hearAck", "(I[I)V"⟩, 36), (⟨"LeasePairModel", "hearNew", "(IIII)V"⟩, 36)]
theorem lw_r2 : ∀ q ∈ lw_privs_2, lw_okq q := List.forall_mem_cons.mpr ⟨lw_p16, List.forall_mem_cons.mpr ⟨lw_p17, List.forall_mem_cons.mpr ⟨lw_p18, List.forall_mem_cons.mpr ⟨lw_p19, List.forall_mem_cons.mpr ⟨lw_p20, List.forall_mem_cons.mpr ⟨lw_p21, List.forall_mem_cons.mpr ⟨lw_p22, List.forall_mem_cons.mpr ⟨lw_p23, List.forall_mem_cons.mpr ⟨lw_p24, List.forall_mem_cons.mpr ⟨lw_p25, List.forall_mem_cons.mpr ⟨lw_p26, List.forall_mem_cons.mpr ⟨lw_p27, List.forall_mem_cons.mpr ⟨lw_p28, List.forall_mem_cons.mpr ⟨lw_p29, List.forall_mem_cons.mpr ⟨lw_p30, List.forall_mem_cons.mpr ⟨lw_p31, fun _ h => absurd h List.not_mem_nil⟩⟩⟩⟩⟩⟩⟩⟩⟩⟩⟩⟩⟩⟩⟩⟩
theorem lw_p32 : lw_okq (⟨"LeasePairModel", "hearRenew", "(IIIII)V"⟩, 36) := ⟨⟨by decide +kernel, by decide +kernel⟩, List.mem_of_getElem? (i := 766) (by decide +kernel), List.mem_of_getElem? (i := 1036) (by decide +kernel), List.mem_of_getElem? (i := 1037) (by decide +kernel)⟩
theorem lw_p33 : lw_okq (⟨"LeasePairModel", "answer", "(IIZIII)V"⟩, 36) := ⟨⟨by decide +kernel, by decide +kernel⟩, List.mem_of_getElem? (i := 766) (by decide +kernel), List.mem_of_getElem? (i := 1040) (by decide +kernel), List.mem_of_getElem? (i := 1041) (by decide +kernel)⟩
theorem lw_p34 : lw_okq (⟨"LeasePairModel", "hearRelease", "(IIII)V"⟩, 36) := ⟨⟨by decide +kernel, by decide +kernel⟩, List.mem_of_getElem? (i := 766) (by decide +kernel), List.mem_of_getElem? (i := 1044) (by decide +kernel), List.mem_of_getElem? (i := 1045) (by decide +kernel)⟩
def lw_privs_3 : List (MethodName × Nat) := [(⟨"LeasePairModel", "hearRenew", "(IIIII)V"⟩, 36), (⟨"LeasePairModel", "answer", "(IIZIII)V"⟩, 36), (⟨"LeasePairModel", "hearRelease", "(IIII)V"⟩, 36)]
theorem lw_r3 : ∀ q ∈ lw_privs_3, lw_okq q := List.forall_mem_cons.mpr ⟨lw_p32, List.forall_mem_cons.mpr ⟨lw_p33, List.forall_mem_cons.mpr ⟨lw_p34, fun _ h => absurd h List.not_mem_nil⟩⟩⟩
def lw_privs : List (MethodName × Nat) := lw_privs_1 ++ (lw_privs_2 ++ (lw_privs_3))
def lw_tbl : List Cond := k2_sels lw_privs ++ tables_1
theorem lw_privs_ok : ∀ q ∈ lw_privs, lw_okq q := by
  show ∀ q ∈ lw_privs_1 ++ (lw_privs_2 ++ (lw_privs_3)), lw_okq q
  exact List.forall_mem_append.mpr ⟨lw_r1, List.forall_mem_append.mpr ⟨lw_r2, lw_r3⟩⟩
end
section
/-! names: classes, fields, methods -/
def R_LP : String := "LeasePair"
def R_Srv : String := "LeasePair$Server"
def R_Rec : String := "LeasePair$LeaseRecord"
def R_Cli : String := "LeasePair$Client"
def R_Net : String := "LeasePair$Net"
def R_Msg : String := "LeasePair$Message"
def R_Mod : String := "LeasePairModel"
def R_Law : String := "LeasePairLaw"
def F_LP : u_T := fun k => match k with
  | 0 => ("LeasePair", "addresses", "I", true)
  | 1 => ("LeasePair", "skew", "I", true)
  | 2 => ("LeasePair", "servers", "[LLeasePair$Server;", true)
  | 3 => ("LeasePair", "clients", "[LLeasePair$Client;", true)
  | 4 => ("LeasePair", "net", "LLeasePair$Net;", true)
  | 5 => ("LeasePair", "inHand", "LLeasePair$Message;", true)
  | 6 => ("LeasePair", "time", "I", false)
  | _ => ("LeasePair", "most", "I", false)
def t_LP : Nat → FieldType := fun k => match k with
  | 0 => .int
  | 1 => .int
  | 2 => .array (.object "LeasePair$Server")
  | 3 => .array (.object "LeasePair$Client")
  | 4 => .object "LeasePair$Net"
  | 5 => .object "LeasePair$Message"
  | 6 => .int
  | _ => .int
def F_Srv : u_T := fun k => match k with
  | 0 => ("LeasePair$Server", "number", "I", true)
  | 1 => ("LeasePair$Server", "partner", "I", true)
  | 2 => ("LeasePair$Server", "lead", "I", true)
  | 3 => ("LeasePair$Server", "skew", "I", true)
  | 4 => ("LeasePair$Server", "records", "[LLeasePair$LeaseRecord;", true)
  | 5 => ("LeasePair$Server", "offset", "I", false)
  | 6 => ("LeasePair$Server", "state", "I", false)
  | 7 => ("LeasePair$Server", "epoch", "I", false)
  | 8 => ("LeasePair$Server", "live", "I", false)
  | 9 => ("LeasePair$Server", "heard", "I", false)
  | 10 => ("LeasePair$Server", "declared", "I", false)
  | 11 => ("LeasePair$Server", "writes", "I", false)
  | _ => ("LeasePair$Server", "writesLeft", "I", false)
def t_Srv : Nat → FieldType := fun k => match k with
  | 0 => .int
  | 1 => .int
  | 2 => .int
  | 3 => .int
  | 4 => .array (.object "LeasePair$LeaseRecord")
  | 5 => .int
  | 6 => .int
  | 7 => .int
  | 8 => .int
  | 9 => .int
  | 10 => .int
  | 11 => .int
  | _ => .int
def F_Rec : u_T := fun k => match k with
  | 0 => ("LeasePair$LeaseRecord", "kind", "I", false)
  | 1 => ("LeasePair$LeaseRecord", "client", "I", false)
  | 2 => ("LeasePair$LeaseRecord", "end", "I", false)
  | 3 => ("LeasePair$LeaseRecord", "request", "I", false)
  | 4 => ("LeasePair$LeaseRecord", "released", "Z", false)
  | 5 => ("LeasePair$LeaseRecord", "version", "I", false)
  | 6 => ("LeasePair$LeaseRecord", "since", "I", false)
  | 7 => ("LeasePair$LeaseRecord", "pending", "Z", false)
  | 8 => ("LeasePair$LeaseRecord", "known", "I", false)
  | 9 => ("LeasePair$LeaseRecord", "seen", "I", false)
  | 10 => ("LeasePair$LeaseRecord", "voidUpTo", "I", false)
  | 11 => ("LeasePair$LeaseRecord", "sole", "Z", false)
  | _ => ("LeasePair$LeaseRecord", "fresh", "Z", false)
def t_Rec : Nat → FieldType := fun k => match k with
  | 0 => .int
  | 1 => .int
  | 2 => .int
  | 3 => .int
  | 4 => .boolean
  | 5 => .int
  | 6 => .int
  | 7 => .boolean
  | 8 => .int
  | 9 => .int
  | 10 => .int
  | 11 => .boolean
  | _ => .boolean
def F_Cli : u_T := fun k => match k with
  | 0 => ("LeasePair$Client", "lastRequest", "I", false)
  | 1 => ("LeasePair$Client", "lastKind", "I", false)
  | 2 => ("LeasePair$Client", "address", "I", false)
  | _ => ("LeasePair$Client", "until", "I", false)
def t_Cli : Nat → FieldType := fun k => match k with
  | 0 => .int
  | 1 => .int
  | 2 => .int
  | _ => .int
def F_Net : u_T := fun k => match k with
  | 0 => ("LeasePair$Net", "ring", "[LLeasePair$Message;", false)
  | 1 => ("LeasePair$Net", "taken", "[LLeasePair$Message;", false)
  | 2 => ("LeasePair$Net", "first", "I", false)
  | 3 => ("LeasePair$Net", "firstTaken", "I", false)
  | _ => ("LeasePair$Net", "count", "I", false)
def t_Net : Nat → FieldType := fun k => match k with
  | 0 => .array (.object "LeasePair$Message")
  | 1 => .array (.object "LeasePair$Message")
  | 2 => .int
  | 3 => .int
  | _ => .int
def F_Msg : u_T := fun k => match k with
  | 0 => ("LeasePair$Message", "type", "I", false)
  | 1 => ("LeasePair$Message", "from", "I", false)
  | 2 => ("LeasePair$Message", "to", "I", false)
  | 3 => ("LeasePair$Message", "kind", "I", false)
  | 4 => ("LeasePair$Message", "address", "I", false)
  | 5 => ("LeasePair$Message", "number", "I", false)
  | 6 => ("LeasePair$Message", "amount", "I", false)
  | 7 => ("LeasePair$Message", "epoch", "I", false)
  | 8 => ("LeasePair$Message", "heard", "I", false)
  | 9 => ("LeasePair$Message", "client", "I", false)
  | 10 => ("LeasePair$Message", "request", "I", false)
  | 11 => ("LeasePair$Message", "released", "Z", false)
  | 12 => ("LeasePair$Message", "seen", "I", false)
  | 13 => ("LeasePair$Message", "voidUpTo", "I", false)
  | _ => ("LeasePair$Message", "ownVersion", "I", false)
def t_Msg : Nat → FieldType := fun k => match k with
  | 0 => .int
  | 1 => .int
  | 2 => .int
  | 3 => .int
  | 4 => .int
  | 5 => .int
  | 6 => .int
  | 7 => .int
  | 8 => .int
  | 9 => .int
  | 10 => .int
  | 11 => .boolean
  | 12 => .int
  | 13 => .int
  | _ => .int
def F_Mod : u_T := fun k => match k with
  | 0 => ("LeasePairModel", "code", "I", false)
  | 1 => ("LeasePairModel", "addresses", "I", true)
  | 2 => ("LeasePairModel", "lead", "I", true)
  | 3 => ("LeasePairModel", "skew", "I", true)
  | 4 => ("LeasePairModel", "time", "I", false)
  | 5 => ("LeasePairModel", "state", "[I", true)
  | 6 => ("LeasePairModel", "offset", "[I", true)
  | 7 => ("LeasePairModel", "epoch", "[I", true)
  | 8 => ("LeasePairModel", "live", "[I", true)
  | 9 => ("LeasePairModel", "heard", "[I", true)
  | 10 => ("LeasePairModel", "declared", "[I", true)
  | 11 => ("LeasePairModel", "fuse", "[I", true)
  | 12 => ("LeasePairModel", "writes", "[I", true)
  | 13 => ("LeasePairModel", "kind", "[I", true)
  | 14 => ("LeasePairModel", "client", "[I", true)
  | 15 => ("LeasePairModel", "end", "[I", true)
  | 16 => ("LeasePairModel", "request", "[I", true)
  | 17 => ("LeasePairModel", "released", "[Z", true)
  | 18 => ("LeasePairModel", "version", "[I", true)
  | 19 => ("LeasePairModel", "since", "[I", true)
  | 20 => ("LeasePairModel", "pending", "[Z", true)
  | 21 => ("LeasePairModel", "known", "[I", true)
  | 22 => ("LeasePairModel", "seen", "[I", true)
  | 23 => ("LeasePairModel", "voidTo", "[I", true)
  | 24 => ("LeasePairModel", "sole", "[Z", true)
  | 25 => ("LeasePairModel", "fresh", "[Z", true)
  | 26 => ("LeasePairModel", "leased", "[I", true)
  | 27 => ("LeasePairModel", "until", "[I", true)
  | 28 => ("LeasePairModel", "last", "[I", true)
  | 29 => ("LeasePairModel", "lastKind", "[I", true)
  | 30 => ("LeasePairModel", "most", "I", false)
  | 31 => ("LeasePairModel", "messages", "I", false)
  | 32 => ("LeasePairModel", "net", "[I", true)
  | 33 => ("LeasePairModel", "taken", "[I", true)
  | 34 => ("LeasePairModel", "said", "[I", true)
  | _ => ("LeasePairModel", "read", "[I", true)
def t_Mod : Nat → FieldType := fun k => match k with
  | 0 => .int
  | 1 => .int
  | 2 => .int
  | 3 => .int
  | 4 => .int
  | 5 => .array .int
  | 6 => .array .int
  | 7 => .array .int
  | 8 => .array .int
  | 9 => .array .int
  | 10 => .array .int
  | 11 => .array .int
  | 12 => .array .int
  | 13 => .array .int
  | 14 => .array .int
  | 15 => .array .int
  | 16 => .array .int
  | 17 => .array .boolean
  | 18 => .array .int
  | 19 => .array .int
  | 20 => .array .boolean
  | 21 => .array .int
  | 22 => .array .int
  | 23 => .array .int
  | 24 => .array .boolean
  | 25 => .array .boolean
  | 26 => .array .int
  | 27 => .array .int
  | 28 => .array .int
  | 29 => .array .int
  | 30 => .int
  | 31 => .int
  | 32 => .array .int
  | 33 => .array .int
  | 34 => .array .int
  | _ => .array .int
def classes : List vw_C := [(R_LP, F_LP, 8), (R_Srv, F_Srv, 13), (R_Rec, F_Rec, 13), (R_Cli, F_Cli, 4), (R_Net, F_Net, 5), (R_Msg, F_Msg, 15), (R_Mod, F_Mod, 36)]
abbrev b_LP_init : ByteArray := prog_1_method_1_code
def md_LP_init : MethodName × ByteArray × Nat × Option FieldType := (⟨R_LP, "<init>", "(III)V"⟩, b_LP_init, 6, none)
abbrev b_LP_seconds : ByteArray := prog_1_method_2_code
def md_LP_seconds : MethodName × ByteArray × Nat × Option FieldType := (⟨R_LP, "seconds", "(I)I"⟩, b_LP_seconds, 2, some .int)
abbrev b_LP_skew : ByteArray := prog_1_method_3_code
def md_LP_skew : MethodName × ByteArray × Nat × Option FieldType := (⟨R_LP, "skew", "(II)I"⟩, b_LP_skew, 5, some .int)
abbrev b_LP_kill : ByteArray := prog_1_method_4_code
def md_LP_kill : MethodName × ByteArray × Nat × Option FieldType := (⟨R_LP, "kill", "(I)Z"⟩, b_LP_kill, 4, some .boolean)
abbrev b_LP_fuse : ByteArray := prog_1_method_5_code
def md_LP_fuse : MethodName × ByteArray × Nat × Option FieldType := (⟨R_LP, "fuse", "(II)V"⟩, b_LP_fuse, 4, none)
abbrev b_LP_start : ByteArray := prog_1_method_6_code
def md_LP_start : MethodName × ByteArray × Nat × Option FieldType := (⟨R_LP, "start", "(I)Z"⟩, b_LP_start, 3, some .boolean)
abbrev b_LP_partnerDown : ByteArray := prog_1_method_7_code
def md_LP_partnerDown : MethodName × ByteArray × Nat × Option FieldType := (⟨R_LP, "partnerDown", "(I)Z"⟩, b_LP_partnerDown, 3, some .boolean)
abbrev b_LP_ask : ByteArray := prog_1_method_8_code
def md_LP_ask : MethodName × ByteArray × Nat × Option FieldType := (⟨R_LP, "ask", "(IIIII)I"⟩, b_LP_ask, 8, some .int)
abbrev b_LP_send : ByteArray := prog_1_method_9_code
def md_LP_send : MethodName × ByteArray × Nat × Option FieldType := (⟨R_LP, "send", "(I)I"⟩, b_LP_send, 3, some .int)
abbrev b_LP_tidy : ByteArray := prog_1_method_10_code
def md_LP_tidy : MethodName × ByteArray × Nat × Option FieldType := (⟨R_LP, "tidy", "(I)I"⟩, b_LP_tidy, 3, some .int)
abbrev b_LP_give : ByteArray := prog_1_method_11_code
def md_LP_give : MethodName × ByteArray × Nat × Option FieldType := (⟨R_LP, "give", "(II)I"⟩, b_LP_give, 4, some .int)
abbrev b_LP_carry : ByteArray := prog_1_method_12_code
def md_LP_carry : MethodName × ByteArray × Nat × Option FieldType := (⟨R_LP, "carry", "(I)Z"⟩, b_LP_carry, 2, some .boolean)
abbrev b_LP_carryAll : ByteArray := prog_1_method_13_code
def md_LP_carryAll : MethodName × ByteArray × Nat × Option FieldType := (⟨R_LP, "carryAll", "()I"⟩, b_LP_carryAll, 3, some .int)
abbrev b_LP_drop : ByteArray := prog_1_method_14_code
def md_LP_drop : MethodName × ByteArray × Nat × Option FieldType := (⟨R_LP, "drop", "(I)I"⟩, b_LP_drop, 2, some .int)
abbrev b_LP_messages : ByteArray := prog_1_method_15_code
def md_LP_messages : MethodName × ByteArray × Nat × Option FieldType := (⟨R_LP, "messages", "()I"⟩, b_LP_messages, 1, some .int)
abbrev b_LP_message : ByteArray := prog_1_method_16_code
def md_LP_message : MethodName × ByteArray × Nat × Option FieldType := (⟨R_LP, "message", "(II)I"⟩, b_LP_message, 3, some .int)
abbrev b_LP_client : ByteArray := prog_1_method_17_code
def md_LP_client : MethodName × ByteArray × Nat × Option FieldType := (⟨R_LP, "client", "(II)I"⟩, b_LP_client, 4, some .int)
abbrev b_LP_record : ByteArray := prog_1_method_18_code
def md_LP_record : MethodName × ByteArray × Nat × Option FieldType := (⟨R_LP, "record", "(III)I"⟩, b_LP_record, 5, some .int)
abbrev b_LP_server : ByteArray := prog_1_method_19_code
def md_LP_server : MethodName × ByteArray × Nat × Option FieldType := (⟨R_LP, "server", "(II)I"⟩, b_LP_server, 4, some .int)
abbrev b_LP_most : ByteArray := prog_1_method_20_code
def md_LP_most : MethodName × ByteArray × Nat × Option FieldType := (⟨R_LP, "most", "()I"⟩, b_LP_most, 1, some .int)
abbrev b_LP_within : ByteArray := prog_1_method_21_code
def md_LP_within : MethodName × ByteArray × Nat × Option FieldType := (⟨R_LP, "within", "(III)I"⟩, b_LP_within, 3, some .int)
abbrev b_LP_isWithin : ByteArray := prog_1_method_22_code
def md_LP_isWithin : MethodName × ByteArray × Nat × Option FieldType := (⟨R_LP, "isWithin", "(III)Z"⟩, b_LP_isWithin, 3, some .boolean)
abbrev b_LP_need : ByteArray := prog_1_method_23_code
def md_LP_need : MethodName × ByteArray × Nat × Option FieldType := (⟨R_LP, "need", "(Z)V"⟩, b_LP_need, 1, none)
abbrev b_LP_serverOf : ByteArray := prog_1_method_24_code
def md_LP_serverOf : MethodName × ByteArray × Nat × Option FieldType := (⟨R_LP, "serverOf", "(I)LLeasePair$Server;"⟩, b_LP_serverOf, 2, some (.object "LeasePair$Server"))
abbrev b_LP_clientOf : ByteArray := prog_1_method_25_code
def md_LP_clientOf : MethodName × ByteArray × Nat × Option FieldType := (⟨R_LP, "clientOf", "(I)LLeasePair$Client;"⟩, b_LP_clientOf, 2, some (.object "LeasePair$Client"))
abbrev b_LP_clockOf : ByteArray := prog_1_method_26_code
def md_LP_clockOf : MethodName × ByteArray × Nat × Option FieldType := (⟨R_LP, "clockOf", "(LLeasePair$Server;)I"⟩, b_LP_clockOf, 2, some .int)
abbrev b_LP_deliver : ByteArray := prog_1_method_27_code
def md_LP_deliver : MethodName × ByteArray × Nat × Option FieldType := (⟨R_LP, "deliver", "(LLeasePair$Message;)Z"⟩, b_LP_deliver, 3, some .boolean)
abbrev b_LP_deliverAnswer : ByteArray := prog_1_method_28_code
def md_LP_deliverAnswer : MethodName × ByteArray × Nat × Option FieldType := (⟨R_LP, "deliverAnswer", "(LLeasePair$Message;)Z"⟩, b_LP_deliverAnswer, 3, some .boolean)
abbrev b_LP_countHolders : ByteArray := prog_1_method_29_code
def md_LP_countHolders : MethodName × ByteArray × Nat × Option FieldType := (⟨R_LP, "countHolders", "(I)I"⟩, b_LP_countHolders, 4, some .int)
abbrev b_Mod_init : ByteArray := prog_8_method_1_code
def md_Mod_init : MethodName × ByteArray × Nat × Option FieldType := (⟨R_Mod, "<init>", "(III)V"⟩, b_Mod_init, 6, none)
abbrev b_Mod_thrown : ByteArray := prog_8_method_2_code
def md_Mod_thrown : MethodName × ByteArray × Nat × Option FieldType := (⟨R_Mod, "thrown", "()I"⟩, b_Mod_thrown, 1, some .int)
abbrev b_Mod_greater : ByteArray := prog_8_method_3_code
def md_Mod_greater : MethodName × ByteArray × Nat × Option FieldType := (⟨R_Mod, "greater", "(II)I"⟩, b_Mod_greater, 2, some .int)
abbrev b_Mod_clock : ByteArray := prog_8_method_4_code
def md_Mod_clock : MethodName × ByteArray × Nat × Option FieldType := (⟨R_Mod, "clock", "(I)I"⟩, b_Mod_clock, 2, some .int)
abbrev b_Mod_say : ByteArray := prog_8_method_5_code
def md_Mod_say : MethodName × ByteArray × Nat × Option FieldType := (⟨R_Mod, "say", "(IIIIIII)V"⟩, b_Mod_say, 9, none)
abbrev b_Mod_put : ByteArray := prog_8_method_6_code
def md_Mod_put : MethodName × ByteArray × Nat × Option FieldType := (⟨R_Mod, "put", "()V"⟩, b_Mod_put, 2, none)
abbrev b_Mod_remove : ByteArray := prog_8_method_7_code
def md_Mod_remove : MethodName × ByteArray × Nat × Option FieldType := (⟨R_Mod, "remove", "(I)V"⟩, b_Mod_remove, 3, none)
abbrev b_Mod_sendHello : ByteArray := prog_8_method_8_code
def md_Mod_sendHello : MethodName × ByteArray × Nat × Option FieldType := (⟨R_Mod, "sendHello", "(I)V"⟩, b_Mod_sendHello, 2, none)
abbrev b_Mod_sendUpdate : ByteArray := prog_8_method_9_code
def md_Mod_sendUpdate : MethodName × ByteArray × Nat × Option FieldType := (⟨R_Mod, "sendUpdate", "(II)V"⟩, b_Mod_sendUpdate, 4, none)
abbrev b_Mod_sendAck : ByteArray := prog_8_method_10_code
def md_Mod_sendAck : MethodName × ByteArray × Nat × Option FieldType := (⟨R_Mod, "sendAck", "(IIII)V"⟩, b_Mod_sendAck, 5, none)
abbrev b_Mod_writes : ByteArray := prog_8_method_11_code
def md_Mod_writes : MethodName × ByteArray × Nat × Option FieldType := (⟨R_Mod, "writes", "(I)Z"⟩, b_Mod_writes, 2, some .boolean)
abbrev b_Mod_change : ByteArray := prog_8_method_12_code
def md_Mod_change : MethodName × ByteArray × Nat × Option FieldType := (⟨R_Mod, "change", "(I)V"⟩, b_Mod_change, 2, none)
abbrev b_Mod_bind : ByteArray := prog_8_method_13_code
def md_Mod_bind : MethodName × ByteArray × Nat × Option FieldType := (⟨R_Mod, "bind", "(IIII)V"⟩, b_Mod_bind, 5, none)
abbrev b_Mod_answer : ByteArray := prog_8_method_14_code
def md_Mod_answer : MethodName × ByteArray × Nat × Option FieldType := (⟨R_Mod, "answer", "(IIZIII)V"⟩, b_Mod_answer, 7, none)
abbrev b_Mod_hearNew : ByteArray := prog_8_method_15_code
def md_Mod_hearNew : MethodName × ByteArray × Nat × Option FieldType := (⟨R_Mod, "hearNew", "(IIII)V"⟩, b_Mod_hearNew, 9, none)
abbrev b_Mod_hearRenew : ByteArray := prog_8_method_16_code
def md_Mod_hearRenew : MethodName × ByteArray × Nat × Option FieldType := (⟨R_Mod, "hearRenew", "(IIIII)V"⟩, b_Mod_hearRenew, 11, none)
abbrev b_Mod_hearRelease : ByteArray := prog_8_method_17_code
def md_Mod_hearRelease : MethodName × ByteArray × Nat × Option FieldType := (⟨R_Mod, "hearRelease", "(IIII)V"⟩, b_Mod_hearRelease, 7, none)
abbrev b_Mod_hearHello : ByteArray := prog_8_method_18_code
def md_Mod_hearHello : MethodName × ByteArray × Nat × Option FieldType := (⟨R_Mod, "hearHello", "(II)V"⟩, b_Mod_hearHello, 5, none)
abbrev b_Mod_turns : ByteArray := prog_8_method_19_code
def md_Mod_turns : MethodName × ByteArray × Nat × Option FieldType := (⟨R_Mod, "turns", "(II)V"⟩, b_Mod_turns, 3, none)
abbrev b_Mod_takes : ByteArray := prog_8_method_20_code
def md_Mod_takes : MethodName × ByteArray × Nat × Option FieldType := (⟨R_Mod, "takes", "(II[I)Z"⟩, b_Mod_takes, 8, some .boolean)
abbrev b_Mod_takesBound : ByteArray := prog_8_method_21_code
def md_Mod_takesBound : MethodName × ByteArray × Nat × Option FieldType := (⟨R_Mod, "takesBound", "(I[IZ)Z"⟩, b_Mod_takesBound, 5, some .boolean)
abbrev b_Mod_areFresh : ByteArray := prog_8_method_22_code
def md_Mod_areFresh : MethodName × ByteArray × Nat × Option FieldType := (⟨R_Mod, "areFresh", "(I)Z"⟩, b_Mod_areFresh, 4, some .boolean)
abbrev b_Mod_hearUpdate : ByteArray := prog_8_method_23_code
def md_Mod_hearUpdate : MethodName × ByteArray × Nat × Option FieldType := (⟨R_Mod, "hearUpdate", "(I[I)V"⟩, b_Mod_hearUpdate, 7, none)
abbrev b_Mod_hearAck : ByteArray := prog_8_method_24_code
def md_Mod_hearAck : MethodName × ByteArray × Nat × Option FieldType := (⟨R_Mod, "hearAck", "(I[I)V"⟩, b_Mod_hearAck, 6, none)
abbrev b_Mod_hears : ByteArray := prog_8_method_25_code
def md_Mod_hears : MethodName × ByteArray × Nat × Option FieldType := (⟨R_Mod, "hears", "([I)Z"⟩, b_Mod_hears, 4, some .boolean)
abbrev b_Mod_holds : ByteArray := prog_8_method_26_code
def md_Mod_holds : MethodName × ByteArray × Nat × Option FieldType := (⟨R_Mod, "holds", "(I)Z"⟩, b_Mod_holds, 2, some .boolean)
abbrev b_Mod_count : ByteArray := prog_8_method_27_code
def md_Mod_count : MethodName × ByteArray × Nat × Option FieldType := (⟨R_Mod, "count", "(I)V"⟩, b_Mod_count, 4, none)
abbrev b_Mod_isServer : ByteArray := prog_8_method_28_code
def md_Mod_isServer : MethodName × ByteArray × Nat × Option FieldType := (⟨R_Mod, "isServer", "(I)Z"⟩, b_Mod_isServer, 2, some .boolean)
abbrev b_Mod_isRight : ByteArray := prog_8_method_29_code
def md_Mod_isRight : MethodName × ByteArray × Nat × Option FieldType := (⟨R_Mod, "isRight", "(Z)Z"⟩, b_Mod_isRight, 2, some .boolean)
abbrev b_Mod_seconds : ByteArray := prog_8_method_30_code
def md_Mod_seconds : MethodName × ByteArray × Nat × Option FieldType := (⟨R_Mod, "seconds", "(I)I"⟩, b_Mod_seconds, 2, some .int)
abbrev b_Mod_skew : ByteArray := prog_8_method_31_code
def md_Mod_skew : MethodName × ByteArray × Nat × Option FieldType := (⟨R_Mod, "skew", "(II)I"⟩, b_Mod_skew, 4, some .int)
abbrev b_Mod_kill : ByteArray := prog_8_method_32_code
def md_Mod_kill : MethodName × ByteArray × Nat × Option FieldType := (⟨R_Mod, "kill", "(I)Z"⟩, b_Mod_kill, 3, some .boolean)
abbrev b_Mod_fuse : ByteArray := prog_8_method_33_code
def md_Mod_fuse : MethodName × ByteArray × Nat × Option FieldType := (⟨R_Mod, "fuse", "(II)V"⟩, b_Mod_fuse, 3, none)
abbrev b_Mod_start : ByteArray := prog_8_method_34_code
def md_Mod_start : MethodName × ByteArray × Nat × Option FieldType := (⟨R_Mod, "start", "(I)Z"⟩, b_Mod_start, 3, some .boolean)
abbrev b_Mod_partnerDown : ByteArray := prog_8_method_35_code
def md_Mod_partnerDown : MethodName × ByteArray × Nat × Option FieldType := (⟨R_Mod, "partnerDown", "(I)Z"⟩, b_Mod_partnerDown, 3, some .boolean)
abbrev b_Mod_ask : ByteArray := prog_8_method_36_code
def md_Mod_ask : MethodName × ByteArray × Nat × Option FieldType := (⟨R_Mod, "ask", "(IIIII)I"⟩, b_Mod_ask, 7, some .int)
abbrev b_Mod_send : ByteArray := prog_8_method_37_code
def md_Mod_send : MethodName × ByteArray × Nat × Option FieldType := (⟨R_Mod, "send", "(I)I"⟩, b_Mod_send, 4, some .int)
abbrev b_Mod_ends : ByteArray := prog_8_method_38_code
def md_Mod_ends : MethodName × ByteArray × Nat × Option FieldType := (⟨R_Mod, "ends", "(II)Z"⟩, b_Mod_ends, 5, some .boolean)
abbrev b_Mod_tidy : ByteArray := prog_8_method_39_code
def md_Mod_tidy : MethodName × ByteArray × Nat × Option FieldType := (⟨R_Mod, "tidy", "(I)I"⟩, b_Mod_tidy, 4, some .int)
abbrev b_Mod_give : ByteArray := prog_8_method_40_code
def md_Mod_give : MethodName × ByteArray × Nat × Option FieldType := (⟨R_Mod, "give", "(II)I"⟩, b_Mod_give, 5, some .int)
abbrev b_Mod_isPlace : ByteArray := prog_8_method_41_code
def md_Mod_isPlace : MethodName × ByteArray × Nat × Option FieldType := (⟨R_Mod, "isPlace", "(I)Z"⟩, b_Mod_isPlace, 2, some .boolean)
abbrev b_Mod_carry : ByteArray := prog_8_method_42_code
def md_Mod_carry : MethodName × ByteArray × Nat × Option FieldType := (⟨R_Mod, "carry", "(I)Z"⟩, b_Mod_carry, 3, some .boolean)
abbrev b_Mod_carryAll : ByteArray := prog_8_method_43_code
def md_Mod_carryAll : MethodName × ByteArray × Nat × Option FieldType := (⟨R_Mod, "carryAll", "()I"⟩, b_Mod_carryAll, 4, some .int)
abbrev b_Mod_drop : ByteArray := prog_8_method_44_code
def md_Mod_drop : MethodName × ByteArray × Nat × Option FieldType := (⟨R_Mod, "drop", "(I)I"⟩, b_Mod_drop, 2, some .int)
abbrev b_Mod_messages : ByteArray := prog_8_method_45_code
def md_Mod_messages : MethodName × ByteArray × Nat × Option FieldType := (⟨R_Mod, "messages", "()I"⟩, b_Mod_messages, 1, some .int)
abbrev b_Mod_message : ByteArray := prog_8_method_46_code
def md_Mod_message : MethodName × ByteArray × Nat × Option FieldType := (⟨R_Mod, "message", "(II)I"⟩, b_Mod_message, 3, some .int)
abbrev b_Mod_client : ByteArray := prog_8_method_47_code
def md_Mod_client : MethodName × ByteArray × Nat × Option FieldType := (⟨R_Mod, "client", "(II)I"⟩, b_Mod_client, 3, some .int)
abbrev b_Mod_record : ByteArray := prog_8_method_48_code
def md_Mod_record : MethodName × ByteArray × Nat × Option FieldType := (⟨R_Mod, "record", "(III)I"⟩, b_Mod_record, 5, some .int)
abbrev b_Mod_server : ByteArray := prog_8_method_49_code
def md_Mod_server : MethodName × ByteArray × Nat × Option FieldType := (⟨R_Mod, "server", "(II)I"⟩, b_Mod_server, 6, some .int)
abbrev b_Mod_most : ByteArray := prog_8_method_50_code
def md_Mod_most : MethodName × ByteArray × Nat × Option FieldType := (⟨R_Mod, "most", "()I"⟩, b_Mod_most, 1, some .int)
abbrev b_Cli_init : ByteArray := prog_2_method_1_code
def md_Cli_init : MethodName × ByteArray × Nat × Option FieldType := (⟨R_Cli, "<init>", "()V"⟩, b_Cli_init, 1, none)
abbrev b_Cli_request : ByteArray := prog_2_method_2_code
def md_Cli_request : MethodName × ByteArray × Nat × Option FieldType := (⟨R_Cli, "request", "(I)V"⟩, b_Cli_request, 2, none)
abbrev b_Cli_awaits : ByteArray := prog_2_method_3_code
def md_Cli_awaits : MethodName × ByteArray × Nat × Option FieldType := (⟨R_Cli, "awaits", "(I)Z"⟩, b_Cli_awaits, 2, some .boolean)
abbrev b_Cli_takeLease : ByteArray := prog_2_method_4_code
def md_Cli_takeLease : MethodName × ByteArray × Nat × Option FieldType := (⟨R_Cli, "takeLease", "(II)V"⟩, b_Cli_takeLease, 3, none)
abbrev b_Cli_holds : ByteArray := prog_2_method_5_code
def md_Cli_holds : MethodName × ByteArray × Nat × Option FieldType := (⟨R_Cli, "holds", "(II)Z"⟩, b_Cli_holds, 3, some .boolean)
abbrev b_Rec_init : ByteArray := prog_3_method_1_code
def md_Rec_init : MethodName × ByteArray × Nat × Option FieldType := (⟨R_Rec, "<init>", "(I)V"⟩, b_Rec_init, 2, none)
abbrev b_Rec_isBoundTo : ByteArray := prog_3_method_2_code
def md_Rec_isBoundTo : MethodName × ByteArray × Nat × Option FieldType := (⟨R_Rec, "isBoundTo", "(I)Z"⟩, b_Rec_isBoundTo, 2, some .boolean)
abbrev b_Rec_change : ByteArray := prog_3_method_3_code
def md_Rec_change : MethodName × ByteArray × Nat × Option FieldType := (⟨R_Rec, "change", "()V"⟩, b_Rec_change, 1, none)
abbrev b_Rec_changeTo : ByteArray := prog_3_method_4_code
def md_Rec_changeTo : MethodName × ByteArray × Nat × Option FieldType := (⟨R_Rec, "changeTo", "(I)V"⟩, b_Rec_changeTo, 2, none)
abbrev b_Rec_bind : ByteArray := prog_3_method_5_code
def md_Rec_bind : MethodName × ByteArray × Nat × Option FieldType := (⟨R_Rec, "bind", "(IIII)V"⟩, b_Rec_bind, 5, none)
abbrev b_Rec_settle : ByteArray := prog_3_method_6_code
def md_Rec_settle : MethodName × ByteArray × Nat × Option FieldType := (⟨R_Rec, "settle", "(I)V"⟩, b_Rec_settle, 2, none)
abbrev b_Rec_takeBound : ByteArray := prog_3_method_7_code
def md_Rec_takeBound : MethodName × ByteArray × Nat × Option FieldType := (⟨R_Rec, "takeBound", "(LLeasePair$Message;)Z"⟩, b_Rec_takeBound, 2, some .boolean)
abbrev b_Rec_takeEnding : ByteArray := prog_3_method_8_code
def md_Rec_takeEnding : MethodName × ByteArray × Nat × Option FieldType := (⟨R_Rec, "takeEnding", "(LLeasePair$Message;IZ)Z"⟩, b_Rec_takeEnding, 4, some .boolean)
abbrev b_Rec_mayEnd : ByteArray := prog_3_method_9_code
def md_Rec_mayEnd : MethodName × ByteArray × Nat × Option FieldType := (⟨R_Rec, "mayEnd", "(LLeasePair$Message;IZ)Z"⟩, b_Rec_mayEnd, 4, some .boolean)
abbrev b_Rec_takeGiven : ByteArray := prog_3_method_10_code
def md_Rec_takeGiven : MethodName × ByteArray × Nat × Option FieldType := (⟨R_Rec, "takeGiven", "()Z"⟩, b_Rec_takeGiven, 1, some .boolean)
abbrev b_Rec_learnKnown : ByteArray := prog_3_method_11_code
def md_Rec_learnKnown : MethodName × ByteArray × Nat × Option FieldType := (⟨R_Rec, "learnKnown", "(LLeasePair$Message;)Z"⟩, b_Rec_learnKnown, 3, some .boolean)
abbrev b_Rec_learnAcknowledged : ByteArray := prog_3_method_12_code
def md_Rec_learnAcknowledged : MethodName × ByteArray × Nat × Option FieldType := (⟨R_Rec, "learnAcknowledged", "(LLeasePair$Message;)Z"⟩, b_Rec_learnAcknowledged, 2, some .boolean)
abbrev b_Rec_tell : ByteArray := prog_3_method_13_code
def md_Rec_tell : MethodName × ByteArray × Nat × Option FieldType := (⟨R_Rec, "tell", "(I)I"⟩, b_Rec_tell, 2, some .int)
abbrev b_Msg_init : ByteArray := prog_4_method_1_code
def md_Msg_init : MethodName × ByteArray × Nat × Option FieldType := (⟨R_Msg, "<init>", "()V"⟩, b_Msg_init, 1, none)
abbrev b_Msg_begin : ByteArray := prog_4_method_2_code
def md_Msg_begin : MethodName × ByteArray × Nat × Option FieldType := (⟨R_Msg, "begin", "(III)V"⟩, b_Msg_begin, 4, none)
abbrev b_Msg_copy : ByteArray := prog_4_method_3_code
def md_Msg_copy : MethodName × ByteArray × Nat × Option FieldType := (⟨R_Msg, "copy", "(LLeasePair$Message;)V"⟩, b_Msg_copy, 2, none)
abbrev b_Msg_tell : ByteArray := prog_4_method_4_code
def md_Msg_tell : MethodName × ByteArray × Nat × Option FieldType := (⟨R_Msg, "tell", "(I)I"⟩, b_Msg_tell, 2, some .int)
abbrev b_Net_init : ByteArray := prog_5_method_1_code
def md_Net_init : MethodName × ByteArray × Nat × Option FieldType := (⟨R_Net, "<init>", "()V"⟩, b_Net_init, 2, none)
abbrev b_Net_has : ByteArray := prog_5_method_2_code
def md_Net_has : MethodName × ByteArray × Nat × Option FieldType := (⟨R_Net, "has", "(I)Z"⟩, b_Net_has, 2, some .boolean)
abbrev b_Net_at : ByteArray := prog_5_method_3_code
def md_Net_at : MethodName × ByteArray × Nat × Option FieldType := (⟨R_Net, "at", "(I)LLeasePair$Message;"⟩, b_Net_at, 2, some (.object "LeasePair$Message"))
abbrev b_Net_takenAt : ByteArray := prog_5_method_4_code
def md_Net_takenAt : MethodName × ByteArray × Nat × Option FieldType := (⟨R_Net, "takenAt", "(I)LLeasePair$Message;"⟩, b_Net_takenAt, 2, some (.object "LeasePair$Message"))
abbrev b_Net_add : ByteArray := prog_5_method_5_code
def md_Net_add : MethodName × ByteArray × Nat × Option FieldType := (⟨R_Net, "add", "(III)LLeasePair$Message;"⟩, b_Net_add, 5, some (.object "LeasePair$Message"))
abbrev b_Net_remove : ByteArray := prog_5_method_6_code
def md_Net_remove : MethodName × ByteArray × Nat × Option FieldType := (⟨R_Net, "remove", "(I)V"⟩, b_Net_remove, 4, none)
abbrev b_Net_takeAll : ByteArray := prog_5_method_7_code
def md_Net_takeAll : MethodName × ByteArray × Nat × Option FieldType := (⟨R_Net, "takeAll", "()I"⟩, b_Net_takeAll, 3, some .int)
abbrev b_Srv_init : ByteArray := prog_6_method_1_code
def md_Srv_init : MethodName × ByteArray × Nat × Option FieldType := (⟨R_Srv, "<init>", "(IIII)V"⟩, b_Srv_init, 6, none)
abbrev b_Srv_serves : ByteArray := prog_6_method_2_code
def md_Srv_serves : MethodName × ByteArray × Nat × Option FieldType := (⟨R_Srv, "serves", "()Z"⟩, b_Srv_serves, 1, some .boolean)
abbrev b_Srv_hears : ByteArray := prog_6_method_3_code
def md_Srv_hears : MethodName × ByteArray × Nat × Option FieldType := (⟨R_Srv, "hears", "(I)Z"⟩, b_Srv_hears, 2, some .boolean)
abbrev b_Srv_die : ByteArray := prog_6_method_4_code
def md_Srv_die : MethodName × ByteArray × Nat × Option FieldType := (⟨R_Srv, "die", "()V"⟩, b_Srv_die, 1, none)
abbrev b_Srv_write : ByteArray := prog_6_method_5_code
def md_Srv_write : MethodName × ByteArray × Nat × Option FieldType := (⟨R_Srv, "write", "()V"⟩, b_Srv_write, 1, none)
abbrev b_Srv_comeUp : ByteArray := prog_6_method_6_code
def md_Srv_comeUp : MethodName × ByteArray × Nat × Option FieldType := (⟨R_Srv, "comeUp", "()V"⟩, b_Srv_comeUp, 2, none)
abbrev b_Srv_goAlone : ByteArray := prog_6_method_7_code
def md_Srv_goAlone : MethodName × ByteArray × Nat × Option FieldType := (⟨R_Srv, "goAlone", "(I)V"⟩, b_Srv_goAlone, 3, none)
abbrev b_Srv_hearRequest : ByteArray := prog_6_method_8_code
def md_Srv_hearRequest : MethodName × ByteArray × Nat × Option FieldType := (⟨R_Srv, "hearRequest", "(LLeasePair$Message;ILLeasePair$Net;)V"⟩, b_Srv_hearRequest, 6, none)
abbrev b_Srv_leasedTo : ByteArray := prog_6_method_9_code
def md_Srv_leasedTo : MethodName × ByteArray × Nat × Option FieldType := (⟨R_Srv, "leasedTo", "(II)I"⟩, b_Srv_leasedTo, 4, some .int)
abbrev b_Srv_leastOwn : ByteArray := prog_6_method_10_code
def md_Srv_leastOwn : MethodName × ByteArray × Nat × Option FieldType := (⟨R_Srv, "leastOwn", "()I"⟩, b_Srv_leastOwn, 2, some .int)
abbrev b_Srv_leaseNew : ByteArray := prog_6_method_11_code
def md_Srv_leaseNew : MethodName × ByteArray × Nat × Option FieldType := (⟨R_Srv, "leaseNew", "(LLeasePair$Message;I)I"⟩, b_Srv_leaseNew, 6, some .int)
abbrev b_Srv_renew : ByteArray := prog_6_method_12_code
def md_Srv_renew : MethodName × ByteArray × Nat × Option FieldType := (⟨R_Srv, "renew", "(LLeasePair$Message;II)I"⟩, b_Srv_renew, 6, some .int)
abbrev b_Srv_answer : ByteArray := prog_6_method_13_code
def md_Srv_answer : MethodName × ByteArray × Nat × Option FieldType := (⟨R_Srv, "answer", "(LLeasePair$Message;ILLeasePair$Net;)V"⟩, b_Srv_answer, 5, none)
abbrev b_Srv_release : ByteArray := prog_6_method_14_code
def md_Srv_release : MethodName × ByteArray × Nat × Option FieldType := (⟨R_Srv, "release", "(LLeasePair$Message;)V"⟩, b_Srv_release, 3, none)
abbrev b_Srv_hearHello : ByteArray := prog_6_method_15_code
def md_Srv_hearHello : MethodName × ByteArray × Nat × Option FieldType := (⟨R_Srv, "hearHello", "(LLeasePair$Message;LLeasePair$Net;)V"⟩, b_Srv_hearHello, 3, none)
abbrev b_Srv_rejoin : ByteArray := prog_6_method_16_code
def md_Srv_rejoin : MethodName × ByteArray × Nat × Option FieldType := (⟨R_Srv, "rejoin", "()V"⟩, b_Srv_rejoin, 2, none)
abbrev b_Srv_hearUpdate : ByteArray := prog_6_method_17_code
def md_Srv_hearUpdate : MethodName × ByteArray × Nat × Option FieldType := (⟨R_Srv, "hearUpdate", "(LLeasePair$Message;ILLeasePair$Net;)V"⟩, b_Srv_hearUpdate, 8, none)
abbrev b_Srv_takeIn : ByteArray := prog_6_method_18_code
def md_Srv_takeIn : MethodName × ByteArray × Nat × Option FieldType := (⟨R_Srv, "takeIn", "(LLeasePair$Message;LLeasePair$LeaseRecord;I)Z"⟩, b_Srv_takeIn, 4, some .boolean)
abbrev b_Srv_giveWay : ByteArray := prog_6_method_19_code
def md_Srv_giveWay : MethodName × ByteArray × Nat × Option FieldType := (⟨R_Srv, "giveWay", "(LLeasePair$Message;LLeasePair$LeaseRecord;)V"⟩, b_Srv_giveWay, 5, none)
abbrev b_Srv_recover : ByteArray := prog_6_method_20_code
def md_Srv_recover : MethodName × ByteArray × Nat × Option FieldType := (⟨R_Srv, "recover", "()Z"⟩, b_Srv_recover, 1, some .boolean)
abbrev b_Srv_allFresh : ByteArray := prog_6_method_21_code
def md_Srv_allFresh : MethodName × ByteArray × Nat × Option FieldType := (⟨R_Srv, "allFresh", "()Z"⟩, b_Srv_allFresh, 2, some .boolean)
abbrev b_Srv_acknowledge : ByteArray := prog_6_method_22_code
def md_Srv_acknowledge : MethodName × ByteArray × Nat × Option FieldType := (⟨R_Srv, "acknowledge", "(LLeasePair$Message;LLeasePair$LeaseRecord;LLeasePair$Net;)V"⟩, b_Srv_acknowledge, 5, none)
abbrev b_Srv_hearAck : ByteArray := prog_6_method_23_code
def md_Srv_hearAck : MethodName × ByteArray × Nat × Option FieldType := (⟨R_Srv, "hearAck", "(LLeasePair$Message;)V"⟩, b_Srv_hearAck, 5, none)
abbrev b_Srv_sendHello : ByteArray := prog_6_method_24_code
def md_Srv_sendHello : MethodName × ByteArray × Nat × Option FieldType := (⟨R_Srv, "sendHello", "(LLeasePair$Net;)V"⟩, b_Srv_sendHello, 3, none)
abbrev b_Srv_sendUpdate : ByteArray := prog_6_method_25_code
def md_Srv_sendUpdate : MethodName × ByteArray × Nat × Option FieldType := (⟨R_Srv, "sendUpdate", "(ILLeasePair$Net;)V"⟩, b_Srv_sendUpdate, 5, none)
abbrev b_Srv_sendAll : ByteArray := prog_6_method_26_code
def md_Srv_sendAll : MethodName × ByteArray × Nat × Option FieldType := (⟨R_Srv, "sendAll", "(LLeasePair$Net;)V"⟩, b_Srv_sendAll, 3, none)
abbrev b_Srv_sendPending : ByteArray := prog_6_method_27_code
def md_Srv_sendPending : MethodName × ByteArray × Nat × Option FieldType := (⟨R_Srv, "sendPending", "(LLeasePair$Net;)I"⟩, b_Srv_sendPending, 4, some .int)
abbrev b_Srv_endWhatIsOver : ByteArray := prog_6_method_28_code
def md_Srv_endWhatIsOver : MethodName × ByteArray × Nat × Option FieldType := (⟨R_Srv, "endWhatIsOver", "(I)I"⟩, b_Srv_endWhatIsOver, 5, some .int)
abbrev b_Srv_endTogether : ByteArray := prog_6_method_29_code
def md_Srv_endTogether : MethodName × ByteArray × Nat × Option FieldType := (⟨R_Srv, "endTogether", "(LLeasePair$LeaseRecord;I)Z"⟩, b_Srv_endTogether, 3, some .boolean)
abbrev b_Srv_endAlone : ByteArray := prog_6_method_30_code
def md_Srv_endAlone : MethodName × ByteArray × Nat × Option FieldType := (⟨R_Srv, "endAlone", "(LLeasePair$LeaseRecord;I)Z"⟩, b_Srv_endAlone, 3, some .boolean)
abbrev b_Srv_endSole : ByteArray := prog_6_method_31_code
def md_Srv_endSole : MethodName × ByteArray × Nat × Option FieldType := (⟨R_Srv, "endSole", "(LLeasePair$LeaseRecord;I)Z"⟩, b_Srv_endSole, 4, some .boolean)
abbrev b_Srv_takeOver : ByteArray := prog_6_method_32_code
def md_Srv_takeOver : MethodName × ByteArray × Nat × Option FieldType := (⟨R_Srv, "takeOver", "(LLeasePair$LeaseRecord;I)Z"⟩, b_Srv_takeOver, 4, some .boolean)
abbrev b_Srv_handOver : ByteArray := prog_6_method_33_code
def md_Srv_handOver : MethodName × ByteArray × Nat × Option FieldType := (⟨R_Srv, "handOver", "(I)I"⟩, b_Srv_handOver, 4, some .int)
abbrev b_Srv_countOwn : ByteArray := prog_6_method_34_code
def md_Srv_countOwn : MethodName × ByteArray × Nat × Option FieldType := (⟨R_Srv, "countOwn", "()I"⟩, b_Srv_countOwn, 3, some .int)
abbrev b_Srv_countPending : ByteArray := prog_6_method_35_code
def md_Srv_countPending : MethodName × ByteArray × Nat × Option FieldType := (⟨R_Srv, "countPending", "()I"⟩, b_Srv_countPending, 3, some .int)
abbrev b_Srv_tell : ByteArray := prog_6_method_36_code
def md_Srv_tell : MethodName × ByteArray × Nat × Option FieldType := (⟨R_Srv, "tell", "(II)I"⟩, b_Srv_tell, 3, some .int)
abbrev b_Law_cell : ByteArray := method_2_code
def md_Law_cell : MethodName × ByteArray × Nat × Option FieldType := (⟨R_Law, "cell", "([II)I"⟩, b_Law_cell, 2, some .int)
abbrev b_Law_seconds : ByteArray := method_3_code
abbrev b_Law_skew : ByteArray := method_4_code
abbrev b_Law_kill : ByteArray := method_5_code
abbrev b_Law_fuse : ByteArray := method_6_code
abbrev b_Law_start : ByteArray := method_7_code
abbrev b_Law_partnerDown : ByteArray := method_8_code
abbrev b_Law_ask : ByteArray := method_9_code
abbrev b_Law_send : ByteArray := method_10_code
abbrev b_Law_tidy : ByteArray := method_11_code
abbrev b_Law_give : ByteArray := method_12_code
abbrev b_Law_carry : ByteArray := method_13_code
abbrev b_Law_drop : ByteArray := method_14_code
abbrev b_Law_message : ByteArray := method_15_code
abbrev b_Law_client : ByteArray := method_16_code
abbrev b_Law_record : ByteArray := method_17_code
abbrev b_Law_server : ByteArray := method_18_code
abbrev b_Law_law : ByteArray := code
def md_Law_law : MethodName × ByteArray × Nat × Option FieldType := (⟨R_Law, "law", "([I)Z"⟩, b_Law_law, 7, some .boolean)
end
section
/-! the tables: where each field lies, the words -/
def nth {α : Type} (d : α) : List α → Nat → α
  | [], _ => d
  | a :: _, 0 => a
  | _ :: t, n + 1 => nth d t n
def ctab : List (List (Bool × Nat × Nat)) := [[(false, 0, 42), (false, 0, 44), (true, 9, 0), (true, 9, 1), (true, 9, 2), (true, 9, 3), (false, 0, 40), (false, 0, 41)],
  [(false, 1, 60), (false, 1, 61), (false, 1, 62), (false, 1, 63), (true, 9, 4), (false, 0, 1), (false, 0, 0), (false, 0, 2), (false, 0, 3), (false, 0, 4), (false, 0, 5), (false, 0, 7), (false, 0, 6)],
  [(false, 0, 10), (false, 0, 11), (false, 0, 12), (false, 0, 13), (false, 0, 14), (false, 0, 15), (false, 0, 16), (false, 0, 17), (false, 0, 18), (false, 0, 19), (false, 0, 20), (false, 0, 21), (false, 0, 22)],
  [(false, 0, 32), (false, 0, 33), (false, 0, 30), (false, 0, 31)],
  [(true, 9, 5), (true, 9, 6), (false, 1, 70), (false, 1, 71), (false, 1, 72)],
  [(false, 1, 80), (false, 1, 82), (false, 1, 81), (false, 1, 83), (false, 1, 84), (false, 1, 85), (false, 1, 86), (false, 1, 87), (false, 1, 88), (false, 1, 89), (false, 1, 90), (false, 1, 91), (false, 1, 92), (false, 1, 93), (false, 1, 94)],
  [(false, 3, 70), (false, 2, 42), (false, 2, 43), (false, 2, 44), (false, 2, 40), (true, 9, 20), (true, 9, 21), (true, 9, 22), (true, 9, 23), (true, 9, 24), (true, 9, 25), (true, 9, 26), (true, 9, 27), (true, 9, 28), (true, 9, 29), (true, 9, 30), (true, 9, 31), (true, 9, 32), (true, 9, 33), (true, 9, 34), (true, 9, 35), (true, 9, 36), (true, 9, 37), (true, 9, 38), (true, 9, 39), (true, 9, 40), (true, 9, 41), (true, 9, 42), (true, 9, 43), (true, 9, 44), (false, 2, 41), (false, 3, 71), (true, 9, 45), (true, 9, 46), (true, 9, 47), (true, 9, 48)]]
def cinf (ci k : Nat) : Bool × Nat × Nat := nth (true, 9, 999) (nth [] ctab ci) k
def nf (ci : Nat) : Nat := nth 0 [8, 13, 13, 4, 5, 15, 36] ci
def ftyp (ci : Nat) : Nat → FieldType := nth (fun _ => .int) [t_LP, t_Srv, t_Rec, t_Cli, t_Net, t_Msg, t_Mod] ci
def atab : List (Nat × Nat × Nat) := [(2, 9, 10), (2, 9, 11), (2, 9, 12), (2, 9, 13), (2, 9, 14), (2, 9, 15), (2, 9, 1006), (2, 9, 1007), (2, 9, 1008), (2, 9, 1009), (0, 2, 0), (0, 2, 1), (0, 2, 2), (0, 2, 3), (0, 2, 4), (0, 2, 5), (0, 2, 6), (0, 2, 7), (0, 2, 10), (0, 2, 11), (0, 2, 12), (0, 2, 13), (0, 2, 14), (0, 2, 15), (0, 2, 16), (0, 2, 17), (0, 2, 18), (0, 2, 19), (0, 2, 20), (0, 2, 21), (0, 2, 22), (0, 2, 30), (0, 2, 31), (0, 2, 32), (0, 2, 33), (0, 3, 72), (0, 3, 73), (0, 3, 74), (0, 3, 75), (2, 9, 1039), (1, 9, 99), (2, 9, 1041), (2, 9, 1042), (2, 9, 1043), (2, 9, 1044), (2, 9, 1045), (2, 9, 1046), (2, 9, 1047), (2, 9, 1048), (2, 9, 1049), (2, 9, 1050), (2, 9, 1051), (2, 9, 1052), (2, 9, 1053), (2, 9, 1054), (2, 9, 1055), (2, 9, 1056), (2, 9, 1057), (2, 9, 1058), (2, 9, 1059)]
def ainf (a : Nat) : Nat × Nat × Nat := nth (2, 9, 2000) atab a
def aty (a : Nat) : Nat := nth 0 [3, 4, 5, 5, 6, 6, 0, 0, 0, 0, 0, 0, 0, 0, 0, 0, 0, 0, 0, 0, 0, 0, 1, 0, 0, 1, 0, 0, 0, 1, 1, 0, 0, 0, 0, 0, 0, 0, 0, 0, 2, 0, 0, 0, 0, 0, 0, 0, 0, 0, 0, 0, 0, 0, 0, 0, 0, 0, 0, 0] a
def atyT (t : Nat) : FieldType := nth .int [.int, .boolean, .long, .object "LeasePair$Server", .object "LeasePair$Client", .object "LeasePair$LeaseRecord", .object "LeasePair$Message"] t
def WA : List Cond := lw_tbl.filter goodWord
theorem WA_good (w : Cond) (h : w ∈ WA) : (w.onTables && w.keeps) = true ∨ ∃ ty, w = .arrayClass ty := good_of_word (List.mem_filter.mp h).2
theorem wa_0 {w : Cond} (h : w ∈ k2_sels lw_privs) (g : goodWord w = true) : w ∈ WA := List.mem_filter.mpr ⟨List.mem_append_left _ h, g⟩
theorem wa_1 {w : Cond} (h : w ∈ tables_1_1) (g : goodWord w = true) : w ∈ WA := List.mem_filter.mpr ⟨List.mem_append_right _ (List.mem_append_left _ h), g⟩
theorem wa_2 {w : Cond} (h : w ∈ tables_1_2) (g : goodWord w = true) : w ∈ WA := List.mem_filter.mpr ⟨List.mem_append_right _ (List.mem_append_right _ (List.mem_append_left _ h)), g⟩
theorem wa_3 {w : Cond} (h : w ∈ tables_1_3) (g : goodWord w = true) : w ∈ WA := List.mem_filter.mpr ⟨List.mem_append_right _ (List.mem_append_right _ (List.mem_append_right _ (List.mem_append_left _ h))), g⟩
theorem wa_4 {w : Cond} (h : w ∈ tables_1_4) (g : goodWord w = true) : w ∈ WA := List.mem_filter.mpr ⟨List.mem_append_right _ (List.mem_append_right _ (List.mem_append_right _ (List.mem_append_right _ (List.mem_append_left _ h)))), g⟩
theorem wa_5 {w : Cond} (h : w ∈ tables_1_5) (g : goodWord w = true) : w ∈ WA := List.mem_filter.mpr ⟨List.mem_append_right _ (List.mem_append_right _ (List.mem_append_right _ (List.mem_append_right _ (List.mem_append_right _ h)))), g⟩
theorem wl_LP_0 : u_lay R_LP F_LP 0 ∈ WA := wa_2 (List.mem_of_getElem? (i := 33) (by decide +kernel)) (by decide +kernel)
theorem wl_LP_1 : u_lay R_LP F_LP 1 ∈ WA := wa_2 (List.mem_of_getElem? (i := 35) (by decide +kernel)) (by decide +kernel)
theorem wl_LP_2 : u_lay R_LP F_LP 2 ∈ WA := wa_2 (List.mem_of_getElem? (i := 37) (by decide +kernel)) (by decide +kernel)
theorem wl_LP_3 : u_lay R_LP F_LP 3 ∈ WA := wa_2 (List.mem_of_getElem? (i := 39) (by decide +kernel)) (by decide +kernel)
theorem wl_LP_4 : u_lay R_LP F_LP 4 ∈ WA := wa_2 (List.mem_of_getElem? (i := 41) (by decide +kernel)) (by decide +kernel)
theorem wl_LP_5 : u_lay R_LP F_LP 5 ∈ WA := wa_2 (List.mem_of_getElem? (i := 43) (by decide +kernel)) (by decide +kernel)
theorem wl_LP_6 : u_lay R_LP F_LP 6 ∈ WA := wa_2 (List.mem_of_getElem? (i := 45) (by decide +kernel)) (by decide +kernel)
theorem wl_LP_7 : u_lay R_LP F_LP 7 ∈ WA := wa_2 (List.mem_of_getElem? (i := 47) (by decide +kernel)) (by decide +kernel)
theorem wi_LP : ∀ w ∈ u_ws R_LP F_LP 8, w ∈ WA := by
  intro w hw
  obtain ⟨k, hk, rfl⟩ := List.mem_map.mp hw
  have hk := List.mem_range.mp hk
  match k, hk with
  | 0, _ => exact wl_LP_0
  | 1, _ => exact wl_LP_1
  | 2, _ => exact wl_LP_2
  | 3, _ => exact wl_LP_3
  | 4, _ => exact wl_LP_4
  | 5, _ => exact wl_LP_5
  | 6, _ => exact wl_LP_6
  | 7, _ => exact wl_LP_7
  | k + 8, hk => exact absurd hk (by omega)
theorem ty_LP : ∀ k, k < 8 → parseFieldDescriptor (F_LP k).2.2.1 = some (t_LP k) := by decide +kernel
theorem nn_LP : ∀ a, a < 8 → ∀ b, b < 8 → a ≠ b → (F_LP a).2.1 ≠ (F_LP b).2.1 := by decide +kernel
theorem wl_Srv_0 : u_lay R_Srv F_Srv 0 ∈ WA := wa_1 (List.mem_of_getElem? (i := 112) (by decide +kernel)) (by decide +kernel)
theorem wl_Srv_1 : u_lay R_Srv F_Srv 1 ∈ WA := wa_1 (List.mem_of_getElem? (i := 114) (by decide +kernel)) (by decide +kernel)
theorem wl_Srv_2 : u_lay R_Srv F_Srv 2 ∈ WA := wa_1 (List.mem_of_getElem? (i := 116) (by decide +kernel)) (by decide +kernel)
theorem wl_Srv_3 : u_lay R_Srv F_Srv 3 ∈ WA := wa_1 (List.mem_of_getElem? (i := 118) (by decide +kernel)) (by decide +kernel)
theorem wl_Srv_4 : u_lay R_Srv F_Srv 4 ∈ WA := wa_1 (List.mem_of_getElem? (i := 120) (by decide +kernel)) (by decide +kernel)
theorem wl_Srv_5 : u_lay R_Srv F_Srv 5 ∈ WA := wa_1 (List.mem_of_getElem? (i := 122) (by decide +kernel)) (by decide +kernel)
theorem wl_Srv_6 : u_lay R_Srv F_Srv 6 ∈ WA := wa_1 (List.mem_of_getElem? (i := 124) (by decide +kernel)) (by decide +kernel)
theorem wl_Srv_7 : u_lay R_Srv F_Srv 7 ∈ WA := wa_1 (List.mem_of_getElem? (i := 126) (by decide +kernel)) (by decide +kernel)
theorem wl_Srv_8 : u_lay R_Srv F_Srv 8 ∈ WA := wa_1 (List.mem_of_getElem? (i := 128) (by decide +kernel)) (by decide +kernel)
theorem wl_Srv_9 : u_lay R_Srv F_Srv 9 ∈ WA := wa_1 (List.mem_of_getElem? (i := 130) (by decide +kernel)) (by decide +kernel)
theorem wl_Srv_10 : u_lay R_Srv F_Srv 10 ∈ WA := wa_1 (List.mem_of_getElem? (i := 132) (by decide +kernel)) (by decide +kernel)
theorem wl_Srv_11 : u_lay R_Srv F_Srv 11 ∈ WA := wa_1 (List.mem_of_getElem? (i := 134) (by decide +kernel)) (by decide +kernel)
theorem wl_Srv_12 : u_lay R_Srv F_Srv 12 ∈ WA := wa_1 (List.mem_of_getElem? (i := 136) (by decide +kernel)) (by decide +kernel)
theorem wi_Srv : ∀ w ∈ u_ws R_Srv F_Srv 13, w ∈ WA := by
  intro w hw
  obtain ⟨k, hk, rfl⟩ := List.mem_map.mp hw
  have hk := List.mem_range.mp hk
  match k, hk with
  | 0, _ => exact wl_Srv_0
  | 1, _ => exact wl_Srv_1
  | 2, _ => exact wl_Srv_2
  | 3, _ => exact wl_Srv_3
  | 4, _ => exact wl_Srv_4
  | 5, _ => exact wl_Srv_5
  | 6, _ => exact wl_Srv_6
  | 7, _ => exact wl_Srv_7
  | 8, _ => exact wl_Srv_8
  | 9, _ => exact wl_Srv_9
  | 10, _ => exact wl_Srv_10
  | 11, _ => exact wl_Srv_11
  | 12, _ => exact wl_Srv_12
  | k + 13, hk => exact absurd hk (by omega)
theorem ty_Srv : ∀ k, k < 13 → parseFieldDescriptor (F_Srv k).2.2.1 = some (t_Srv k) := by decide +kernel
theorem nn_Srv : ∀ a, a < 13 → ∀ b, b < 13 → a ≠ b → (F_Srv a).2.1 ≠ (F_Srv b).2.1 := by decide +kernel
theorem wl_Rec_0 : u_lay R_Rec F_Rec 0 ∈ WA := wa_1 (List.mem_of_getElem? (i := 68) (by decide +kernel)) (by decide +kernel)
theorem wl_Rec_1 : u_lay R_Rec F_Rec 1 ∈ WA := wa_1 (List.mem_of_getElem? (i := 70) (by decide +kernel)) (by decide +kernel)
theorem wl_Rec_2 : u_lay R_Rec F_Rec 2 ∈ WA := wa_1 (List.mem_of_getElem? (i := 72) (by decide +kernel)) (by decide +kernel)
theorem wl_Rec_3 : u_lay R_Rec F_Rec 3 ∈ WA := wa_1 (List.mem_of_getElem? (i := 74) (by decide +kernel)) (by decide +kernel)
theorem wl_Rec_4 : u_lay R_Rec F_Rec 4 ∈ WA := wa_1 (List.mem_of_getElem? (i := 76) (by decide +kernel)) (by decide +kernel)
theorem wl_Rec_5 : u_lay R_Rec F_Rec 5 ∈ WA := wa_1 (List.mem_of_getElem? (i := 78) (by decide +kernel)) (by decide +kernel)
theorem wl_Rec_6 : u_lay R_Rec F_Rec 6 ∈ WA := wa_1 (List.mem_of_getElem? (i := 80) (by decide +kernel)) (by decide +kernel)
theorem wl_Rec_7 : u_lay R_Rec F_Rec 7 ∈ WA := wa_1 (List.mem_of_getElem? (i := 82) (by decide +kernel)) (by decide +kernel)
theorem wl_Rec_8 : u_lay R_Rec F_Rec 8 ∈ WA := wa_1 (List.mem_of_getElem? (i := 84) (by decide +kernel)) (by decide +kernel)
theorem wl_Rec_9 : u_lay R_Rec F_Rec 9 ∈ WA := wa_1 (List.mem_of_getElem? (i := 86) (by decide +kernel)) (by decide +kernel)
theorem wl_Rec_10 : u_lay R_Rec F_Rec 10 ∈ WA := wa_1 (List.mem_of_getElem? (i := 88) (by decide +kernel)) (by decide +kernel)
theorem wl_Rec_11 : u_lay R_Rec F_Rec 11 ∈ WA := wa_1 (List.mem_of_getElem? (i := 90) (by decide +kernel)) (by decide +kernel)
theorem wl_Rec_12 : u_lay R_Rec F_Rec 12 ∈ WA := wa_1 (List.mem_of_getElem? (i := 92) (by decide +kernel)) (by decide +kernel)
theorem wi_Rec : ∀ w ∈ u_ws R_Rec F_Rec 13, w ∈ WA := by
  intro w hw
  obtain ⟨k, hk, rfl⟩ := List.mem_map.mp hw
  have hk := List.mem_range.mp hk
  match k, hk with
  | 0, _ => exact wl_Rec_0
  | 1, _ => exact wl_Rec_1
  | 2, _ => exact wl_Rec_2
  | 3, _ => exact wl_Rec_3
  | 4, _ => exact wl_Rec_4
  | 5, _ => exact wl_Rec_5
  | 6, _ => exact wl_Rec_6
  | 7, _ => exact wl_Rec_7
  | 8, _ => exact wl_Rec_8
  | 9, _ => exact wl_Rec_9
  | 10, _ => exact wl_Rec_10
  | 11, _ => exact wl_Rec_11
  | 12, _ => exact wl_Rec_12
  | k + 13, hk => exact absurd hk (by omega)
theorem ty_Rec : ∀ k, k < 13 → parseFieldDescriptor (F_Rec k).2.2.1 = some (t_Rec k) := by decide +kernel
theorem nn_Rec : ∀ a, a < 13 → ∀ b, b < 13 → a ≠ b → (F_Rec a).2.1 ≠ (F_Rec b).2.1 := by decide +kernel
theorem wl_Cli_0 : u_lay R_Cli F_Cli 0 ∈ WA := wa_1 (List.mem_of_getElem? (i := 153) (by decide +kernel)) (by decide +kernel)
theorem wl_Cli_1 : u_lay R_Cli F_Cli 1 ∈ WA := wa_1 (List.mem_of_getElem? (i := 155) (by decide +kernel)) (by decide +kernel)
theorem wl_Cli_2 : u_lay R_Cli F_Cli 2 ∈ WA := wa_1 (List.mem_of_getElem? (i := 157) (by decide +kernel)) (by decide +kernel)
theorem wl_Cli_3 : u_lay R_Cli F_Cli 3 ∈ WA := wa_1 (List.mem_of_getElem? (i := 159) (by decide +kernel)) (by decide +kernel)
theorem wi_Cli : ∀ w ∈ u_ws R_Cli F_Cli 4, w ∈ WA := by
  intro w hw
  obtain ⟨k, hk, rfl⟩ := List.mem_map.mp hw
  have hk := List.mem_range.mp hk
  match k, hk with
  | 0, _ => exact wl_Cli_0
  | 1, _ => exact wl_Cli_1
  | 2, _ => exact wl_Cli_2
  | 3, _ => exact wl_Cli_3
  | k + 4, hk => exact absurd hk (by omega)
theorem ty_Cli : ∀ k, k < 4 → parseFieldDescriptor (F_Cli k).2.2.1 = some (t_Cli k) := by decide +kernel
theorem nn_Cli : ∀ a, a < 4 → ∀ b, b < 4 → a ≠ b → (F_Cli a).2.1 ≠ (F_Cli b).2.1 := by decide +kernel
theorem wl_Net_0 : u_lay R_Net F_Net 0 ∈ WA := wa_2 (List.mem_of_getElem? (i := 12) (by decide +kernel)) (by decide +kernel)
theorem wl_Net_1 : u_lay R_Net F_Net 1 ∈ WA := wa_2 (List.mem_of_getElem? (i := 14) (by decide +kernel)) (by decide +kernel)
theorem wl_Net_2 : u_lay R_Net F_Net 2 ∈ WA := wa_2 (List.mem_of_getElem? (i := 16) (by decide +kernel)) (by decide +kernel)
theorem wl_Net_3 : u_lay R_Net F_Net 3 ∈ WA := wa_2 (List.mem_of_getElem? (i := 18) (by decide +kernel)) (by decide +kernel)
theorem wl_Net_4 : u_lay R_Net F_Net 4 ∈ WA := wa_2 (List.mem_of_getElem? (i := 20) (by decide +kernel)) (by decide +kernel)
theorem wi_Net : ∀ w ∈ u_ws R_Net F_Net 5, w ∈ WA := by
  intro w hw
  obtain ⟨k, hk, rfl⟩ := List.mem_map.mp hw
  have hk := List.mem_range.mp hk
  match k, hk with
  | 0, _ => exact wl_Net_0
  | 1, _ => exact wl_Net_1
  | 2, _ => exact wl_Net_2
  | 3, _ => exact wl_Net_3
  | 4, _ => exact wl_Net_4
  | k + 5, hk => exact absurd hk (by omega)
theorem ty_Net : ∀ k, k < 5 → parseFieldDescriptor (F_Net k).2.2.1 = some (t_Net k) := by decide +kernel
theorem nn_Net : ∀ a, a < 5 → ∀ b, b < 5 → a ≠ b → (F_Net a).2.1 ≠ (F_Net b).2.1 := by decide +kernel
theorem wl_Msg_0 : u_lay R_Msg F_Msg 0 ∈ WA := wa_1 (List.mem_of_getElem? (i := 215) (by decide +kernel)) (by decide +kernel)
theorem wl_Msg_1 : u_lay R_Msg F_Msg 1 ∈ WA := wa_1 (List.mem_of_getElem? (i := 217) (by decide +kernel)) (by decide +kernel)
theorem wl_Msg_2 : u_lay R_Msg F_Msg 2 ∈ WA := wa_1 (List.mem_of_getElem? (i := 219) (by decide +kernel)) (by decide +kernel)
theorem wl_Msg_3 : u_lay R_Msg F_Msg 3 ∈ WA := wa_1 (List.mem_of_getElem? (i := 221) (by decide +kernel)) (by decide +kernel)
theorem wl_Msg_4 : u_lay R_Msg F_Msg 4 ∈ WA := wa_1 (List.mem_of_getElem? (i := 223) (by decide +kernel)) (by decide +kernel)
theorem wl_Msg_5 : u_lay R_Msg F_Msg 5 ∈ WA := wa_1 (List.mem_of_getElem? (i := 225) (by decide +kernel)) (by decide +kernel)
theorem wl_Msg_6 : u_lay R_Msg F_Msg 6 ∈ WA := wa_1 (List.mem_of_getElem? (i := 227) (by decide +kernel)) (by decide +kernel)
theorem wl_Msg_7 : u_lay R_Msg F_Msg 7 ∈ WA := wa_1 (List.mem_of_getElem? (i := 229) (by decide +kernel)) (by decide +kernel)
theorem wl_Msg_8 : u_lay R_Msg F_Msg 8 ∈ WA := wa_1 (List.mem_of_getElem? (i := 231) (by decide +kernel)) (by decide +kernel)
theorem wl_Msg_9 : u_lay R_Msg F_Msg 9 ∈ WA := wa_1 (List.mem_of_getElem? (i := 233) (by decide +kernel)) (by decide +kernel)
theorem wl_Msg_10 : u_lay R_Msg F_Msg 10 ∈ WA := wa_1 (List.mem_of_getElem? (i := 235) (by decide +kernel)) (by decide +kernel)
theorem wl_Msg_11 : u_lay R_Msg F_Msg 11 ∈ WA := wa_1 (List.mem_of_getElem? (i := 237) (by decide +kernel)) (by decide +kernel)
theorem wl_Msg_12 : u_lay R_Msg F_Msg 12 ∈ WA := wa_1 (List.mem_of_getElem? (i := 239) (by decide +kernel)) (by decide +kernel)
theorem wl_Msg_13 : u_lay R_Msg F_Msg 13 ∈ WA := wa_2 (List.mem_of_getElem? (i := 1) (by decide +kernel)) (by decide +kernel)
theorem wl_Msg_14 : u_lay R_Msg F_Msg 14 ∈ WA := wa_2 (List.mem_of_getElem? (i := 3) (by decide +kernel)) (by decide +kernel)
theorem wi_Msg : ∀ w ∈ u_ws R_Msg F_Msg 15, w ∈ WA := by
  intro w hw
  obtain ⟨k, hk, rfl⟩ := List.mem_map.mp hw
  have hk := List.mem_range.mp hk
  match k, hk with
  | 0, _ => exact wl_Msg_0
  | 1, _ => exact wl_Msg_1
  | 2, _ => exact wl_Msg_2
  | 3, _ => exact wl_Msg_3
  | 4, _ => exact wl_Msg_4
  | 5, _ => exact wl_Msg_5
  | 6, _ => exact wl_Msg_6
  | 7, _ => exact wl_Msg_7
  | 8, _ => exact wl_Msg_8
  | 9, _ => exact wl_Msg_9
  | 10, _ => exact wl_Msg_10
  | 11, _ => exact wl_Msg_11
  | 12, _ => exact wl_Msg_12
  | 13, _ => exact wl_Msg_13
  | 14, _ => exact wl_Msg_14
  | k + 15, hk => exact absurd hk (by omega)
theorem ty_Msg : ∀ k, k < 15 → parseFieldDescriptor (F_Msg k).2.2.1 = some (t_Msg k) := by decide +kernel
theorem nn_Msg : ∀ a, a < 15 → ∀ b, b < 15 → a ≠ b → (F_Msg a).2.1 ≠ (F_Msg b).2.1 := by decide +kernel
theorem wl_Mod_0 : u_lay R_Mod F_Mod 0 ∈ WA := wa_4 (List.mem_of_getElem? (i := 87) (by decide +kernel)) (by decide +kernel)
theorem wl_Mod_1 : u_lay R_Mod F_Mod 1 ∈ WA := wa_4 (List.mem_of_getElem? (i := 89) (by decide +kernel)) (by decide +kernel)
theorem wl_Mod_2 : u_lay R_Mod F_Mod 2 ∈ WA := wa_4 (List.mem_of_getElem? (i := 91) (by decide +kernel)) (by decide +kernel)
theorem wl_Mod_3 : u_lay R_Mod F_Mod 3 ∈ WA := wa_4 (List.mem_of_getElem? (i := 93) (by decide +kernel)) (by decide +kernel)
theorem wl_Mod_4 : u_lay R_Mod F_Mod 4 ∈ WA := wa_4 (List.mem_of_getElem? (i := 95) (by decide +kernel)) (by decide +kernel)
theorem wl_Mod_5 : u_lay R_Mod F_Mod 5 ∈ WA := wa_4 (List.mem_of_getElem? (i := 97) (by decide +kernel)) (by decide +kernel)
theorem wl_Mod_6 : u_lay R_Mod F_Mod 6 ∈ WA := wa_4 (List.mem_of_getElem? (i := 99) (by decide +kernel)) (by decide +kernel)
theorem wl_Mod_7 : u_lay R_Mod F_Mod 7 ∈ WA := wa_4 (List.mem_of_getElem? (i := 101) (by decide +kernel)) (by decide +kernel)
theorem wl_Mod_8 : u_lay R_Mod F_Mod 8 ∈ WA := wa_4 (List.mem_of_getElem? (i := 103) (by decide +kernel)) (by decide +kernel)
theorem wl_Mod_9 : u_lay R_Mod F_Mod 9 ∈ WA := wa_4 (List.mem_of_getElem? (i := 105) (by decide +kernel)) (by decide +kernel)
theorem wl_Mod_10 : u_lay R_Mod F_Mod 10 ∈ WA := wa_4 (List.mem_of_getElem? (i := 107) (by decide +kernel)) (by decide +kernel)
theorem wl_Mod_11 : u_lay R_Mod F_Mod 11 ∈ WA := wa_4 (List.mem_of_getElem? (i := 109) (by decide +kernel)) (by decide +kernel)
theorem wl_Mod_12 : u_lay R_Mod F_Mod 12 ∈ WA := wa_4 (List.mem_of_getElem? (i := 111) (by decide +kernel)) (by decide +kernel)
theorem wl_Mod_13 : u_lay R_Mod F_Mod 13 ∈ WA := wa_4 (List.mem_of_getElem? (i := 113) (by decide +kernel)) (by decide +kernel)
theorem wl_Mod_14 : u_lay R_Mod F_Mod 14 ∈ WA := wa_4 (List.mem_of_getElem? (i := 115) (by decide +kernel)) (by decide +kernel)
theorem wl_Mod_15 : u_lay R_Mod F_Mod 15 ∈ WA := wa_4 (List.mem_of_getElem? (i := 117) (by decide +kernel)) (by decide +kernel)
theorem wl_Mod_16 : u_lay R_Mod F_Mod 16 ∈ WA := wa_4 (List.mem_of_getElem? (i := 119) (by decide +kernel)) (by decide +kernel)
theorem wl_Mod_17 : u_lay R_Mod F_Mod 17 ∈ WA := wa_4 (List.mem_of_getElem? (i := 121) (by decide +kernel)) (by decide +kernel)
theorem wl_Mod_18 : u_lay R_Mod F_Mod 18 ∈ WA := wa_4 (List.mem_of_getElem? (i := 123) (by decide +kernel)) (by decide +kernel)
theorem wl_Mod_19 : u_lay R_Mod F_Mod 19 ∈ WA := wa_4 (List.mem_of_getElem? (i := 125) (by decide +kernel)) (by decide +kernel)
theorem wl_Mod_20 : u_lay R_Mod F_Mod 20 ∈ WA := wa_4 (List.mem_of_getElem? (i := 127) (by decide +kernel)) (by decide +kernel)
theorem wl_Mod_21 : u_lay R_Mod F_Mod 21 ∈ WA := wa_4 (List.mem_of_getElem? (i := 129) (by decide +kernel)) (by decide +kernel)
theorem wl_Mod_22 : u_lay R_Mod F_Mod 22 ∈ WA := wa_4 (List.mem_of_getElem? (i := 131) (by decide +kernel)) (by decide +kernel)
theorem wl_Mod_23 : u_lay R_Mod F_Mod 23 ∈ WA := wa_4 (List.mem_of_getElem? (i := 133) (by decide +kernel)) (by decide +kernel)
theorem wl_Mod_24 : u_lay R_Mod F_Mod 24 ∈ WA := wa_4 (List.mem_of_getElem? (i := 135) (by decide +kernel)) (by decide +kernel)
theorem wl_Mod_25 : u_lay R_Mod F_Mod 25 ∈ WA := wa_4 (List.mem_of_getElem? (i := 137) (by decide +kernel)) (by decide +kernel)
theorem wl_Mod_26 : u_lay R_Mod F_Mod 26 ∈ WA := wa_4 (List.mem_of_getElem? (i := 139) (by decide +kernel)) (by decide +kernel)
theorem wl_Mod_27 : u_lay R_Mod F_Mod 27 ∈ WA := wa_4 (List.mem_of_getElem? (i := 141) (by decide +kernel)) (by decide +kernel)
theorem wl_Mod_28 : u_lay R_Mod F_Mod 28 ∈ WA := wa_4 (List.mem_of_getElem? (i := 143) (by decide +kernel)) (by decide +kernel)
theorem wl_Mod_29 : u_lay R_Mod F_Mod 29 ∈ WA := wa_4 (List.mem_of_getElem? (i := 145) (by decide +kernel)) (by decide +kernel)
theorem wl_Mod_30 : u_lay R_Mod F_Mod 30 ∈ WA := wa_4 (List.mem_of_getElem? (i := 147) (by decide +kernel)) (by decide +kernel)
theorem wl_Mod_31 : u_lay R_Mod F_Mod 31 ∈ WA := wa_4 (List.mem_of_getElem? (i := 149) (by decide +kernel)) (by decide +kernel)
theorem wl_Mod_32 : u_lay R_Mod F_Mod 32 ∈ WA := wa_4 (List.mem_of_getElem? (i := 151) (by decide +kernel)) (by decide +kernel)
theorem wl_Mod_33 : u_lay R_Mod F_Mod 33 ∈ WA := wa_4 (List.mem_of_getElem? (i := 153) (by decide +kernel)) (by decide +kernel)
theorem wl_Mod_34 : u_lay R_Mod F_Mod 34 ∈ WA := wa_4 (List.mem_of_getElem? (i := 155) (by decide +kernel)) (by decide +kernel)
theorem wl_Mod_35 : u_lay R_Mod F_Mod 35 ∈ WA := wa_4 (List.mem_of_getElem? (i := 157) (by decide +kernel)) (by decide +kernel)
theorem wi_Mod : ∀ w ∈ u_ws R_Mod F_Mod 36, w ∈ WA := by
  intro w hw
  obtain ⟨k, hk, rfl⟩ := List.mem_map.mp hw
  have hk := List.mem_range.mp hk
  match k, hk with
  | 0, _ => exact wl_Mod_0
  | 1, _ => exact wl_Mod_1
  | 2, _ => exact wl_Mod_2
  | 3, _ => exact wl_Mod_3
  | 4, _ => exact wl_Mod_4
  | 5, _ => exact wl_Mod_5
  | 6, _ => exact wl_Mod_6
  | 7, _ => exact wl_Mod_7
  | 8, _ => exact wl_Mod_8
  | 9, _ => exact wl_Mod_9
  | 10, _ => exact wl_Mod_10
  | 11, _ => exact wl_Mod_11
  | 12, _ => exact wl_Mod_12
  | 13, _ => exact wl_Mod_13
  | 14, _ => exact wl_Mod_14
  | 15, _ => exact wl_Mod_15
  | 16, _ => exact wl_Mod_16
  | 17, _ => exact wl_Mod_17
  | 18, _ => exact wl_Mod_18
  | 19, _ => exact wl_Mod_19
  | 20, _ => exact wl_Mod_20
  | 21, _ => exact wl_Mod_21
  | 22, _ => exact wl_Mod_22
  | 23, _ => exact wl_Mod_23
  | 24, _ => exact wl_Mod_24
  | 25, _ => exact wl_Mod_25
  | 26, _ => exact wl_Mod_26
  | 27, _ => exact wl_Mod_27
  | 28, _ => exact wl_Mod_28
  | 29, _ => exact wl_Mod_29
  | 30, _ => exact wl_Mod_30
  | 31, _ => exact wl_Mod_31
  | 32, _ => exact wl_Mod_32
  | 33, _ => exact wl_Mod_33
  | 34, _ => exact wl_Mod_34
  | 35, _ => exact wl_Mod_35
  | k + 36, hk => exact absurd hk (by omega)
theorem ty_Mod : ∀ k, k < 36 → parseFieldDescriptor (F_Mod k).2.2.1 = some (t_Mod k) := by decide +kernel
theorem nn_Mod : ∀ a, a < 36 → ∀ b, b < 36 → a ≠ b → (F_Mod a).2.1 ≠ (F_Mod b).2.1 := by decide +kernel
theorem cls_in : ∀ (ci : Nat) (r : vw_C), classes[ci]? = some r → ∀ w ∈ u_ws r.1 r.2.1 r.2.2, w ∈ WA := fun ci r h => match ci, h with
  | 0, h => by cases h; exact wi_LP
  | 1, h => by cases h; exact wi_Srv
  | 2, h => by cases h; exact wi_Rec
  | 3, h => by cases h; exact wi_Cli
  | 4, h => by cases h; exact wi_Net
  | 5, h => by cases h; exact wi_Msg
  | 6, h => by cases h; exact wi_Mod
  | n + 7, h => by simp [classes] at h
theorem cls_ty : ∀ (ci : Nat) (r : vw_C), classes[ci]? = some r → ∀ k, k < r.2.2 → parseFieldDescriptor (r.2.1 k).2.2.1 = some (ftyp ci k) := fun ci r h => match ci, h with
  | 0, h => by cases h; exact ty_LP
  | 1, h => by cases h; exact ty_Srv
  | 2, h => by cases h; exact ty_Rec
  | 3, h => by cases h; exact ty_Cli
  | 4, h => by cases h; exact ty_Net
  | 5, h => by cases h; exact ty_Msg
  | 6, h => by cases h; exact ty_Mod
  | n + 7, h => by simp [classes] at h
theorem cls_nm : ∀ (ci : Nat) (r : vw_C), classes[ci]? = some r → ∀ a, a < r.2.2 → ∀ b, b < r.2.2 → a ≠ b → (r.2.1 a).2.1 ≠ (r.2.1 b).2.1 := fun ci r h => match ci, h with
  | 0, h => by cases h; exact nn_LP
  | 1, h => by cases h; exact nn_Srv
  | 2, h => by cases h; exact nn_Rec
  | 3, h => by cases h; exact nn_Cli
  | 4, h => by cases h; exact nn_Net
  | 5, h => by cases h; exact nn_Msg
  | 6, h => by cases h; exact nn_Mod
  | n + 7, h => by simp [classes] at h
theorem cls_nf : ∀ (ci : Nat) (r : vw_C), classes[ci]? = some r → ci < 7 ∧ r.2.2 = nf ci := fun ci r h => match ci, h with
  | 0, h => by cases h; exact ⟨by decide, rfl⟩
  | 1, h => by cases h; exact ⟨by decide, rfl⟩
  | 2, h => by cases h; exact ⟨by decide, rfl⟩
  | 3, h => by cases h; exact ⟨by decide, rfl⟩
  | 4, h => by cases h; exact ⟨by decide, rfl⟩
  | 5, h => by cases h; exact ⟨by decide, rfl⟩
  | 6, h => by cases h; exact ⟨by decide, rfl⟩
  | n + 7, h => by simp [classes] at h
theorem rg {n i : Nat} {p : Nat → Bool} (h : (List.range n).all p = true) (hi : i < n) : p i = true := List.all_eq_true.mp h i (List.mem_range.mpr hi)
theorem tb_ff0 : ((List.range 7).all fun ci => (List.range (nf ci)).all fun k => (List.range 7).all fun ci' => (List.range (nf ci')).all fun k' => decide (cinf ci k = cinf ci' k' → ci = ci' ∧ k = k')) = true := by decide +kernel
theorem tb_ff (ci : Nat) (h1 : ci < 7) (k : Nat) (h2 : k < nf ci) (ci' : Nat) (h3 : ci' < 7) (k' : Nat) (h4 : k' < nf ci') : cinf ci k = cinf ci' k' → ci = ci' ∧ k = k' := of_decide_eq_true (rg (rg (rg (rg tb_ff0 h1) h2) h3) h4)
theorem tbl_ff {ci k ci' k' : Nat} {r r' : vw_C} (hr : classes[ci]? = some r) (hk : k < r.2.2) (hr' : classes[ci']? = some r') (hk' : k' < r'.2.2) (h : cinf ci k = cinf ci' k') : ci = ci' ∧ k = k' := by
  obtain ⟨a, b⟩ := cls_nf ci r hr
  obtain ⟨a', b'⟩ := cls_nf ci' r' hr'
  exact tb_ff ci a k (b ▸ hk) ci' a' k' (b' ▸ hk') h
theorem tb_rr0 : ((List.range 7).all fun ci => (List.range (nf ci)).all fun k => (List.range 7).all fun ci' => (List.range (nf ci')).all fun k' => decide ((cinf ci k).1 = true → (cinf ci' k').1 = true → (cinf ci k).2.2 = (cinf ci' k').2.2 → ci = ci' ∧ k = k')) = true := by decide +kernel
theorem tb_rr (ci : Nat) (h1 : ci < 7) (k : Nat) (h2 : k < nf ci) (ci' : Nat) (h3 : ci' < 7) (k' : Nat) (h4 : k' < nf ci') : (cinf ci k).1 = true → (cinf ci' k').1 = true → (cinf ci k).2.2 = (cinf ci' k').2.2 → ci = ci' ∧ k = k' := of_decide_eq_true (rg (rg (rg (rg tb_rr0 h1) h2) h3) h4)
theorem tbl_rr {ci k ci' k' : Nat} {r r' : vw_C} (hr : classes[ci]? = some r) (hk : k < r.2.2) (hr' : classes[ci']? = some r') (hk' : k' < r'.2.2) (h1 : (cinf ci k).1 = true) (h2 : (cinf ci' k').1 = true) (h : (cinf ci k).2.2 = (cinf ci' k').2.2) : ci = ci' ∧ k = k' := by
  obtain ⟨a, b⟩ := cls_nf ci r hr
  obtain ⟨a', b'⟩ := cls_nf ci' r' hr'
  exact tb_rr ci a k (b ▸ hk) ci' a' k' (b' ▸ hk') h1 h2 h
theorem tb_fa0 : ((List.range 7).all fun ci => (List.range (nf ci)).all fun k => (List.range 60).all fun a => decide ((cinf ci k).1 = false → ¬ ((ainf a).1 = 0 ∧ (ainf a).2 = (cinf ci k).2))) = true := by decide +kernel
theorem tb_fa (ci : Nat) (h1 : ci < 7) (k : Nat) (h2 : k < nf ci) (a : Nat) (h3 : a < 60) : (cinf ci k).1 = false → ¬ ((ainf a).1 = 0 ∧ (ainf a).2 = (cinf ci k).2) := of_decide_eq_true (rg (rg (rg tb_fa0 h1) h2) h3)
theorem tbl_fa {ci k a b col : Nat} {r : vw_C} (hr : classes[ci]? = some r) (hk : k < r.2.2) (hc : cinf ci k = (false, b, col)) (ha : a < 60) : ainf a ≠ (0, b, col) := by
  obtain ⟨h1, h2⟩ := cls_nf ci r hr
  intro h
  exact tb_fa ci h1 k (h2 ▸ hk) a ha (by rw [hc]) ⟨by rw [h], by rw [h, hc]⟩
theorem tb_ra0 : ((List.range 7).all fun ci => (List.range (nf ci)).all fun k => (List.range 60).all fun a => decide ((cinf ci k).1 = true → (ainf a).1 ≠ 0 → (ainf a).2.2 ≠ (cinf ci k).2.2)) = true := by decide +kernel
theorem tb_ra (ci : Nat) (h1 : ci < 7) (k : Nat) (h2 : k < nf ci) (a : Nat) (h3 : a < 60) : (cinf ci k).1 = true → (ainf a).1 ≠ 0 → (ainf a).2.2 ≠ (cinf ci k).2.2 := of_decide_eq_true (rg (rg (rg tb_ra0 h1) h2) h3)
theorem tbl_ra {ci k a b col : Nat} {r : vw_C} (hr : classes[ci]? = some r) (hk : k < r.2.2) (hc : cinf ci k = (true, b, col)) (ha : a < 60) (h0 : (ainf a).1 ≠ 0) : (ainf a).2.2 ≠ col := by
  obtain ⟨h1, h2⟩ := cls_nf ci r hr
  have := tb_ra ci h1 k (h2 ▸ hk) a ha (by rw [hc]) h0
  rw [hc] at this
  exact this
theorem tb_aa : ∀ a, a < 60 → ∀ b, b < 60 → ainf a = ainf b → a = b := by decide +kernel
theorem tbl_aa {a b : Nat} (ha : a < 60) (hb : b < 60) (h : ainf a = ainf b) : a = b := tb_aa a ha b hb h
theorem tb_rr2 : ∀ a, a < 60 → ∀ b, b < 60 → (ainf a).1 ≠ 0 → (ainf b).1 ≠ 0 → (ainf a).2.2 = (ainf b).2.2 → a = b := by decide +kernel
theorem tbl_rr2 {a b : Nat} (ha : a < 60) (hb : b < 60) (h1 : (ainf a).1 ≠ 0) (h2 : (ainf b).1 ≠ 0) (h : (ainf a).2.2 = (ainf b).2.2) : a = b := tb_rr2 a ha b hb h1 h2 h
end
section
/-! THE STORE: ints in banks (bank, column, index), references (column, index). K: what never changes; V: what has been made so far. -/
abbrev MI : Type := Nat → Nat → Int32
abbrev MI3 : Type := Nat → Nat → Nat → Int32
abbrev MP : Type := Nat → Nat → Option Nat
def up {α : Type} (f : Nat → Nat → α) (c i : Nat) (v : α) : Nat → Nat → α := fun c' i' => if c' = c ∧ i' = i then v else f c' i'
theorem up_s {α : Type} (f : Nat → Nat → α) (c i : Nat) (v : α) : up f c i v c i = v := by simp [up]
theorem up_c {α : Type} (f : Nat → Nat → α) {c i c' i' : Nat} (v : α) (h : c' ≠ c) : up f c i v c' i' = f c' i' := by simp [up, h]
theorem up_i {α : Type} (f : Nat → Nat → α) {c i c' i' : Nat} (v : α) (h : i' ≠ i) : up f c i v c' i' = f c' i' := by simp [up, h]
def bup (I : MI3) (b c i : Nat) (v : Int32) : MI3 := fun b' => if b' = b then up (I b') c i v else I b'
def bk4 (A B C D : MI) : MI3 := fun b => match b with
  | 0 => A
  | 1 => B
  | 2 => C
  | 3 => D
  | _ => fun _ _ => 0
theorem bup_0 (A B C D : MI) (c i : Nat) (v : Int32) : bup (bk4 A B C D) 0 c i v = bk4 (up A c i v) B C D := by
  funext b
  match b with
  | 0 => rfl
  | 1 => rfl
  | 2 => rfl
  | 3 => rfl
  | n + 4 => rfl
theorem bup_1 (A B C D : MI) (c i : Nat) (v : Int32) : bup (bk4 A B C D) 1 c i v = bk4 A (up B c i v) C D := by
  funext b
  match b with
  | 0 => rfl
  | 1 => rfl
  | 2 => rfl
  | 3 => rfl
  | n + 4 => rfl
theorem bup_2 (A B C D : MI) (c i : Nat) (v : Int32) : bup (bk4 A B C D) 2 c i v = bk4 A B (up C c i v) D := by
  funext b
  match b with
  | 0 => rfl
  | 1 => rfl
  | 2 => rfl
  | 3 => rfl
  | n + 4 => rfl
theorem bup_3 (A B C D : MI) (c i : Nat) (v : Int32) : bup (bk4 A B C D) 3 c i v = bk4 A B C (up D c i v) := by
  funext b
  match b with
  | 0 => rfl
  | 1 => rfl
  | 2 => rfl
  | 3 => rfl
  | n + 4 => rfl
/-- (kind numbers to ids, their slots, array kinds to ids), base, addresses of objects and arrays, lengths, what there will be -/
abbrev Kx : Type := (Nat → ClassId) × (Nat → Nat → Nat) × (Nat → ClassId) × Nat × (Nat → Nat → Nat) × (Nat → Nat) × (Nat → Nat) × (Nat → Nat → Prop) × (Nat → Prop)
abbrev Kx.dC (K : Kx) : Nat → ClassId := K.1
abbrev Kx.dI (K : Kx) : Nat → Nat → Nat := K.2.1
abbrev Kx.dA (K : Kx) : Nat → ClassId := K.2.2.1
abbrev Kx.base (K : Kx) : Nat := K.2.2.2.1
abbrev Kx.ad (K : Kx) : Nat → Nat → Nat := K.2.2.2.2.1
abbrev Kx.aad (K : Kx) : Nat → Nat := K.2.2.2.2.2.1
abbrev Kx.alen (K : Kx) : Nat → Nat := K.2.2.2.2.2.2.1
abbrev Kx.pv (K : Kx) : Nat → Nat → Prop := K.2.2.2.2.2.2.2.1
abbrev Kx.pa (K : Kx) : Nat → Prop := K.2.2.2.2.2.2.2.2
/-- objects made, arrays made, what the heap's size is -/
abbrev Vx : Type := (Nat → Nat → Prop) × (Nat → Prop) × (Nat → Prop)
def Kx.full (K : Kx) : Vx := (K.pv, K.pa, fun _ => True)
/-- a field's value: by (is it a reference, bank, column) -/
def fval (I : MI3) (P : MP) (f : Bool × Nat × Nat) (i : Nat) : Value := match f with
  | (true, _, col) => va_rf (P col i)
  | (false, b, col) => .int (I b col i)
/-- an array's contents: by (what it holds, bank, column): 0 ints, 1 longs, else references -/
def acont (I : MI3) (P : MP) (f : Nat × Nat × Nat) : (Nat → Int32) ⊕ (Nat → Int64) ⊕ (Nat → UInt32) ⊕ (Nat → UInt64) ⊕ (Nat → Option Nat) := match f with
  | (0, b, col) => .inl (I b col)
  | (1, _, col) => .inr (.inl (fun j => Int64.ofNat ((P col j).getD 0)))
  | (_, _, col) => .inr (.inr (.inr (.inr (P col))))
/-- the world: what has been made holds the store -/
def Wd (K : Kx) (V : Vx) (I : MI3) (P : MP) (H : Heap) : Prop :=
  (∀ ci i, V.1 ci i → K.pv ci i ∧ ∃ r : vw_C, classes[ci]? = some r ∧ t_OB (K.ad ci i) (K.dC ci) r.2.2 (K.dI ci) H (fun k => fval I P (cinf ci k) i)) ∧
  (∀ a, V.2.1 a → K.pa a ∧ H[K.aad a]? = some (vp_cell (K.dA (aty a)) (K.alen a, acont I P (ainf a)))) ∧ V.2.2 H.size
/-- the addresses are apart -/
def Kx.apart (K : Kx) : Prop := (∀ c i c' i', K.pv c i → K.pv c' i' → K.ad c i = K.ad c' i' → c = c' ∧ i = i') ∧ (∀ a a', K.pa a → K.pa a' → K.aad a = K.aad a' → a = a') ∧
  (∀ c i a, K.pv c i → K.pa a → K.ad c i ≠ K.aad a) ∧ (∀ c i, K.pv c i → K.base ≤ K.ad c i) ∧ (∀ a, K.pa a → K.base ≤ K.aad a) ∧ ∀ a, K.pa a → a < 60
end
section
/-! words that stay true under warmer tables though no callee's list may hold them; the two statics that an exception's making reads -/
def NWL : List Cond := lw_tbl.filter (fun w => w.onTables && w.keepsFace)
def NWN : List Cond := [.methodLinkNest "LeasePair$Net" 20 ⟨"LeasePair$Message", "<init>", "()V"⟩ "LeasePair", .methodLinkNest "LeasePair" 45 ⟨"LeasePair$Message", "<init>", "()V"⟩ "LeasePair", .methodLinkNest "LeasePair$Net" 25 ⟨"LeasePair", "isWithin", "(III)Z"⟩ "LeasePair"]
def NWk (U : State) : Prop := (∀ w ∈ NWL, w.before #[] U = true) ∧ ∀ w ∈ NWN, w.before #[] U = true
theorem NWk.moved {s U : State} (hW : s.WarmedH U.vm) (h : NWk s) : NWk U := by
  refine ⟨fun w hw => ?_, fun w hw => ?_⟩
  · have hg := (List.mem_filter.mp hw).2
    simp only [Bool.and_eq_true] at hg
    have h1 : w.before #[] (s.setVm U.vm) = true := Cond.before_shiftedFace (State.Shifted.of_warmed hW) w hg.2 (h.1 w hw)
    exact va_tabs hg.1 (rfl : (s.setVm U.vm).vm = U.vm) h1
  · have h1 := h.2 w hw
    simp only [NWN, List.mem_cons, List.not_mem_nil, or_false] at hw
    rcases hw with rfl | rfl | rfl
    · exact va_Nw.warmM hW h1
    · exact va_Nw.warmM hW h1
    · exact va_Nw.warmM hW h1
theorem NWk.same {s U : State} (h : s.vm = U.vm) (hs : NWk s) : NWk U := by
  refine ⟨fun w hw => ?_, fun w hw => ?_⟩
  · have hg := (List.mem_filter.mp hw).2
    simp only [Bool.and_eq_true] at hg
    exact va_tabs hg.1 h (hs.1 w hw)
  · have h1 := hs.2 w hw
    simp only [NWN, List.mem_cons, List.not_mem_nil, or_false] at hw
    rcases hw with rfl | rfl | rfl
    · exact va_tabs rfl h h1
    · exact va_tabs rfl h h1
    · exact va_tabs rfl h h1
/-- a static field of an old cell that holds a reference or null -/
def STf (b : Nat) (C n d : String) (U : State) (H : Heap) : Prop := ∃ (c : ClassId) (k : Class) (i : Nat) (f : Field) (a : Nat) (cell : Cell), U.vm.findClass C = some c ∧ U.fieldFound? C n d = some (c, k, i, f) ∧ f.isStatic = true ∧ k.statics = some a ∧ H[a]? = some cell ∧ cell.vm.isStatics = true ∧ cell.cls = c ∧ f.slot < cell.slots.size ∧ k.staticTypes[f.slot]? = some f.type ∧ a < b ∧ (cell.slots[f.slot]? = some .null ∨ ∃ t, cell.slots[f.slot]? = some (.ref t))
theorem STf.moved {b : Nat} {C n d : String} {u U : State} {H H1 : Heap} (hvm : u.vm.Alike U.vm) (hH : ∀ q, q < b → H1[q]? = H[q]?) (h : STf b C n d u H) : STf b C n d U H1 := by
  obtain ⟨c, k, i, f, a, cell, h1, h2, h3, h4, h5, h6, h7, h8, h9, h10, h11⟩ := h
  obtain ⟨k', hi', he⟩ := State.fieldFound?_setVm hvm h2
  exact ⟨c, k', i, f, a, cell, by rw [hvm.findClass]; exact h1, hi', h3, by rw [he]; exact h4, by rw [hH a h10]; exact h5, h6, h7, h8, by rw [he]; exact h9, h10, h11⟩
theorem STf.lays {b : Nat} {C n d : String} {s : State} {args : Array Value} (h : STf b C n d s s.heap) : (Cond.laysStatic C n d).before args s = true := by
  obtain ⟨c, k, i, f, a, cell, h1, h2, h3, h4, h5, h6, h7, h8, h9, -⟩ := h
  exact Cond.laysStatic_of h1 h2 h3 h4 h5 h6 h7 h8 h9
theorem STf.isRef {b : Nat} {C n d : String} {s : State} {args : Array Value} (h : STf b C n d s s.heap) : (Cond.isRef (.static C n d)).before args s = true := by
  obtain ⟨c, k, i, f, a, cell, h1, h2, h3, h4, h5, h6, h7, h8, h9, -, h11⟩ := h
  rcases h11 with h11 | ⟨t, h11⟩
  · have he : (Term.static C n d).eval args s none [] s = some .null := by
      simp [Term.eval, State.fieldNamed?, h2, h3, h4, h5, h6, h11]
    simp [Cond.before, Cond.holds, Cond.value, he]
  · have he : (Term.static C n d).eval args s none [] s = some (.ref t) := by
      simp [Term.eval, State.fieldNamed?, h2, h3, h4, h5, h6, h11]
    simp [Cond.before, Cond.holds, Cond.value, he]
def BW (K : Kx) (U : State) : Prop := K.base ≤ U.heap.size ∧ NWk U ∧ STf K.base "java/lang/Throwable" "UNASSIGNED_STACK" "[Ljava/lang/StackTraceElement;" U U.heap ∧ STf K.base "java/lang/Throwable" "SUPPRESSED_SENTINEL" "Ljava/util/List;" U U.heap
theorem BW.moved {K : Kx} {s U : State} (hW : s.WarmedH U.vm) (hz : s.heap.size ≤ U.heap.size) (hH : ∀ q, q < K.base → U.heap[q]? = s.heap[q]?) (h : BW K s) : BW K U :=
  ⟨Nat.le_trans h.1 hz, h.2.1.moved hW, h.2.2.1.moved hW.alike hH, h.2.2.2.moved hW.alike hH⟩
end
section
/-! THE WALK'S JUDGEMENT -/
theorem fval_bup {I : MI3} {P : MP} {b col i i' : Nat} {v : Int32} {f : Bool × Nat × Nat} (h : f = (false, b, col) → i' ≠ i) : fval (bup I b col i v) P f i' = fval I P f i' := by
  obtain ⟨t, b', c'⟩ := f
  cases t with
  | true => rfl
  | false =>
    show Value.int (bup I b col i v b' c' i') = Value.int (I b' c' i')
    by_cases hb : b' = b
    · by_cases hc : c' = col
      · subst hb; subst hc
        have := h rfl
        simp [bup, up, this]
      · simp [bup, up, hb, hc]
    · simp [bup, hb]
theorem acont_bup {I : MI3} {P : MP} {b col i : Nat} {v : Int32} {f : Nat × Nat × Nat} (h : f ≠ (0, b, col)) : acont (bup I b col i v) P f = acont I P f := by
  obtain ⟨t, b', c'⟩ := f
  match t, h with
  | 0, h =>
    show Sum.inl (bup I b col i v b' c') = Sum.inl (I b' c')
    congr 1
    funext j
    by_cases hb : b' = b
    · by_cases hc : c' = col
      · subst hb; subst hc
        exact absurd rfl h
      · simp [bup, up, hb, hc]
    · simp [bup, hb]
  | 1, _ => rfl
  | n + 2, _ => rfl
theorem fval_up {I : MI3} {P : MP} {b col i i' : Nat} {v : Option Nat} {f : Bool × Nat × Nat} (h : f.1 = true → f.2.2 = col → i' ≠ i) : fval I (up P col i v) f i' = fval I P f i' := by
  obtain ⟨t, b', c'⟩ := f
  cases t with
  | false => rfl
  | true =>
    show va_rf (up P col i v c' i') = va_rf (P c' i')
    by_cases hc : c' = col
    · subst hc
      have := h rfl rfl
      simp [up, this]
    · simp [up, hc]
theorem acont_up {I : MI3} {P : MP} {col i : Nat} {v : Option Nat} {f : Nat × Nat × Nat} (h : f.1 ≠ 0 → f.2.2 ≠ col) : acont I (up P col i v) f = acont I P f := by
  obtain ⟨t, b', c'⟩ := f
  match t, h with
  | 0, _ => rfl
  | 1, h =>
    have hc : c' ≠ col := h (by simp)
    show Sum.inr (Sum.inl _) = Sum.inr (Sum.inl _)
    congr 2
    funext j
    simp [up, hc]
  | n + 2, h =>
    have hc : c' ≠ col := h (by simp)
    show Sum.inr (Sum.inr (Sum.inr (Sum.inr (up P col i v c')))) = Sum.inr (Sum.inr (Sum.inr (Sum.inr (P c'))))
    congr 4
    funext j
    simp [up, hc]
/-- a method's frame: the machine, the method, where it goes; nL: how many locals -/
abbrev Jx : Type := Program × Launch × Env × Room × State × MethodId × Array Value × List Frame × Method × Code × (State → Prop) × Nat
abbrev Jx.p (X : Jx) : Program := X.1
abbrev Jx.l (X : Jx) : Launch := X.2.1
abbrev Jx.e (X : Jx) : Env := X.2.2.1
abbrev Jx.R (X : Jx) : Room := X.2.2.2.1
abbrev Jx.s (X : Jx) : State := X.2.2.2.2.1
abbrev Jx.m (X : Jx) : MethodId := X.2.2.2.2.2.1
abbrev Jx.args (X : Jx) : Array Value := X.2.2.2.2.2.2.1
abbrev Jx.below (X : Jx) : List Frame := X.2.2.2.2.2.2.2.1
abbrev Jx.meth (X : Jx) : Method := X.2.2.2.2.2.2.2.2.1
abbrev Jx.c (X : Jx) : Code := X.2.2.2.2.2.2.2.2.2.1
abbrev Jx.Q (X : Jx) : State → Prop := X.2.2.2.2.2.2.2.2.2.2.1
abbrev Jx.nL (X : Jx) : Nat := X.2.2.2.2.2.2.2.2.2.2.2
def JW (X : Jx) (H : Heap) (locs : List Loc) (cells slots : Nat) (g : JFrame) : Prop := W X.p X.l X.e X.R X.s X.m X.args X.below X.meth X.c H locs cells slots X.Q g
/-- the locals: first match counts -/
def getL : List (Nat × Value) → Nat → Option Value
  | [], _ => none
  | q :: t, k => if q.1 = k then some q.2 else getL t k
def clL : List (Nat × Value) → List (Nat × Value)
  | [] => []
  | q :: t => q :: (clL t).filter (fun z => !(z.1 == q.1))
theorem clL_get : ∀ {lv : List (Nat × Value)} {k : Nat} {v : Value}, getL lv k = some v → (k, v) ∈ clL lv
  | [], k, v, h => by simp [getL] at h
  | q :: t, k, v, h => by
    unfold getL at h
    unfold clL
    by_cases hq : q.1 = k
    · rw [if_pos hq] at h
      cases h
      subst hq
      exact List.mem_cons_self
    · rw [if_neg hq] at h
      refine List.mem_cons_of_mem _ (List.mem_filter.mpr ⟨clL_get h, ?_⟩)
      simp
      exact fun z => hq z.symm
theorem clL_sub : ∀ {lv : List (Nat × Value)} {q : Nat × Value}, q ∈ clL lv → getL lv q.1 = some q.2
  | [], q, h => by simp [clL] at h
  | z :: t, q, h => by
    unfold clL at h
    unfold getL
    rcases List.mem_cons.mp h with rfl | h
    · rw [if_pos rfl]
    · obtain ⟨h1, h2⟩ := List.mem_filter.mp h
      have h3 : ¬ q.1 = z.1 := by simpa using h2
      rw [if_neg (fun e => h3 e.symm)]
      exact clL_sub h1
def hasL (ls : Array Slot) (nL : Nat) (lv : List (Nat × Value)) : Prop := lv_has ls nL (clL lv) ∧ ∀ q ∈ lv, q.2.category = 1
theorem clL_mem : ∀ {lv : List (Nat × Value)} {q : Nat × Value}, q ∈ clL lv → q ∈ lv
  | [], q, h => by simp [clL] at h
  | z :: t, q, h => by
    unfold clL at h
    rcases List.mem_cons.mp h with rfl | h
    · exact List.mem_cons_self
    · exact List.mem_cons_of_mem _ (clL_mem (List.mem_filter.mp h).1)
theorem hasL_at {ls : Array Slot} {nL : Nat} {lv : List (Nat × Value)} (h : hasL ls nL lv) {k : Nat} {v : Value} (hk : getL lv k = some v) : ls[k]? = some (.val v) := h.1.2.2 (k, v) (clL_get hk)
/-- what a store leaves, as this file's list -/
theorem hasL_store {ls : Array Slot} {nL : Nat} {lv : List (Nat × Value)} {i : Nat} {v : Value} (hc : v.category = 1) (h0 : ∀ q ∈ lv, q.2.category = 1) (h : lv_has ls nL ((i, v) :: (clL lv).filter (fun q => !(q.1 == i) && !(q.1 + 1 == i && q.2.category == 2)))) : hasL ls nL ((i, v) :: lv) := by
  refine ⟨⟨h.1, h.2.1, fun q hq => ?_⟩, fun q hq => ?_⟩
  · unfold clL at hq
    rcases List.mem_cons.mp hq with rfl | hq
    · exact h.2.2 _ List.mem_cons_self
    · obtain ⟨h1, h2⟩ := List.mem_filter.mp hq
      refine h.2.2 q (List.mem_cons_of_mem _ (List.mem_filter.mpr ⟨h1, ?_⟩))
      have h4 : q.2.category = 1 := h0 q (clL_mem h1)
      have h3 : (!(q.1 == i)) = true := h2
      rw [h3, h4]
      simp
  · rcases List.mem_cons.mp hq with rfl | hq
    · exact hc
    · exact h0 q hq
/-- fewer names -/
theorem hasL_sub {ls : Array Slot} {nL : Nat} {lv lv' : List (Nat × Value)} (h : hasL ls nL lv) (hs : ∀ q ∈ lv', getL lv q.1 = some q.2) : hasL ls nL lv' := by
  refine ⟨⟨h.1.1, h.1.2.1, fun q hq => h.1.2.2 q ?_⟩, fun q hq => ?_⟩
  · exact clL_get (hs q (clL_mem hq))
  · exact h.2 q (clL_mem (clL_get (hs q hq)))
def J (X : Jx) (K : Kx) (V : Vx) (I : MI3) (P : MP) (cells slots pc : Nat) (lv : List (Nat × Value)) (st : List Value) : Prop :=
  ∀ (H : Heap) (locs : List Loc) (ls : Array Slot), Wd K V I P H → X.s.heap.size ≤ H.size → (∀ q, q < K.base → H[q]? = X.s.heap[q]?) → (∀ z ∈ locs, K.base ≤ z.base) → hasL ls X.nL lv → JW X H locs cells slots (F0 X.m pc ls st)
/-- array kinds by number -/
def tysK (K : Kx) : List (ClassId × FieldType) := (List.range 7).map (fun t => (K.dA t, atyT t))
/-- what the method's code and tables give -/
def OkX (X : Jx) (cc : ByteArray) (own : String) (K : Kx) : Prop :=
  X.p.tables.exec = Jvm.exec ∧ X.c.code = cc ∧ X.c.maxLocals = X.nL ∧ X.s.vm.findClass own = some X.m.cls ∧ (∀ w ∈ WA, w.before X.args X.s = true) ∧ va_K (K.dC, K.dI) classes (tysK K) X.s ∧ BW K X.s ∧ K.apart
section JR
variable {X : Jx} {cc : ByteArray} {own : String} {K : Kx} {V : Vx} {I : MI3} {P : MP} {cells slots pc : Nat} {lv : List (Nat × Value)} {st : List Value}
theorem j_iconst (h : OkX X cc own K) {n : Int} {v : Int32} (d : decode cc pc = .ok (.iconst n, 1)) (hv : Int32.ofInt n = v) (k : J X K V I P cells slots (pc + 1) lv (.int v :: st)) : J X K V I P cells slots pc lv st :=
  fun H locs ls a b e f g => lv_iconst h.1 h.2.1 d hv (k H locs ls a b e f g)
theorem j_bipush (h : OkX X cc own K) {n : Int} {v : Int32} (d : decode cc pc = .ok (.bipush n, 2)) (hv : (Int8.ofInt n).toInt32 = v) (k : J X K V I P cells slots (pc + 2) lv (.int v :: st)) : J X K V I P cells slots pc lv st :=
  fun H locs ls a b e f g => lv_bipush h.1 h.2.1 d hv (k H locs ls a b e f g)
theorem j_sipush (h : OkX X cc own K) {n : Int} {v : Int32} (d : decode cc pc = .ok (.sipush n, 3)) (hv : (Int16.ofInt n).toInt32 = v) (k : J X K V I P cells slots (pc + 3) lv (.int v :: st)) : J X K V I P cells slots pc lv st :=
  fun H locs ls a b e f g => lv_sipush h.1 h.2.1 d hv (k H locs ls a b e f g)
theorem j_ldc (h : OkX X cc own K) {idx : Nat} {v : Int32} (d : decode cc pc = .ok (.ldc idx, 2)) (w : Cond.constant own idx v ∈ WA) (k : J X K V I P cells slots (pc + 2) lv (.int v :: st)) : J X K V I P cells slots pc lv st :=
  fun H locs ls a b e f g => lv_ldc h.1 h.2.1 h.2.2.2.1 (h.2.2.2.2.1 _ w) d (k H locs ls a b e f g)
theorem j_iload_n (h : OkX X cc own K) {n : Fin 4} {x : Int32} (d : decode cc pc = .ok (.iload_n n, 1)) (hl : getL lv n.val = some (.int x)) (k : J X K V I P cells slots (pc + 1) lv (.int x :: st)) : J X K V I P cells slots pc lv st :=
  fun H locs ls a b e f g => lv_iload_n h.1 h.2.1 d rfl (hasL_at g hl) (k H locs ls a b e f g)
theorem j_iload (h : OkX X cc own K) {n : Nat} {x : Int32} (d : decode cc pc = .ok (.iload n, 2)) (hl : getL lv n = some (.int x)) (k : J X K V I P cells slots (pc + 2) lv (.int x :: st)) : J X K V I P cells slots pc lv st :=
  fun H locs ls a b e f g => lv_iload h.1 h.2.1 d (hasL_at g hl) (k H locs ls a b e f g)
theorem j_aload_n (h : OkX X cc own K) {n : Fin 4} {x : Nat} (d : decode cc pc = .ok (.aload_n n, 1)) (hl : getL lv n.val = some (.ref x)) (k : J X K V I P cells slots (pc + 1) lv (.ref x :: st)) : J X K V I P cells slots pc lv st :=
  fun H locs ls a b e f g => lv_aload_n h.1 h.2.1 d rfl (hasL_at g hl) (k H locs ls a b e f g)
theorem j_aload (h : OkX X cc own K) {n : Nat} {x : Nat} (d : decode cc pc = .ok (.aload n, 2)) (hl : getL lv n = some (.ref x)) (k : J X K V I P cells slots (pc + 2) lv (.ref x :: st)) : J X K V I P cells slots pc lv st :=
  fun H locs ls a b e f g => lv_aload h.1 h.2.1 d (hasL_at g hl) (k H locs ls a b e f g)
theorem j_istore_n (h : OkX X cc own K) {n : Fin 4} {x : Int32} (d : decode cc pc = .ok (.istore_n n, 1)) (hn : n.val < X.nL) (k : J X K V I P cells slots (pc + 1) ((n.val, .int x) :: lv) st) : J X K V I P cells slots pc lv (.int x :: st) :=
  fun H locs ls a b e f g => lv_istore_n h.1 h.2.1 d rfl g.1 hn rfl (fun ls' h' => k H locs ls' a b e f (hasL_store rfl g.2 h'))
theorem j_istore (h : OkX X cc own K) {n : Nat} {x : Int32} (d : decode cc pc = .ok (.istore n, 2)) (hn : n < X.nL) (k : J X K V I P cells slots (pc + 2) ((n, .int x) :: lv) st) : J X K V I P cells slots pc lv (.int x :: st) :=
  fun H locs ls a b e f g => lv_istore h.1 h.2.1 d g.1 hn rfl (fun ls' h' => k H locs ls' a b e f (hasL_store rfl g.2 h'))
theorem j_astore_n (h : OkX X cc own K) {n : Fin 4} {x : Nat} (d : decode cc pc = .ok (.astore_n n, 1)) (hn : n.val < X.nL) (k : J X K V I P cells slots (pc + 1) ((n.val, .ref x) :: lv) st) : J X K V I P cells slots pc lv (.ref x :: st) :=
  fun H locs ls a b e f g => lv_astore_n h.1 h.2.1 d rfl g.1 hn rfl (fun ls' h' => k H locs ls' a b e f (hasL_store rfl g.2 h'))
theorem j_astore (h : OkX X cc own K) {n : Nat} {x : Nat} (d : decode cc pc = .ok (.astore n, 2)) (hn : n < X.nL) (k : J X K V I P cells slots (pc + 2) ((n, .ref x) :: lv) st) : J X K V I P cells slots pc lv (.ref x :: st) :=
  fun H locs ls a b e f g => lv_astore h.1 h.2.1 d g.1 hn rfl (fun ls' h' => k H locs ls' a b e f (hasL_store rfl g.2 h'))
theorem j_iinc (h : OkX X cc own K) {i : Nat} {n : Int} {x v : Int32} (d : decode cc pc = .ok (.iinc i n, 3)) (hl : getL lv i = some (.int x)) (hv : x + Int32.ofInt n = v) (hn : i < X.nL) (k : J X K V I P cells slots (pc + 3) ((i, .int v) :: lv) st) : J X K V I P cells slots pc lv st := by
  intro H locs ls a b e f g
  obtain ⟨q, hq⟩ := List.getElem?_of_mem (clL_get hl)
  exact lv_iinc h.1 h.2.1 d g.1 hq hv hn rfl (fun ls' h' => k H locs ls' a b e f (hasL_store rfl g.2 h'))
theorem j_iadd (h : OkX X cc own K) {x y : Int32} (d : decode cc pc = .ok (.iadd, 1)) (k : J X K V I P cells slots (pc + 1) lv (.int (x + y) :: st)) : J X K V I P cells slots pc lv (.int y :: .int x :: st) :=
  fun H locs ls a b e f g => lv_iadd h.1 h.2.1 d (k H locs ls a b e f g)
theorem j_isub (h : OkX X cc own K) {x y : Int32} (d : decode cc pc = .ok (.isub, 1)) (k : J X K V I P cells slots (pc + 1) lv (.int (x - y) :: st)) : J X K V I P cells slots pc lv (.int y :: .int x :: st) :=
  fun H locs ls a b e f g => lv_isub h.1 h.2.1 d (k H locs ls a b e f g)
theorem j_imul (h : OkX X cc own K) {x y : Int32} (d : decode cc pc = .ok (.imul, 1)) (k : J X K V I P cells slots (pc + 1) lv (.int (x * y) :: st)) : J X K V I P cells slots pc lv (.int y :: .int x :: st) :=
  fun H locs ls a b e f g => lv_imul h.1 h.2.1 d (k H locs ls a b e f g)
theorem j_iand (h : OkX X cc own K) {x y : Int32} (d : decode cc pc = .ok (.iand, 1)) (k : J X K V I P cells slots (pc + 1) lv (.int (x &&& y) :: st)) : J X K V I P cells slots pc lv (.int y :: .int x :: st) :=
  fun H locs ls a b e f g => lv_iand h.1 h.2.1 d (k H locs ls a b e f g)
theorem j_irem (h : OkX X cc own K) {x y : Int32} (d : decode cc pc = .ok (.irem, 1)) (hne : ¬ y = 0) (k : J X K V I P cells slots (pc + 1) lv (.int (x - (x / y) * y) :: st)) : J X K V I P cells slots pc lv (.int y :: .int x :: st) :=
  fun H locs ls a b e f g => lv_irem h.1 h.2.1 d hne (k H locs ls a b e f g)
theorem j_i2l (h : OkX X cc own K) {x : Int32} (d : decode cc pc = .ok (.i2l, 1)) (k : J X K V I P cells slots (pc + 1) lv (.long x.toInt64 :: st)) : J X K V I P cells slots pc lv (.int x :: st) :=
  fun H locs ls a b e f g => lv_i2l h.1 h.2.1 d rfl (k H locs ls a b e f g)
theorem j_lconst (h : OkX X cc own K) {n : Fin 2} {v : Int64} (d : decode cc pc = .ok (.lconst n, 1)) (hv : Int64.ofNat (n : Nat) = v) (k : J X K V I P cells slots (pc + 1) lv (.long v :: st)) : J X K V I P cells slots pc lv st :=
  fun H locs ls a b e f g => lv_lconst h.1 h.2.1 d hv (k H locs ls a b e f g)
theorem j_dup (h : OkX X cc own K) {va : Value} (d : decode cc pc = .ok (.dup, 1)) (hva : va.category = 1) (k : J X K V I P cells slots (pc + 1) lv (va :: va :: st)) : J X K V I P cells slots pc lv (va :: st) :=
  fun H locs ls a b e f g => lv_dup h.1 h.2.1 d hva (k H locs ls a b e f g)
theorem j_pop (h : OkX X cc own K) {va : Value} (d : decode cc pc = .ok (.pop, 1)) (hva : va.category = 1) (k : J X K V I P cells slots (pc + 1) lv st) : J X K V I P cells slots pc lv (va :: st) :=
  fun H locs ls a b e f g => lv_pop h.1 h.2.1 d hva (k H locs ls a b e f g)
theorem j_dup_x1 (h : OkX X cc own K) {va vb : Value} (d : decode cc pc = .ok (.dup_x1, 1)) (hva : va.category = 1) (hvb : vb.category = 1) (k : J X K V I P cells slots (pc + 1) lv (va :: vb :: va :: st)) : J X K V I P cells slots pc lv (va :: vb :: st) :=
  fun H locs ls a b e f g => lv_dup_x1 h.1 h.2.1 d hva hvb (k H locs ls a b e f g)
theorem j_dup2 (h : OkX X cc own K) {va vb : Value} (d : decode cc pc = .ok (.dup2, 1)) (hva : va.category = 1) (hvb : vb.category = 1) (k : J X K V I P cells slots (pc + 1) lv (va :: vb :: va :: vb :: st)) : J X K V I P cells slots pc lv (va :: vb :: st) :=
  fun H locs ls a b e f g => lv_dup2_11 h.1 h.2.1 d hva hvb (k H locs ls a b e f g)
theorem j_goto (h : OkX X cc own K) {off : Int} {tgt : Nat} (d : decode cc pc = .ok (.goto off, 3)) (ht : (pc : Int) + off = (tgt : Int)) (k : J X K V I P cells slots tgt lv st) : J X K V I P cells slots pc lv st :=
  fun H locs ls a b e f g => lv_goto h.1 h.2.1 d ht (k H locs ls a b e f g)
end JR
end
section
section JF
variable {X : Jx} {cc : ByteArray} {own : String} {K : Kx} {V : Vx} {I : MI3} {P : MP} {cells slots pc : Nat} {lv : List (Nat × Value)} {st : List Value}
theorem j_if_eq (h : OkX X cc own K) {x : Int32} {off : Int} {tgt : Nat} (d : decode cc pc = .ok (.ifCond .eq off, 3)) (ht : (pc : Int) + off = (tgt : Int)) (kt : x = 0 → J X K V I P cells slots tgt lv st) (kf : ¬ x = 0 → J X K V I P cells slots (pc + 3) lv st) : J X K V I P cells slots pc lv (.int x :: st) :=
  fun H locs ls a b e f g => lv_if_eq h.1 h.2.1 d ht (fun z => kt z H locs ls a b e f g) (fun z => kf z H locs ls a b e f g)
theorem j_if_ne (h : OkX X cc own K) {x : Int32} {off : Int} {tgt : Nat} (d : decode cc pc = .ok (.ifCond .ne off, 3)) (ht : (pc : Int) + off = (tgt : Int)) (kt : ¬ x = 0 → J X K V I P cells slots tgt lv st) (kf : x = 0 → J X K V I P cells slots (pc + 3) lv st) : J X K V I P cells slots pc lv (.int x :: st) :=
  fun H locs ls a b e f g => lv_if_ne h.1 h.2.1 d ht (fun z => kt z H locs ls a b e f g) (fun z => kf z H locs ls a b e f g)
theorem j_if_lt (h : OkX X cc own K) {x : Int32} {off : Int} {tgt : Nat} (d : decode cc pc = .ok (.ifCond .lt off, 3)) (ht : (pc : Int) + off = (tgt : Int)) (kt : x < 0 → J X K V I P cells slots tgt lv st) (kf : ¬ x < 0 → J X K V I P cells slots (pc + 3) lv st) : J X K V I P cells slots pc lv (.int x :: st) :=
  fun H locs ls a b e f g => lv_if_lt h.1 h.2.1 d ht (fun z => kt z H locs ls a b e f g) (fun z => kf z H locs ls a b e f g)
theorem j_if_ge (h : OkX X cc own K) {x : Int32} {off : Int} {tgt : Nat} (d : decode cc pc = .ok (.ifCond .ge off, 3)) (ht : (pc : Int) + off = (tgt : Int)) (kt : 0 ≤ x → J X K V I P cells slots tgt lv st) (kf : ¬ 0 ≤ x → J X K V I P cells slots (pc + 3) lv st) : J X K V I P cells slots pc lv (.int x :: st) :=
  fun H locs ls a b e f g => lv_if_ge h.1 h.2.1 d ht (fun z => kt z H locs ls a b e f g) (fun z => kf z H locs ls a b e f g)
theorem j_if_gt (h : OkX X cc own K) {x : Int32} {off : Int} {tgt : Nat} (d : decode cc pc = .ok (.ifCond .gt off, 3)) (ht : (pc : Int) + off = (tgt : Int)) (kt : 0 < x → J X K V I P cells slots tgt lv st) (kf : ¬ 0 < x → J X K V I P cells slots (pc + 3) lv st) : J X K V I P cells slots pc lv (.int x :: st) :=
  fun H locs ls a b e f g => lv_if_gt h.1 h.2.1 d ht (fun z => kt z H locs ls a b e f g) (fun z => kf z H locs ls a b e f g)
theorem j_if_le (h : OkX X cc own K) {x : Int32} {off : Int} {tgt : Nat} (d : decode cc pc = .ok (.ifCond .le off, 3)) (ht : (pc : Int) + off = (tgt : Int)) (kt : x ≤ 0 → J X K V I P cells slots tgt lv st) (kf : ¬ x ≤ 0 → J X K V I P cells slots (pc + 3) lv st) : J X K V I P cells slots pc lv (.int x :: st) :=
  fun H locs ls a b e f g => lv_if_le h.1 h.2.1 d ht (fun z => kt z H locs ls a b e f g) (fun z => kf z H locs ls a b e f g)
theorem j_ic_eq (h : OkX X cc own K) {x y : Int32} {off : Int} {tgt : Nat} (d : decode cc pc = .ok (.if_icmp .eq off, 3)) (ht : (pc : Int) + off = (tgt : Int)) (kt : x = y → J X K V I P cells slots tgt lv st) (kf : ¬ x = y → J X K V I P cells slots (pc + 3) lv st) : J X K V I P cells slots pc lv (.int y :: .int x :: st) :=
  fun H locs ls a b e f g => lv_icmp_eq h.1 h.2.1 d ht (fun z => kt z H locs ls a b e f g) (fun z => kf z H locs ls a b e f g)
theorem j_ic_ne (h : OkX X cc own K) {x y : Int32} {off : Int} {tgt : Nat} (d : decode cc pc = .ok (.if_icmp .ne off, 3)) (ht : (pc : Int) + off = (tgt : Int)) (kt : ¬ x = y → J X K V I P cells slots tgt lv st) (kf : x = y → J X K V I P cells slots (pc + 3) lv st) : J X K V I P cells slots pc lv (.int y :: .int x :: st) :=
  fun H locs ls a b e f g => lv_icmp_ne h.1 h.2.1 d ht (fun z => kt z H locs ls a b e f g) (fun z => kf z H locs ls a b e f g)
theorem j_ic_lt (h : OkX X cc own K) {x y : Int32} {off : Int} {tgt : Nat} (d : decode cc pc = .ok (.if_icmp .lt off, 3)) (ht : (pc : Int) + off = (tgt : Int)) (kt : x < y → J X K V I P cells slots tgt lv st) (kf : ¬ x < y → J X K V I P cells slots (pc + 3) lv st) : J X K V I P cells slots pc lv (.int y :: .int x :: st) :=
  fun H locs ls a b e f g => lv_icmp_lt h.1 h.2.1 d ht (fun z => kt z H locs ls a b e f g) (fun z => kf z H locs ls a b e f g)
theorem j_ic_ge (h : OkX X cc own K) {x y : Int32} {off : Int} {tgt : Nat} (d : decode cc pc = .ok (.if_icmp .ge off, 3)) (ht : (pc : Int) + off = (tgt : Int)) (kt : y ≤ x → J X K V I P cells slots tgt lv st) (kf : ¬ y ≤ x → J X K V I P cells slots (pc + 3) lv st) : J X K V I P cells slots pc lv (.int y :: .int x :: st) :=
  fun H locs ls a b e f g => lv_icmp_ge h.1 h.2.1 d ht (fun z => kt z H locs ls a b e f g) (fun z => kf z H locs ls a b e f g)
theorem j_ic_gt (h : OkX X cc own K) {x y : Int32} {off : Int} {tgt : Nat} (d : decode cc pc = .ok (.if_icmp .gt off, 3)) (ht : (pc : Int) + off = (tgt : Int)) (kt : y < x → J X K V I P cells slots tgt lv st) (kf : ¬ y < x → J X K V I P cells slots (pc + 3) lv st) : J X K V I P cells slots pc lv (.int y :: .int x :: st) :=
  fun H locs ls a b e f g => lv_icmp_gt h.1 h.2.1 d ht (fun z => kt z H locs ls a b e f g) (fun z => kf z H locs ls a b e f g)
theorem j_ic_le (h : OkX X cc own K) {x y : Int32} {off : Int} {tgt : Nat} (d : decode cc pc = .ok (.if_icmp .le off, 3)) (ht : (pc : Int) + off = (tgt : Int)) (kt : x ≤ y → J X K V I P cells slots tgt lv st) (kf : ¬ x ≤ y → J X K V I P cells slots (pc + 3) lv st) : J X K V I P cells slots pc lv (.int y :: .int x :: st) :=
  fun H locs ls a b e f g => lv_icmp_le h.1 h.2.1 d ht (fun z => kt z H locs ls a b e f g) (fun z => kf z H locs ls a b e f g)
theorem j_lcmp (h : OkX X cc own K) {x y : Int64} (d : decode cc pc = .ok (.lcmp, 1)) (k : J X K V I P cells slots (pc + 1) lv (.int (lg_cmp x y) :: st)) : J X K V I P cells slots pc lv (.long y :: .long x :: st) :=
  fun H locs ls a b e f g => W.lcmp h.1 h.2.1 d (k H locs ls a b e f g)
/-- fewer names of locals -/
theorem j_lv {lv' : List (Nat × Value)} (hs : ∀ q ∈ lv', getL lv q.1 = some q.2) (k : J X K V I P cells slots pc lv' st) : J X K V I P cells slots pc lv st :=
  fun H locs ls a b e f g => k H locs ls a b e f (hasL_sub g hs)
theorem j_widen {k n : Nat} (h1 : cells ≤ k) (h2 : slots ≤ n) (kk : J X K V I P k n pc lv st) : J X K V I P cells slots pc lv st :=
  fun H locs ls a b e f g => W.widen h1 h2 (kk H locs ls a b e f g)
theorem j_eq {I' : MI3} {P' : MP} {lv' : List (Nat × Value)} {st' : List Value} (hI : I = I') (hP : P = P') (hl : lv = lv') (hst : st = st') (k : J X K V I' P' cells slots pc lv' st') : J X K V I P cells slots pc lv st := by
  subst hI; subst hP; subst hl; subst hst; exact k
/-- the field number k of class ci, by the entry idx of own's pool -/
def FL (own : String) (idx ci k : Nat) : Prop := ∃ r : vw_C, classes[ci]? = some r ∧ k < r.2.2 ∧ (r.2.1 k).1 = r.1 ∧ Cond.fieldLink own idx r.1 (r.2.1 k).2.1 (r.2.1 k).2.2.1 ∈ WA
theorem j_getV (h : OkX X cc own K) {idx ci k i : Nat} {v : Value} (d : decode cc pc = .ok (.getfield idx, 3)) (w : FL own idx ci k) (hv : V.1 ci i) (hc : fval I P (cinf ci k) i = v) (kk : J X K V I P cells slots (pc + 3) lv (v :: st)) : J X K V I P cells slots pc lv (.ref (K.ad ci i) :: st) := by
  intro H locs ls a b' e f g
  obtain ⟨r, hr, hk, hd0, hw⟩ := w
  obtain ⟨hpv, r', hr', cell, q1, q2, q3, q4⟩ := a.1 ci i hv
  cases Option.some.inj (hr.symm.trans hr')
  obtain ⟨hS, hfc, kC, hkC, hkind⟩ := h.2.2.2.2.2.1.1 ci r hr
  obtain ⟨cf, kf, fi, fd, hi, hsl⟩ := hS k hk
  refine W.getf h.1 h.2.1 h.2.2.2.1 (h.2.2.2.2.1 _ hw) (hd0 ▸ hi) (u_facts hfc hkC (u_lays h.2.2.2.2.1 (cls_in ci r hr) hk) hi).1 q1 (by rw [q3]; exact fun z => by cases z) (v := v) ?_ rfl rfl d (kk H locs ls a b' e f g)
  rw [hsl, q4 k hk]
  exact congrArg some hc
theorem j_get (h : OkX X cc own K) {idx ci k i b col : Nat} (d : decode cc pc = .ok (.getfield idx, 3)) (w : FL own idx ci k) (hc : cinf ci k = (false, b, col)) (hv : V.1 ci i) (kk : J X K V I P cells slots (pc + 3) lv (.int (I b col i) :: st)) : J X K V I P cells slots pc lv (.ref (K.ad ci i) :: st) :=
  j_getV h d w hv (by rw [hc]; rfl) kk
theorem j_getR (h : OkX X cc own K) {idx ci k i b col q : Nat} (d : decode cc pc = .ok (.getfield idx, 3)) (w : FL own idx ci k) (hc : cinf ci k = (true, b, col)) (hv : V.1 ci i) (hp : P col i = some q) (kk : J X K V I P cells slots (pc + 3) lv (.ref q :: st)) : J X K V I P cells slots pc lv (.ref (K.ad ci i) :: st) :=
  j_getV h d w hv (by rw [hc]; show va_rf (P col i) = _; rw [hp]; rfl) kk
theorem Wd_kept {H H1 : Heap} (hap : K.apart) (hw : Wd K V I P H) (oq : ∀ q, q < H.size → H1[q]? = H[q]?) (V' : Vx) (h1 : ∀ c i, V'.1 c i → V.1 c i) (h2 : ∀ a, V'.2.1 a → V.2.1 a) (h3 : V'.2.2 H1.size) : Wd K V' I P H1 := by
  refine ⟨fun ci i hv => ?_, fun a ha => ?_, h3⟩
  · obtain ⟨p', r', hr', hob⟩ := hw.1 ci i (h1 ci i hv)
    refine ⟨p', r', hr', hob.kept (oq _ ?_)⟩
    obtain ⟨cell, z, -⟩ := hob
    exact (Array.getElem?_eq_some_iff.mp z).1
  · obtain ⟨pa, z⟩ := hw.2.1 a (h2 a ha)
    exact ⟨pa, by rw [oq _ (Array.getElem?_eq_some_iff.mp z).1]; exact z⟩
theorem Wd_put {H H1 : Heap} {ci k i b col : Nat} {v : Int32} {r : vw_C} (hap : K.apart) (hw : Wd K V I P H) (hv : V.1 ci i) (hr : classes[ci]? = some r) (hk : k < r.2.2) (hc : cinf ci k = (false, b, col))
    (hnew : t_OB (K.ad ci i) (K.dC ci) r.2.2 (K.dI ci) H1 (updV (fun k => fval I P (cinf ci k) i) k (.int v))) (oq : ∀ q, q ≠ K.ad ci i → H1[q]? = H[q]?) (hz : H1.size = H.size) : Wd K V (bup I b col i v) P H1 := by
  refine ⟨fun ci' i' hv' => ?_, fun a ha => ?_, by rw [hz]; exact hw.2.2⟩
  · obtain ⟨p', r', hr', hob⟩ := hw.1 ci' i' hv'
    refine ⟨p', r', hr', ?_⟩
    by_cases hq : K.ad ci' i' = K.ad ci i
    · obtain ⟨e1, e2⟩ := hap.1 ci' i' ci i p' (hw.1 ci i hv).1 hq
      subst e1; subst e2
      cases Option.some.inj (hr.symm.trans hr')
      refine hnew.to (fun j hj => ?_)
      by_cases hjk : j = k
      · subst hjk
        simp [updV, fval, hc, bup, up]
      · simp only [updV, if_neg hjk]
        exact (fval_bup (fun hf => absurd (tbl_ff hr hj hr hk (hf.trans hc.symm)).2 hjk)).symm
    · refine (hob.kept (oq _ hq)).to (fun j hj => ?_)
      refine (fval_bup (fun hf => ?_)).symm
      intro hi
      have := (tbl_ff hr' hj hr hk (hf.trans hc.symm)).1
      subst this; subst hi
      exact hq rfl
  · obtain ⟨pa, z⟩ := hw.2.1 a ha
    refine ⟨pa, ?_⟩
    rw [acont_bup (tbl_fa hr hk hc (hap.2.2.2.2.2 a pa)), oq _ (fun z9 => hap.2.2.1 ci i a (hw.1 ci i hv).1 pa z9.symm)]
    exact z
theorem Wd_putR {H H1 : Heap} {ci k i b col : Nat} {v : Option Nat} {r : vw_C} (hap : K.apart) (hw : Wd K V I P H) (hv : V.1 ci i) (hr : classes[ci]? = some r) (hk : k < r.2.2) (hc : cinf ci k = (true, b, col))
    (hnew : t_OB (K.ad ci i) (K.dC ci) r.2.2 (K.dI ci) H1 (updV (fun k => fval I P (cinf ci k) i) k (va_rf v))) (oq : ∀ q, q ≠ K.ad ci i → H1[q]? = H[q]?) (hz : H1.size = H.size) : Wd K V I (up P col i v) H1 := by
  refine ⟨fun ci' i' hv' => ?_, fun a ha => ?_, by rw [hz]; exact hw.2.2⟩
  · obtain ⟨p', r', hr', hob⟩ := hw.1 ci' i' hv'
    refine ⟨p', r', hr', ?_⟩
    by_cases hq : K.ad ci' i' = K.ad ci i
    · obtain ⟨e1, e2⟩ := hap.1 ci' i' ci i p' (hw.1 ci i hv).1 hq
      subst e1; subst e2
      cases Option.some.inj (hr.symm.trans hr')
      refine hnew.to (fun j hj => ?_)
      by_cases hjk : j = k
      · subst hjk
        simp [updV, fval, hc, up]
      · simp only [updV, if_neg hjk]
        exact (fval_up (b := b) (fun h1 h2 => absurd (tbl_rr hr hj hr hk h1 (by rw [hc]) (by rw [h2, hc])).2 hjk)).symm
    · refine (hob.kept (oq _ hq)).to (fun j hj => ?_)
      refine (fval_up (b := b) (fun h1 h2 => ?_)).symm
      intro hi
      have := (tbl_rr hr' hj hr hk h1 (by rw [hc]) (by rw [h2, hc])).1
      subst this; subst hi
      exact hq rfl
  · obtain ⟨pa, z⟩ := hw.2.1 a ha
    refine ⟨pa, ?_⟩
    rw [acont_up (fun h0 => tbl_ra hr hk hc (hap.2.2.2.2.2 a pa) h0), oq _ (fun z9 => hap.2.2.1 ci i a (hw.1 ci i hv).1 pa z9.symm)]
    exact z
/-- .. that may be written -/
def FW (own : String) (idx ci k : Nat) : Prop := ∃ r : vw_C, classes[ci]? = some r ∧ k < r.2.2 ∧ (r.2.1 k).1 = r.1 ∧ Cond.fieldLink own idx r.1 (r.2.1 k).2.1 (r.2.1 k).2.2.1 ∈ WA ∧ (r.2.1 k).2.2.2 = false
/-- .. that a constructor of own may write -/
def FI (own : String) (idx ci k : Nat) : Prop := ∃ r : vw_C, classes[ci]? = some r ∧ k < r.2.2 ∧ (r.2.1 k).1 = r.1 ∧ Cond.fieldLink own idx r.1 (r.2.1 k).2.1 (r.2.1 k).2.2.1 ∈ WA ∧ (r.2.1 k).2.2.2 = true ∧ r.1 = own
theorem j_putV (h : OkX X cc own K) {idx ci k i : Nat} {v : Value} {I' : MI3} {P' : MP} (d : decode cc pc = .ok (.putfield idx, 3)) (w : FW own idx ci k) (hv : V.1 ci i) (hn : narrow (ftyp ci k) v = v) (hfit : fits (ftyp ci k) v = true)
    (hW : ∀ (H H1 : Heap) (r : vw_C), Wd K V I P H → classes[ci]? = some r → k < r.2.2 → t_OB (K.ad ci i) (K.dC ci) r.2.2 (K.dI ci) H1 (updV (fun k => fval I P (cinf ci k) i) k v) → (∀ q, q ≠ K.ad ci i → H1[q]? = H[q]?) → H1.size = H.size → Wd K V I' P' H1)
    (kk : J X K V I' P' cells slots (pc + 3) lv st) : J X K V I P cells slots pc lv (v :: .ref (K.ad ci i) :: st) := by
  intro H locs ls a b' e f g
  obtain ⟨r, hr, hk, hd0, hw, hfin⟩ := w
  obtain ⟨hpv, r', hr', cell, q1, q2, q3, q4⟩ := a.1 ci i hv
  cases Option.some.inj (hr.symm.trans hr')
  have hts := h.2.2.2.2.1
  have hK := h.2.2.2.2.2.1
  have hap := h.2.2.2.2.2.2.2
  have hsa := va_apart (own := own) hts (cls_in ci r hr) (ftyp ci) (cls_ty ci r hr) (cls_nm ci r hr) hK hr
  obtain ⟨hS, hfc, kC, hkC, hkind⟩ := hK.1 ci r hr
  obtain ⟨cf, kf, fi, fd, hi, hsl⟩ := hS k hk
  have hlay := hts _ (cls_in ci r hr _ (u_in_lay hk))
  unfold u_lay at hlay
  rw [if_neg (by rw [hfin]; decide)] at hlay
  have hst := (u_facts hfc hkC (u_lays hts (cls_in ci r hr) hk) hi).1
  have h6 := u_store hfc hkC hkind hlay hi (cls_ty ci r hr k hk) hn hfit
  refine W.putK h.1 h.2.1 (f := fd) ⟨h.2.2.2.1, hts _ hw, ⟨_, _, _, hd0 ▸ hi⟩, hst⟩ (by rw [q2]; exact h6) q1 q3 (by rw [hsl]; exact k2_hasslot (q4 k hk)) rfl rfl d fun H' e1 e2 e3 => ?_
  rw [hsl] at e1 ⊢
  have hba : K.base ≤ K.ad ci i := hap.2.2.2.1 ci i hpv
  refine kk H' _ ls (hW H H' r a hr hk ⟨_, e1, q2, q3, t_set q4 hsa hk v⟩ e3 e2) (by rw [e2]; exact b') (fun q hq => ?_) (t_lc f hba) g
  rw [e3 q (Nat.ne_of_lt (Nat.lt_of_lt_of_le hq hba))]
  exact e q hq
theorem j_put (h : OkX X cc own K) {idx ci k i b col : Nat} {v : Int32} (d : decode cc pc = .ok (.putfield idx, 3)) (w : FW own idx ci k) (hc : cinf ci k = (false, b, col)) (hty : ftyp ci k = .int) (hv : V.1 ci i) (kk : J X K V (bup I b col i v) P cells slots (pc + 3) lv st) : J X K V I P cells slots pc lv (.int v :: .ref (K.ad ci i) :: st) :=
  j_putV h d w hv (by rw [hty]; rfl) (by rw [hty]; rfl) (fun _ _ _ a hr hk hn oq hz => Wd_put h.2.2.2.2.2.2.2 a hv hr hk hc hn oq hz) kk
theorem z_nar {v : Int32} (h : v = 0 ∨ v = 1) : narrow .boolean (.int v) = .int v := by rcases h with rfl | rfl <;> rfl
theorem z_fit {v : Int32} (h : v = 0 ∨ v = 1) : fits .boolean (.int v) = true := by rcases h with rfl | rfl <;> rfl
theorem j_putZ (h : OkX X cc own K) {idx ci k i b col : Nat} {v : Int32} (d : decode cc pc = .ok (.putfield idx, 3)) (w : FW own idx ci k) (hc : cinf ci k = (false, b, col)) (hty : ftyp ci k = .boolean) (hv : V.1 ci i) (hz : v = 0 ∨ v = 1) (kk : J X K V (bup I b col i v) P cells slots (pc + 3) lv st) : J X K V I P cells slots pc lv (.int v :: .ref (K.ad ci i) :: st) :=
  j_putV h d w hv (by rw [hty]; exact z_nar hz) (by rw [hty]; exact z_fit hz) (fun _ _ _ a hr hk hn oq hz => Wd_put h.2.2.2.2.2.2.2 a hv hr hk hc hn oq hz) kk
theorem j_putR (h : OkX X cc own K) {idx ci k i b col q : Nat} (d : decode cc pc = .ok (.putfield idx, 3)) (w : FW own idx ci k) (hc : cinf ci k = (true, b, col)) (hty : narrow (ftyp ci k) (.ref q) = .ref q ∧ fits (ftyp ci k) (.ref q) = true) (hv : V.1 ci i) (kk : J X K V I (up P col i (some q)) cells slots (pc + 3) lv st) : J X K V I P cells slots pc lv (.ref q :: .ref (K.ad ci i) :: st) :=
  j_putV h d w hv hty.1 hty.2 (fun _ _ _ a hr hk hn oq hz => Wd_putR (v := some q) h.2.2.2.2.2.2.2 a hv hr hk hc hn oq hz) kk
end JF
end
section
section JA
variable {X : Jx} {cc : ByteArray} {own : String} {K : Kx} {V : Vx} {I : MI3} {P : MP} {cells slots pc : Nat} {lv : List (Nat × Value)} {st : List Value}
/-! arrays -/
theorem tys_at (K : Kx) {t : Nat} (h : t < 7) : (tysK K)[t]? = some (K.dA t, atyT t) := by
  unfold tysK
  rw [List.getElem?_map, List.getElem?_range h]
  rfl
theorem acont_i {f : Nat × Nat × Nat} {b col : Nat} (h : f = (0, b, col)) : acont I P f = .inl (I b col) := by subst h; rfl
theorem acont_l {f : Nat × Nat × Nat} {b col : Nat} (h : f = (1, b, col)) : acont I P f = .inr (.inl (fun j => Int64.ofNat ((P col j).getD 0))) := by subst h; rfl
theorem acont_q {f : Nat × Nat × Nat} {b col : Nat} (h : f = (2, b, col)) : acont I P f = .inr (.inr (.inr (.inr (P col)))) := by subst h; rfl
theorem n_in {j N : Nat} (h : j < N) (hN : N < 2147483648) : vp_in (nI j) N := vp_in_nI h hN
theorem j_iald (h : OkX X cc own K) {a b col j : Nat} {x : Int32} (d : decode cc pc = .ok (.iaload, 1)) (hi : ainf a = (0, b, col)) (ht : atyT (aty a) = .int ∧ aty a < 7) (ha : V.2.1 a) (hx : x = nI j) (hj : j < K.alen a) (hl : K.alen a < 2147483648) (kk : J X K V I P cells slots (pc + 1) lv (.int (I b col j) :: st)) : J X K V I P cells slots pc lv (.int x :: .ref (K.aad a) :: st) := by
  intro H locs ls w b' e f g
  subst hx
  have hin := n_in hj hl
  have hcl : (nI j).toNatClampNeg = j := nI_clamp (by omega)
  have hA := (w.2.1 a ha).2
  rw [acont_i hi] at hA
  refine W.iald (v := .int (I b col j)) h.1 h.2.1 hA (ht.1 ▸ (h.2.2.2.2.2.1.2 (aty a) _ (tys_at K ht.2)).1 (K.alen a) (fun j => .int (I b col j))) (fun q => by cases q) (by show ¬ (nI j < 0 ∨ (arrV _ _ _).slots.size ≤ _); rw [arrV_size]; exact hin) (by show (arrV _ _ _).slots[_]? = _; rw [hcl, arrV_read _ _ hj]) rfl rfl d (kk H locs ls w b' e f g)
theorem j_zald (h : OkX X cc own K) {a b col j : Nat} {x : Int32} (d : decode cc pc = .ok (.baload, 1)) (hi : ainf a = (0, b, col)) (ht : atyT (aty a) = .boolean ∧ aty a < 7) (ha : V.2.1 a) (hx : x = nI j) (hj : j < K.alen a) (hl : K.alen a < 2147483648) (kk : J X K V I P cells slots (pc + 1) lv (.int (I b col j) :: st)) : J X K V I P cells slots pc lv (.int x :: .ref (K.aad a) :: st) := by
  intro H locs ls w b' e f g
  subst hx
  have hin := n_in hj hl
  have hcl : (nI j).toNatClampNeg = j := nI_clamp (by omega)
  have hA := (w.2.1 a ha).2
  rw [acont_i hi] at hA
  refine W.zald (v := .int (I b col j)) h.1 h.2.1 hA (ht.1 ▸ (h.2.2.2.2.2.1.2 (aty a) _ (tys_at K ht.2)).1 (K.alen a) (fun j => .int (I b col j))) (fun q => by cases q) (by show ¬ (nI j < 0 ∨ (arrV _ _ _).slots.size ≤ _); rw [arrV_size]; exact hin) (by show (arrV _ _ _).slots[_]? = _; rw [hcl, arrV_read _ _ hj]) rfl rfl d (kk H locs ls w b' e f g)
theorem j_aald (h : OkX X cc own K) {a b col j q : Nat} {x : Int32} {C : String} (d : decode cc pc = .ok (.aaload, 1)) (hi : ainf a = (2, b, col)) (ht : atyT (aty a) = .object C ∧ aty a < 7) (ha : V.2.1 a) (hx : x = nI j) (hj : j < K.alen a) (hl : K.alen a < 2147483648) (hp : P col j = some q) (kk : J X K V I P cells slots (pc + 1) lv (.ref q :: st)) : J X K V I P cells slots pc lv (.int x :: .ref (K.aad a) :: st) := by
  intro H locs ls w b' e f g
  subst hx
  have hin := n_in hj hl
  have hcl : (nI j).toNatClampNeg = j := nI_clamp (by omega)
  have hA := (w.2.1 a ha).2
  rw [acont_q hi] at hA
  refine W.aald (v := .ref q) (ty := .object C) h.1 h.2.1 hA (ht.1 ▸ (h.2.2.2.2.2.1.2 (aty a) _ (tys_at K ht.2)).1 (K.alen a) (fun j => va_rf (P col j))) rfl (fun q => by cases q) (by show ¬ (nI j < 0 ∨ (arrV _ _ _).slots.size ≤ _); rw [arrV_size]; exact hin) (by show (arrV _ _ _).slots[_]? = _; rw [hcl, arrV_read _ _ hj, hp]; rfl) rfl rfl d (kk H locs ls w b' e f g)
theorem j_alen (h : OkX X cc own K) {a : Nat} (d : decode cc pc = .ok (.arraylength, 1)) (ht : aty a < 7) (ha : V.2.1 a) (kk : J X K V I P cells slots (pc + 1) lv (.int (nI (K.alen a)) :: st)) : J X K V I P cells slots pc lv (.ref (K.aad a) :: st) := by
  intro H locs ls w b' e f g
  have hA := (w.2.1 a ha).2
  have hT := (h.2.2.2.2.2.1.2 (aty a) _ (tys_at K ht)).1
  have kk := kk H locs ls w b' e f g
  generalize acont I P (ainf a) = x at hA
  obtain x | x | x | x | x := x
  · exact W.alen (n := nI (K.alen a)) h.1 h.2.1 hA (hT (K.alen a) (fun j => .int (x j))) (by rw [vp_cell_i, arrV_size] <;> rfl) rfl rfl d kk
  · exact W.alen (n := nI (K.alen a)) h.1 h.2.1 hA (hT (K.alen a) (fun j => .long (x j))) (by rw [vp_cell_l, arrV_size] <;> rfl) rfl rfl d kk
  · exact W.alen (n := nI (K.alen a)) h.1 h.2.1 hA (hT (K.alen a) (fun j => .float (x j))) (by rw [vp_cell_f, arrV_size] <;> rfl) rfl rfl d kk
  · exact W.alen (n := nI (K.alen a)) h.1 h.2.1 hA (hT (K.alen a) (fun j => .double (x j))) (by rw [vp_cell_d, arrV_size] <;> rfl) rfl rfl d kk
  · exact W.alen (n := nI (K.alen a)) h.1 h.2.1 hA (hT (K.alen a) (fun j => va_rf (x j))) (by rw [vp_cell_q, arrV_size] <;> rfl) rfl rfl d kk
/-- an array's cell has become another one -/
theorem Wd_ast {H H1 : Heap} {a : Nat} {I' : MI3} {P' : MP} (hap : K.apart) (hw : Wd K V I P H) (ha : V.2.1 a) (hnew : H1[K.aad a]? = some (vp_cell (K.dA (aty a)) (K.alen a, acont I' P' (ainf a)))) (oq : ∀ q, q ≠ K.aad a → H1[q]? = H[q]?) (hz : H1.size = H.size)
    (hf : ∀ ci r k i, classes[ci]? = some r → k < r.2.2 → fval I' P' (cinf ci k) i = fval I P (cinf ci k) i) (hA : ∀ a', a' < 60 → a' ≠ a → acont I' P' (ainf a') = acont I P (ainf a')) : Wd K V I' P' H1 := by
  refine ⟨fun ci' i' hv' => ?_, fun a' ha' => ?_, by rw [hz]; exact hw.2.2⟩
  · obtain ⟨p', r', hr', hob⟩ := hw.1 ci' i' hv'
    exact ⟨p', r', hr', (hob.kept (oq _ (hap.2.2.1 ci' i' a p' (hw.2.1 a ha).1))).to (fun j hj => (hf ci' r' j i' hr' hj).symm)⟩
  · obtain ⟨pa, z⟩ := hw.2.1 a' ha'
    refine ⟨pa, ?_⟩
    by_cases hq : a' = a
    · subst hq; exact hnew
    · rw [hA a' (hap.2.2.2.2.2 a' pa) hq, oq _ (fun z9 => hq (hap.2.1 a' a pa (hw.2.1 a ha).1 z9))]
      exact z
theorem bup_col (I : MI3) (b col j : Nat) (x : Int32) : bup I b col j x b col = upd (I b col) j x := by
  funext i
  simp [bup, up, upd]
theorem j_iast (h : OkX X cc own K) {a b col j : Nat} {x y : Int32} (d : decode cc pc = .ok (.iastore, 1)) (hi : ainf a = (0, b, col)) (ht : atyT (aty a) = .int ∧ aty a < 7) (ha : V.2.1 a) (hx : x = nI j) (hj : j < K.alen a) (hl : K.alen a < 2147483648) (kk : J X K V (bup I b col j y) P cells slots (pc + 1) lv st) : J X K V I P cells slots pc lv (.int y :: .int x :: .ref (K.aad a) :: st) := by
  intro H locs ls w b' e f g
  subst hx
  have hin := n_in hj hl
  have hcl : (nI j).toNatClampNeg = j := nI_clamp (by omega)
  have hap := h.2.2.2.2.2.2.2
  have hA := (w.2.1 a ha).2
  have hpa := (w.2.1 a ha).1
  rw [acont_i hi] at hA
  refine W.iast h.1 h.2.1 hA (ht.1 ▸ (h.2.2.2.2.2.1.2 (aty a) _ (tys_at K ht.2)).1 (K.alen a) (fun j => .int (I b col j))) (fun q => by cases q) (by show ¬ (nI j < 0 ∨ (arrV _ _ _).slots.size ≤ _); rw [arrV_size]; exact hin) rfl rfl d fun H1 e1 z oq => ?_
  have hba := hap.2.2.2.2.1 a hpa
  refine kk H1 _ ls (Wd_ast hap w ha ?_ oq z (fun ci r k i hr hk => fval_bup (fun hf => absurd hi (tbl_fa hr hk hf (hap.2.2.2.2.2 a hpa)))) (fun a' h1 h2 => acont_bup (fun hf => h2 (tbl_aa h1 (hap.2.2.2.2.2 a hpa) (by rw [hf, hi]))))) (by rw [z]; exact b') (fun q hq => by rw [oq q (Nat.ne_of_lt (Nat.lt_of_lt_of_le hq hba))]; exact e q hq) (t_lc f hba) g
  rw [e1, acont_i hi, bup_col, vp_cell_i, vp_cell_i, arrV_store, hcl]
  congr 2
  funext q
  by_cases hq : q = j
  · subst hq; simp [updV, upd]
  · simp [updV, upd, hq]
theorem j_zast (h : OkX X cc own K) {a b col j : Nat} {x y : Int32} (d : decode cc pc = .ok (.bastore, 1)) (hi : ainf a = (0, b, col)) (ht : atyT (aty a) = .boolean ∧ aty a < 7) (ha : V.2.1 a) (hx : x = nI j) (hj : j < K.alen a) (hl : K.alen a < 2147483648) (hz : y = 0 ∨ y = 1) (kk : J X K V (bup I b col j y) P cells slots (pc + 1) lv st) : J X K V I P cells slots pc lv (.int y :: .int x :: .ref (K.aad a) :: st) := by
  intro H locs ls w b' e f g
  subst hx
  have hin := n_in hj hl
  have hcl : (nI j).toNatClampNeg = j := nI_clamp (by omega)
  have hap := h.2.2.2.2.2.2.2
  have hA := (w.2.1 a ha).2
  have hpa := (w.2.1 a ha).1
  rw [acont_i hi] at hA
  refine W.zast h.1 h.2.1 hA (ht.1 ▸ (h.2.2.2.2.2.1.2 (aty a) _ (tys_at K ht.2)).1 (K.alen a) (fun j => .int (I b col j))) (fun q => by cases q) (by show ¬ (nI j < 0 ∨ (arrV _ _ _).slots.size ≤ _); rw [arrV_size]; exact hin) rfl rfl d fun H1 e1 z oq => ?_
  have hba := hap.2.2.2.2.1 a hpa
  refine kk H1 _ ls (Wd_ast hap w ha ?_ oq z (fun ci r k i hr hk => fval_bup (fun hf => absurd hi (tbl_fa hr hk hf (hap.2.2.2.2.2 a hpa)))) (fun a' h1 h2 => acont_bup (fun hf => h2 (tbl_aa h1 (hap.2.2.2.2.2 a hpa) (by rw [hf, hi]))))) (by rw [z]; exact b') (fun q hq => by rw [oq q (Nat.ne_of_lt (Nat.lt_of_lt_of_le hq hba))]; exact e q hq) (t_lc f hba) g
  rw [e1, acont_i hi, bup_col, vp_cell_i, vp_cell_i, arrV_store, hcl, z_nar hz]
  congr 2
  funext q
  by_cases hq : q = j
  · subst hq; simp [updV, upd]
  · simp [updV, upd, hq]
theorem up_col {α : Type} (f : Nat → Nat → α) (col j : Nat) (x : α) : up f col j x col = va_up (f col) j x := by
  funext i
  simp [up, va_up]
theorem j_aast (h : OkX X cc own K) {a b col j ci i : Nat} {x : Int32} {r : vw_C} (d : decode cc pc = .ok (.aastore, 1)) (hi : ainf a = (2, b, col)) (hr : classes[ci]? = some r) (ht : atyT (aty a) = .object r.1 ∧ aty a < 7) (ha : V.2.1 a) (hv : V.1 ci i) (hx : x = nI j) (hj : j < K.alen a) (hl : K.alen a < 2147483648) (kk : J X K V I (up P col j (some (K.ad ci i))) cells slots (pc + 1) lv st) : J X K V I P cells slots pc lv (.ref (K.ad ci i) :: .int x :: .ref (K.aad a) :: st) := by
  intro H locs ls w b' e f g
  subst hx
  have hin := n_in hj hl
  have hcl : (nI j).toNatClampNeg = j := nI_clamp (by omega)
  have h0 : ¬ nI j < 0 := fun q => hin (Or.inl q)
  have hap := h.2.2.2.2.2.2.2
  have hK := h.2.2.2.2.2.1
  have hA := (w.2.1 a ha).2
  have hpa := (w.2.1 a ha).1
  rw [acont_q hi] at hA
  obtain ⟨hpv, r', hr', cellV, g1, g2, g3, -⟩ := w.1 ci i hv
  cases Option.some.inj (hr.symm.trans hr')
  have hcls := (hK.1 ci r hr).2
  have hRA := (hK.2 (aty a) _ (tys_at K ht.2)).2
  have hRA : va_RA X.s (K.dA (aty a)) (.object r.1) := ht.1 ▸ hRA
  obtain ⟨kA, comp, k1, k2, k3, -⟩ := hRA
  have hcomp : comp = K.dC ci := Option.some.inj (k3.symm.trans hcls.1)
  subst hcomp
  obtain ⟨kC, hkC, -⟩ := hcls.2
  refine W.aast h.1 h.2.1 hA (fun q h => by cases h) (fun h => by cases h) k1 k2 rfl hkC ⟨h0, by show _ < (arrV _ _ _).slots.size; rw [arrV_size, hcl]; exact hj⟩ g1 (fun q h => by rw [g3] at h; cases h) (by rw [g2]; exact hkC) (by rw [g2]; exact va_assign hcls) rfl rfl d fun H1 e1 z oq => ?_
  have hba := hap.2.2.2.2.1 a hpa
  refine kk H1 _ ls (Wd_ast hap w ha ?_ oq z (fun ci r k i hr hk => fval_up (b := b) (fun h1 h2 => absurd (by rw [hi]; exact h2.symm) (tbl_ra hr hk (b := (cinf ci k).2.1) (col := (cinf ci k).2.2) (by rw [← h1]) (hap.2.2.2.2.2 a hpa) (by rw [hi]; exact (by simp))))) (fun a' h1 h2 => acont_up (fun hf h3 => h2 (tbl_rr2 h1 (hap.2.2.2.2.2 a hpa) hf (by rw [hi]; exact (by simp)) (by rw [h3, hi]))))) (by rw [z]; exact b') (fun q hq => by rw [oq q (Nat.ne_of_lt (Nat.lt_of_lt_of_le hq hba))]; exact e q hq) (t_lc f hba) g
  rw [e1, acont_q hi, up_col, vp_cell_q, vp_cell_q, arrV_store, hcl]
  congr 2
  funext q
  by_cases hq : q = j
  · subst hq; simp [updV, va_up, va_rf]
  · simp [updV, va_up, hq]
end JA
end
section
/-! contracts: entry, returns, calls -/
abbrev Px : Type := Vx → Option Value → MI3 → MP → Prop
def QC (K : Kx) (post : Px) : Array Value → State → Outcome → State → Prop := fun _ st o t =>
  ∃ (r : Option Value) (V' : Vx) (I' : MI3) (P' : MP), o = .returned r ∧ post V' r I' P' ∧ Wd K V' I' P' t.heap ∧ st.heap.size ≤ t.heap.size ∧ ∀ q, q < K.base → t.heap[q]? = st.heap[q]?
def KS (K : Kx) (U : State) : Prop := va_K (K.dC, K.dI) classes (tysK K) U ∧ BW K U ∧ K.apart
/-- a method: its name, bytes, number of locals, answer -/
abbrev Mx : Type := MethodName × ByteArray × Nat × Option FieldType
def wsM (md : Mx) : List Cond := .code md.1 md.2.1 md.2.2.1 md.2.2.2 :: WA
def rmM (d : Nat × Nat) (mc ms : Nat) : Room := { frames := d.1, cells := mc, slots := ms, locals := d.2 }
def PC (K : Kx) (av : List Value) (V : Vx) (I : MI3) (P : MP) : Array Value → State → Prop := va_Pc av (fun U => Wd K V I P U.heap ∧ KS K U)
def Ct (l : Launch) (K : Kx) (md : Mx) (d : Nat × Nat) (mc ms : Nat) (av : List Value) (V : Vx) (I : MI3) (P : MP) (post : Px) : Prop :=
  Met l md.1 (wsM md) (rmM d mc ms) (PC K av V I P) (QC K post) mc ms (fun q => K.base ≤ q)
/-- what a walk of the method md's body has -/
def HX (X : Jx) (md : Mx) (K : Kx) (d : Nat × Nat) (mc ms : Nat) (post : Px) : Prop :=
  OkX X md.2.1 md.1.cls K ∧ X.nL = md.2.2.1 ∧ X.R = rmM d mc ms ∧ X.meth.sig.returnType = md.2.2.2 ∧ X.meth.locks = false ∧ X.meth.name = md.1.name ∧ X.Q = MQ X.below (QC K post) X.args X.s mc ms (fun q => K.base ≤ q)
theorem PC_blind {K : Kx} {av : List Value} {V : Vx} {I : MI3} {P : MP} : FrameBlind (PC K av V I P) := by
  intro a U g mk h
  obtain ⟨h1, h2, h3, h4, h5⟩ := h
  exact ⟨h1, h2, va_K.moved (u := U) (U := U.calling g mk a) (Vm.Alike.refl U.vm) h3, ⟨h4.1, h4.2.1.same (rfl : U.vm = (U.calling g mk a).vm), h4.2.2.1.moved (U := U.calling g mk a) (Vm.Alike.refl U.vm) (fun _ _ => rfl), h4.2.2.2.moved (U := U.calling g mk a) (Vm.Alike.refl U.vm) (fun _ _ => rfl)⟩, h5⟩
theorem lv_cat1 : ∀ (vs : List Value) (n : Nat), (∀ v ∈ vs, v.category = 1) → ∀ q ∈ lv_args n vs, q.2.category = 1
  | [], n, _, q, hq => by simp [lv_args] at hq
  | v :: t, n, h, q, hq => by
    unfold lv_args at hq
    rcases List.mem_cons.mp hq with rfl | hq
    · exact h v List.mem_cons_self
    · exact lv_cat1 t _ (fun w hw => h w (List.mem_cons_of_mem _ hw)) q hq
theorem ct_of {l : Launch} {K : Kx} {md : Mx} {d : Nat × Nat} {mc ms : Nat} {av : List Value} {V : Vx} {I : MI3} {P : MP} {post : Px} (lv : List (Nat × Value)) (hy : plainName md.1.cls = true) (hn : (lg_sl av).length ≤ md.2.2.1) (hcat : ∀ v ∈ av, v.category = 1) (hlv : lv_args 0 av = lv)
    (body : ∀ X : Jx, X.l = l → HX X md K d mc ms post → J X K V I P 0 0 0 lv []) : Ct l K md d mc ms av V I P post := by
  refine Met.ofW (cc := md.2.1) (maxL := md.2.2.1) (ret := md.2.2.2) hy rfl ?_
  intro p e s m args below meth c s₁ B hml hv
  obtain ⟨rfl, hW, hK, hb, hap⟩ := hv
  have hts := atoms_spec (ws := wsM md) B.pre
  have hown : s.vm.findClass md.1.cls = some m.cls := findClass_of_methodNamed B.named
  have hnm : meth.name = md.1.name := (name_of_methodNamed B.named B.method).1
  have hl := lv_entry av hn
  rw [lg_entry_eq]
  generalize (lg_sl av ++ List.replicate (md.2.2.1 - (lg_sl av).length) Slot.unset).toArray = ls at hl ⊢
  have K1 := body (p, l, e, rmM d mc ms, s, m, av.toArray, below, meth, c, MQ below (QC K post) av.toArray s mc ms (fun q => K.base ≤ q), md.2.2.1) rfl
    ⟨⟨B.exec, B.bytes, hml, hown, fun w hw => hts w (List.mem_cons_of_mem _ hw), hK, hb, hap⟩, rfl, rfl, B.returns, B.notSynchronized, hnm, rfl⟩
  refine K1 s.heap [] ls hW (Nat.le_refl _) (fun _ _ => rfl) (fun _ h => by cases h) ⟨⟨hl.1, hl.2.1, fun q hq => ?_⟩, ?_⟩
  · rw [← hlv] at hq
    exact hl.2.2 q (clL_mem hq)
  · rw [← hlv]
    exact lv_cat1 av 0 hcat
section JC
variable {X : Jx} {cc : ByteArray} {own : String} {K : Kx} {V : Vx} {I : MI3} {P : MP} {cells slots pc : Nat} {lv : List (Nat × Value)} {st : List Value} {md : Mx} {d : Nat × Nat} {mc ms : Nat} {post : Px}
theorem j_iret (h : HX X md K d mc ms post) {v : Int32} (dd : decode md.2.1 pc = .ok (.ireturn, 1)) (hr : md.2.2.2 = some .int) (hc : cells ≤ mc) (hs : slots ≤ ms) (hp : post V (some (.int v)) I P) : J X K V I P cells slots pc lv [.int v] := by
  intro H locs ls a b e f g
  obtain ⟨⟨h1, h2, -⟩, -, -, h5, h6, -, h8⟩ := h
  unfold JW
  rw [h8]
  refine W.widen hc hs ?_
  exact W.iret h1 h2 (h5.trans hr) (fun t ht hW => ⟨_, V, I, P, rfl, hp, by rw [ht]; exact a, by rw [ht]; exact b, fun q hq => by rw [ht]; exact e q hq⟩) f dd h6
theorem j_zret (h : HX X md K d mc ms post) {v : Int32} (dd : decode md.2.1 pc = .ok (.ireturn, 1)) (hr : md.2.2.2 = some .boolean) (hz : v = 0 ∨ v = 1) (hc : cells ≤ mc) (hs : slots ≤ ms) (hp : post V (some (.int v)) I P) : J X K V I P cells slots pc lv [.int v] := by
  intro H locs ls a b e f g
  obtain ⟨⟨h1, h2, -⟩, -, -, h5, h6, -, h8⟩ := h
  unfold JW
  rw [h8]
  refine W.widen hc hs ?_
  exact W.zret h1 h2 (h5.trans hr) (z_nar hz) (fun t ht hW => ⟨_, V, I, P, rfl, hp, by rw [ht]; exact a, by rw [ht]; exact b, fun q hq => by rw [ht]; exact e q hq⟩) f dd h6
theorem j_vret (h : HX X md K d mc ms post) (dd : decode md.2.1 pc = .ok (.return_, 1)) (hr : md.2.2.2 = none) (hc : cells ≤ mc) (hs : slots ≤ ms) (hp : post V none I P) : J X K V I P cells slots pc lv [] := by
  intro H locs ls a b e f g
  obtain ⟨⟨h1, h2, -⟩, -, -, h5, h6, -, h8⟩ := h
  unfold JW
  rw [h8]
  refine W.widen hc hs ?_
  exact W.vret h1 h2 (h5.trans hr) (fun t ht hW => ⟨_, V, I, P, rfl, hp, by rw [ht]; exact a, by rw [ht]; exact b, fun q hq => by rw [ht]; exact e q hq⟩) f dd h6
theorem j_aret (h : HX X md K d mc ms post) {q0 : Nat} {C : String} (dd : decode md.2.1 pc = .ok (.areturn, 1)) (hr : md.2.2.2 = some (.object C)) (hc : cells ≤ mc) (hs : slots ≤ ms) (hp : post V (some (.ref q0)) I P) : J X K V I P cells slots pc lv [.ref q0] := by
  intro H locs ls a b e f g
  obtain ⟨⟨h1, h2, -⟩, -, -, h5, h6, -, h8⟩ := h
  unfold JW
  rw [h8]
  refine W.widen hc hs ?_
  exact W.aret h1 h2 (h5.trans hr) (Or.inl ⟨_, rfl⟩) (Or.inr ⟨_, rfl⟩) (fun t ht hW => ⟨_, V, I, P, rfl, hp, by rw [ht]; exact a, by rw [ht]; exact b, fun q hq => by rw [ht]; exact e q hq⟩) f dd h6
/-- behind a call that returns -/
theorem j_run {rest st0 : List Value} {a0 : Array Value} (hr : ∀ (H : Heap) (locs : List Loc) (ls : Array Slot), Wd K V I P H → X.s.heap.size ≤ H.size → (∀ q, q < K.base → H[q]? = X.s.heap[q]?) → hasL ls X.nL lv → va_Run X.p X.l X.e X.R X.s X.m X.args X.below X.meth X.c H locs cells slots mc ms (F0 X.m pc ls st0) rest (QC K post a0) (fun q => K.base ≤ q))
    (kk : ∀ (V' : Vx) (r : Option Value) (I' : MI3) (P' : MP), post V' r I' P' → J X K V' I' P' (cells + mc) (slots + ms) (pc + 3) lv (r.toList ++ rest)) : J X K V I P cells slots pc lv st0 := by
  intro H locs ls a b e f g T hT Z
  obtain ⟨v, st₀, t, T', L, h0, X', hL, e1, e2, ⟨r, V', I', P', hv, hp, hw, hz, hk⟩, go⟩ := hr H locs ls a b e g T hT Z
  cases hv
  rw [h0] at hz hk
  obtain ⟨t2, a1, b1⟩ := kk V' v I' P' hp T'.heap (locs ++ L) ls (by rw [e1]; exact hw) (Nat.le_trans b (by rw [e1]; exact hz)) (fun q hq => by rw [e1, hk q hq]; exact e q hq) (fun z hz => by
    rcases List.mem_append.mp hz with h | h
    · exact f z h
    · exact hL z h) g T' rfl X'
  exact ⟨t2, go t2 a1, b1⟩
/-- the words of a call -/
def MLk (own : String) (idx : Nat) (md : Mx) (n : Nat) : Prop := Cond.methodLink own idx md.1 ∈ WA ∧ Cond.initialized md.1.cls ∈ WA ∧ Cond.code md.1 md.2.1 md.2.2.1 md.2.2.2 ∈ WA ∧ (md.1.cls ≠ "java/lang/invoke/MethodHandle" ∧ md.1.cls ≠ "java/lang/invoke/VarHandle" ∧ (parseMethodDescriptor md.1.desc).map (fun d => d.parameters.length) = some n)
theorem good_ws (h : Cond.code md.1 md.2.1 md.2.2.1 md.2.2.2 ∈ WA) : GoodIn WA (wsM md) := by
  intro w hw
  rcases List.mem_cons.mp hw with rfl | hw
  · exact ⟨h, WA_good _ h⟩
  · exact ⟨hw, WA_good _ hw⟩
theorem ml_callB (h : OkX X cc own K) {idx n : Nat} (w : MLk own idx md n) (hR : d.1 + 1 ≤ X.R.frames ∧ md.2.2.1 + 19 + d.2 ≤ X.R.locals) : CallB X.R X.s X.args own idx md.1 md.2.1 md.2.2.1 md.2.2.2 (wsM md) (rmM d mc ms) mc ms n := by
  obtain ⟨w1, w2, w3, w4⟩ := w
  have ht := h.2.2.2.2.1
  exact callB_of n ht (good_ws w3) rfl rfl rfl (ht _ w2) (ht _ w1) w4 ⟨hR.1, by show 8 + (md.2.2.1 + 11) + d.2 ≤ _; omega⟩
theorem pc_at (h : OkX X cc own K) {H : Heap} {av : List Value} (a : Wd K V I P H) (b : X.s.heap.size ≤ H.size) (e : ∀ q, q < K.base → H[q]? = X.s.heap[q]?) (U : State) (hU : U.heap = H) (hW : X.s.WarmedH U.vm) : PC K av V I P av.toArray U :=
  ⟨rfl, by rw [hU]; exact a, va_K.moved hW.alike h.2.2.2.2.2.1, h.2.2.2.2.2.2.1.moved hW (by rw [hU]; exact b) (by rw [hU]; exact e), h.2.2.2.2.2.2.2⟩
theorem st_room {m : MethodId} {pc : Nat} {ls : Array Slot} {st0 rest : List Value} (h : (rest.map fun v => v.category).sum ≤ 8) : 2 * (F0 m pc ls st0).monitorRoom + (rest.map fun v => v.category).sum ≤ 8 := by
  have : (F0 m pc ls st0).monitorRoom = 0 := rfl
  omega
theorem j_callV (h : OkX X cc own K) {idx ci i n : Nat} {As rest st0 : List Value} {r : vw_C} (hM : Ct X.l K md d mc ms (.ref (K.ad ci i) :: As) V I P post) (dd : decode cc pc = .ok (.invokevirtual idx, 3)) (w : MLk own idx md n) (w2 : Cond.instanceMethod md.1 ∈ WA ∧ Cond.selects md.1.cls md.1 md.1 ∈ WA)
    (hv : V.1 ci i) (hcl : classes[ci]? = some r ∧ r.1 = md.1.cls) (hst : st0 = As.reverse ++ .ref (K.ad ci i) :: rest) (hn : As.length = n) (hcat : (rest.map fun v => v.category).sum ≤ 8) (hR : d.1 + 1 ≤ X.R.frames ∧ md.2.2.1 + 19 + d.2 ≤ X.R.locals) (hf : cells + mc ≤ X.R.cells ∧ slots + ms ≤ X.R.slots)
    (kk : ∀ (V' : Vx) (r : Option Value) (I' : MI3) (P' : MP), post V' r I' P' → J X K V' I' P' (cells + mc) (slots + ms) (pc + 3) lv (r.toList ++ rest)) : J X K V I P cells slots pc lv st0 := by
  subst hst
  refine j_run (post := post) (rest := rest) (a0 := (Value.ref (K.ad ci i) :: As).toArray) (fun H locs ls a b e g => ?_) kk
  obtain ⟨hpv, r', hr', cell, q1, q2, q3, q4⟩ := a.1 ci i hv
  cases Option.some.inj (hcl.1.symm.trans hr')
  have hcls := (h.2.2.2.2.2.1.1 ci r hcl.1).2
  have ht := h.2.2.2.2.1
  exact va_runV (Ts := WA) ⟨h.1, h.2.1, h.2.2.1, h.2.2.2.1, ht⟩ hM ⟨ml_callB h w hR, ht _ w2.1, ht _ w2.2⟩ ⟨PC_blind, ⟨cell, q1, by rw [q3]; rfl, by rw [q2, ← hcl.2]; exact hcls.1⟩, fun U hU hW => pc_at h a b e U hU hW⟩ rfl hn g.1.1 rfl (st_room hcat) dd hf
theorem j_callS (h : OkX X cc own K) {idx n : Nat} {As rest st0 : List Value} (hM : Ct X.l K md d mc ms As V I P post) (dd : decode cc pc = .ok (.invokestatic idx, 3)) (w : MLk own idx md n) (w2 : Cond.static md.1 ∈ WA)
    (hst : st0 = As.reverse ++ rest) (hn : As.length = n) (hcat : (rest.map fun v => v.category).sum ≤ 8) (hR : d.1 + 1 ≤ X.R.frames ∧ md.2.2.1 + 19 + d.2 ≤ X.R.locals) (hf : cells + mc ≤ X.R.cells ∧ slots + ms ≤ X.R.slots)
    (kk : ∀ (V' : Vx) (r : Option Value) (I' : MI3) (P' : MP), post V' r I' P' → J X K V' I' P' (cells + mc) (slots + ms) (pc + 3) lv (r.toList ++ rest)) : J X K V I P cells slots pc lv st0 := by
  subst hst
  refine j_run (post := post) (rest := rest) (a0 := As.toArray) (fun H locs ls a b e g => ?_) kk
  have ht := h.2.2.2.2.1
  exact va_runS (Ts := WA) ⟨h.1, h.2.1, h.2.2.1, h.2.2.2.1, ht⟩ hM ⟨ml_callB h w hR, ht _ w2⟩ ⟨PC_blind, fun U hU hW => pc_at h a b e U hU hW⟩ rfl hn g.1.1 rfl (st_room hcat) dd hf
theorem j_callI (h : OkX X cc own K) {idx q0 n : Nat} {As rest st0 : List Value} (hM : Ct X.l K md d mc ms (.ref q0 :: As) V I P post) (dd : decode cc pc = .ok (.invokespecial idx, 3)) (w : MLk own idx md n) (w2 : Cond.instanceMethod md.1 ∈ WA) (hin : md.1.name = "<init>") (hret : md.2.2.2 = none)
    (hst : st0 = As.reverse ++ .ref q0 :: rest) (hn : As.length = n) (hcat : (rest.map fun v => v.category).sum ≤ 8) (hR : d.1 + 1 ≤ X.R.frames ∧ md.2.2.1 + 19 + d.2 ≤ X.R.locals) (hf : cells + mc ≤ X.R.cells ∧ slots + ms ≤ X.R.slots)
    (kk : ∀ (V' : Vx) (r : Option Value) (I' : MI3) (P' : MP), post V' r I' P' → J X K V' I' P' (cells + mc) (slots + ms) (pc + 3) lv (r.toList ++ rest)) : J X K V I P cells slots pc lv st0 := by
  subst hst
  refine j_run (post := post) (rest := rest) (a0 := (Value.ref q0 :: As).toArray) (fun H locs ls a b e g => ?_) kk
  have ht := h.2.2.2.2.1
  exact va_runI (Ts := WA) ⟨h.1, h.2.1, h.2.2.1, h.2.2.2.1, ht⟩ hM ⟨hret ▸ ml_callB h w hR, hin, ht _ w2⟩ ⟨PC_blind, fun U hU hW => pc_at h a b e U hU hW⟩ rfl hn g.1.1 rfl (st_room hcat) dd hf
theorem hR_of {d' : Nat × Nat} {n : Nat} (h : HX X md K d mc ms post) (h1 : d'.1 + 1 ≤ d.1) (h2 : n + 19 + d'.2 ≤ d.2) : d'.1 + 1 ≤ X.R.frames ∧ n + 19 + d'.2 ≤ X.R.locals := by
  rw [h.2.2.1]
  exact ⟨h1, h2⟩
theorem hf_of {mc' ms' : Nat} (h : HX X md K d mc ms post) (h1 : cells + mc' ≤ mc) (h2 : slots + ms' ≤ ms) : cells + mc' ≤ X.R.cells ∧ slots + ms' ≤ X.R.slots := by
  rw [h.2.2.1]
  exact ⟨h1, h2⟩
theorem ca_n : ∀ v ∈ ([] : List Value), v.category = 1 := fun _ h => by cases h
theorem ca_i {x : Int32} {t : List Value} (h : ∀ v ∈ t, v.category = 1) : ∀ v ∈ Value.int x :: t, v.category = 1 := fun v hv => (List.mem_cons.mp hv).elim (fun e => by rw [e]; rfl) (h v)
theorem ca_r {x : Nat} {t : List Value} (h : ∀ v ∈ t, v.category = 1) : ∀ v ∈ Value.ref x :: t, v.category = 1 := fun v hv => (List.mem_cons.mp hv).elim (fun e => by rw [e]; rfl) (h v)
end JC
end
section
/-! the rows again, a bank each -/
section JB
variable {X : Jx} {cc : ByteArray} {own : String} {K : Kx} {V : Vx} {A B C D : MI} {P : MP} {cells slots pc : Nat} {lv : List (Nat × Value)} {st : List Value}
theorem j_get0 (h : OkX X cc own K) {idx ci k i col : Nat} (d : decode cc pc = .ok (.getfield idx, 3)) (w : FL own idx ci k) (hc : cinf ci k = (false, 0, col)) (hv : V.1 ci i) (kk : J X K V (bk4 A B C D) P cells slots (pc + 3) lv (.int (A col i) :: st)) : J X K V (bk4 A B C D) P cells slots pc lv (.ref (K.ad ci i) :: st) := j_get h d w hc hv kk
theorem j_put0 (h : OkX X cc own K) {idx ci k i col : Nat} {v : Int32} (d : decode cc pc = .ok (.putfield idx, 3)) (w : FW own idx ci k) (hc : cinf ci k = (false, 0, col)) (hty : ftyp ci k = .int) (hv : V.1 ci i) (kk : J X K V (bk4 (up A col i v) B C D) P cells slots (pc + 3) lv st) : J X K V (bk4 A B C D) P cells slots pc lv (.int v :: .ref (K.ad ci i) :: st) := j_put h d w hc hty hv (by rw [bup_0]; exact kk)
theorem j_get1 (h : OkX X cc own K) {idx ci k i col : Nat} (d : decode cc pc = .ok (.getfield idx, 3)) (w : FL own idx ci k) (hc : cinf ci k = (false, 1, col)) (hv : V.1 ci i) (kk : J X K V (bk4 A B C D) P cells slots (pc + 3) lv (.int (B col i) :: st)) : J X K V (bk4 A B C D) P cells slots pc lv (.ref (K.ad ci i) :: st) := j_get h d w hc hv kk
theorem j_put1 (h : OkX X cc own K) {idx ci k i col : Nat} {v : Int32} (d : decode cc pc = .ok (.putfield idx, 3)) (w : FW own idx ci k) (hc : cinf ci k = (false, 1, col)) (hty : ftyp ci k = .int) (hv : V.1 ci i) (kk : J X K V (bk4 A (up B col i v) C D) P cells slots (pc + 3) lv st) : J X K V (bk4 A B C D) P cells slots pc lv (.int v :: .ref (K.ad ci i) :: st) := j_put h d w hc hty hv (by rw [bup_1]; exact kk)
theorem j_get2 (h : OkX X cc own K) {idx ci k i col : Nat} (d : decode cc pc = .ok (.getfield idx, 3)) (w : FL own idx ci k) (hc : cinf ci k = (false, 2, col)) (hv : V.1 ci i) (kk : J X K V (bk4 A B C D) P cells slots (pc + 3) lv (.int (C col i) :: st)) : J X K V (bk4 A B C D) P cells slots pc lv (.ref (K.ad ci i) :: st) := j_get h d w hc hv kk
theorem j_put2 (h : OkX X cc own K) {idx ci k i col : Nat} {v : Int32} (d : decode cc pc = .ok (.putfield idx, 3)) (w : FW own idx ci k) (hc : cinf ci k = (false, 2, col)) (hty : ftyp ci k = .int) (hv : V.1 ci i) (kk : J X K V (bk4 A B (up C col i v) D) P cells slots (pc + 3) lv st) : J X K V (bk4 A B C D) P cells slots pc lv (.int v :: .ref (K.ad ci i) :: st) := j_put h d w hc hty hv (by rw [bup_2]; exact kk)
theorem j_get3 (h : OkX X cc own K) {idx ci k i col : Nat} (d : decode cc pc = .ok (.getfield idx, 3)) (w : FL own idx ci k) (hc : cinf ci k = (false, 3, col)) (hv : V.1 ci i) (kk : J X K V (bk4 A B C D) P cells slots (pc + 3) lv (.int (D col i) :: st)) : J X K V (bk4 A B C D) P cells slots pc lv (.ref (K.ad ci i) :: st) := j_get h d w hc hv kk
theorem j_put3 (h : OkX X cc own K) {idx ci k i col : Nat} {v : Int32} (d : decode cc pc = .ok (.putfield idx, 3)) (w : FW own idx ci k) (hc : cinf ci k = (false, 3, col)) (hty : ftyp ci k = .int) (hv : V.1 ci i) (kk : J X K V (bk4 A B C (up D col i v)) P cells slots (pc + 3) lv st) : J X K V (bk4 A B C D) P cells slots pc lv (.int v :: .ref (K.ad ci i) :: st) := j_put h d w hc hty hv (by rw [bup_3]; exact kk)
theorem j_putZ0 (h : OkX X cc own K) {idx ci k i col : Nat} {v : Int32} (d : decode cc pc = .ok (.putfield idx, 3)) (w : FW own idx ci k) (hc : cinf ci k = (false, 0, col)) (hty : ftyp ci k = .boolean) (hv : V.1 ci i) (hz : v = 0 ∨ v = 1) (kk : J X K V (bk4 (up A col i v) B C D) P cells slots (pc + 3) lv st) : J X K V (bk4 A B C D) P cells slots pc lv (.int v :: .ref (K.ad ci i) :: st) := j_putZ h d w hc hty hv hz (by rw [bup_0]; exact kk)
theorem j_putZ1 (h : OkX X cc own K) {idx ci k i col : Nat} {v : Int32} (d : decode cc pc = .ok (.putfield idx, 3)) (w : FW own idx ci k) (hc : cinf ci k = (false, 1, col)) (hty : ftyp ci k = .boolean) (hv : V.1 ci i) (hz : v = 0 ∨ v = 1) (kk : J X K V (bk4 A (up B col i v) C D) P cells slots (pc + 3) lv st) : J X K V (bk4 A B C D) P cells slots pc lv (.int v :: .ref (K.ad ci i) :: st) := j_putZ h d w hc hty hv hz (by rw [bup_1]; exact kk)
theorem j_iald2 (h : OkX X cc own K) {a col j : Nat} {x : Int32} (d : decode cc pc = .ok (.iaload, 1)) (hi : ainf a = (0, 2, col)) (ht : atyT (aty a) = .int ∧ aty a < 7) (ha : V.2.1 a) (hx : x = nI j) (hj : j < K.alen a) (hl : K.alen a < 2147483648) (kk : J X K V (bk4 A B C D) P cells slots (pc + 1) lv (.int (C col j) :: st)) : J X K V (bk4 A B C D) P cells slots pc lv (.int x :: .ref (K.aad a) :: st) := j_iald h d hi ht ha hx hj hl kk
theorem j_iast2 (h : OkX X cc own K) {a col j : Nat} {x y : Int32} (d : decode cc pc = .ok (.iastore, 1)) (hi : ainf a = (0, 2, col)) (ht : atyT (aty a) = .int ∧ aty a < 7) (ha : V.2.1 a) (hx : x = nI j) (hj : j < K.alen a) (hl : K.alen a < 2147483648) (kk : J X K V (bk4 A B (up C col j y) D) P cells slots (pc + 1) lv st) : J X K V (bk4 A B C D) P cells slots pc lv (.int y :: .int x :: .ref (K.aad a) :: st) := j_iast h d hi ht ha hx hj hl (by rw [bup_2]; exact kk)
theorem j_iald3 (h : OkX X cc own K) {a col j : Nat} {x : Int32} (d : decode cc pc = .ok (.iaload, 1)) (hi : ainf a = (0, 3, col)) (ht : atyT (aty a) = .int ∧ aty a < 7) (ha : V.2.1 a) (hx : x = nI j) (hj : j < K.alen a) (hl : K.alen a < 2147483648) (kk : J X K V (bk4 A B C D) P cells slots (pc + 1) lv (.int (D col j) :: st)) : J X K V (bk4 A B C D) P cells slots pc lv (.int x :: .ref (K.aad a) :: st) := j_iald h d hi ht ha hx hj hl kk
theorem j_iast3 (h : OkX X cc own K) {a col j : Nat} {x y : Int32} (d : decode cc pc = .ok (.iastore, 1)) (hi : ainf a = (0, 3, col)) (ht : atyT (aty a) = .int ∧ aty a < 7) (ha : V.2.1 a) (hx : x = nI j) (hj : j < K.alen a) (hl : K.alen a < 2147483648) (kk : J X K V (bk4 A B C (up D col j y)) P cells slots (pc + 1) lv st) : J X K V (bk4 A B C D) P cells slots pc lv (.int y :: .int x :: .ref (K.aad a) :: st) := j_iast h d hi ht ha hx hj hl (by rw [bup_3]; exact kk)
theorem j_zald2 (h : OkX X cc own K) {a col j : Nat} {x : Int32} (d : decode cc pc = .ok (.baload, 1)) (hi : ainf a = (0, 2, col)) (ht : atyT (aty a) = .boolean ∧ aty a < 7) (ha : V.2.1 a) (hx : x = nI j) (hj : j < K.alen a) (hl : K.alen a < 2147483648) (kk : J X K V (bk4 A B C D) P cells slots (pc + 1) lv (.int (C col j) :: st)) : J X K V (bk4 A B C D) P cells slots pc lv (.int x :: .ref (K.aad a) :: st) := j_zald h d hi ht ha hx hj hl kk
theorem j_zast2 (h : OkX X cc own K) {a col j : Nat} {x y : Int32} (d : decode cc pc = .ok (.bastore, 1)) (hi : ainf a = (0, 2, col)) (ht : atyT (aty a) = .boolean ∧ aty a < 7) (ha : V.2.1 a) (hx : x = nI j) (hj : j < K.alen a) (hl : K.alen a < 2147483648) (hz : y = 0 ∨ y = 1) (kk : J X K V (bk4 A B (up C col j y) D) P cells slots (pc + 1) lv st) : J X K V (bk4 A B C D) P cells slots pc lv (.int y :: .int x :: .ref (K.aad a) :: st) := j_zast h d hi ht ha hx hj hl hz (by rw [bup_2]; exact kk)
def EQ (V : Vx) (r : Option Value) (I : MI3) (P : MP) : Px := fun V' r' I' P' => V' = V ∧ r' = r ∧ I' = I ∧ P' = P
end JB
end
section
/-! the entries of the pools -/
theorem wf_LP_13 : Cond.fieldLink R_LP 13 R_LP (F_LP 0).2.1 (F_LP 0).2.2.1 ∈ WA := wa_2 (List.mem_of_getElem? (i := 25) (by decide +kernel)) (by decide +kernel)
theorem fl_LP_13 : FL R_LP 13 0 0 := ⟨_, rfl, by decide, rfl, wf_LP_13⟩
theorem fi_LP_13 : FI R_LP 13 0 0 := ⟨_, rfl, by decide, rfl, wf_LP_13, rfl, rfl⟩
theorem wf_LP_17 : Cond.fieldLink R_LP 17 R_LP (F_LP 1).2.1 (F_LP 1).2.2.1 ∈ WA := wa_2 (List.mem_of_getElem? (i := 26) (by decide +kernel)) (by decide +kernel)
theorem fl_LP_17 : FL R_LP 17 0 1 := ⟨_, rfl, by decide, rfl, wf_LP_17⟩
theorem fi_LP_17 : FI R_LP 17 0 1 := ⟨_, rfl, by decide, rfl, wf_LP_17, rfl, rfl⟩
theorem wf_LP_22 : Cond.fieldLink R_LP 22 R_LP (F_LP 2).2.1 (F_LP 2).2.2.1 ∈ WA := wa_2 (List.mem_of_getElem? (i := 27) (by decide +kernel)) (by decide +kernel)
theorem fl_LP_22 : FL R_LP 22 0 2 := ⟨_, rfl, by decide, rfl, wf_LP_22⟩
theorem fi_LP_22 : FI R_LP 22 0 2 := ⟨_, rfl, by decide, rfl, wf_LP_22, rfl, rfl⟩
theorem wf_LP_31 : Cond.fieldLink R_LP 31 R_LP (F_LP 3).2.1 (F_LP 3).2.2.1 ∈ WA := wa_2 (List.mem_of_getElem? (i := 28) (by decide +kernel)) (by decide +kernel)
theorem fl_LP_31 : FL R_LP 31 0 3 := ⟨_, rfl, by decide, rfl, wf_LP_31⟩
theorem fi_LP_31 : FI R_LP 31 0 3 := ⟨_, rfl, by decide, rfl, wf_LP_31, rfl, rfl⟩
theorem wf_LP_39 : Cond.fieldLink R_LP 39 R_LP (F_LP 4).2.1 (F_LP 4).2.2.1 ∈ WA := wa_2 (List.mem_of_getElem? (i := 29) (by decide +kernel)) (by decide +kernel)
theorem fl_LP_39 : FL R_LP 39 0 4 := ⟨_, rfl, by decide, rfl, wf_LP_39⟩
theorem fi_LP_39 : FI R_LP 39 0 4 := ⟨_, rfl, by decide, rfl, wf_LP_39, rfl, rfl⟩
theorem wf_LP_46 : Cond.fieldLink R_LP 46 R_LP (F_LP 5).2.1 (F_LP 5).2.2.1 ∈ WA := wa_2 (List.mem_of_getElem? (i := 30) (by decide +kernel)) (by decide +kernel)
theorem fl_LP_46 : FL R_LP 46 0 5 := ⟨_, rfl, by decide, rfl, wf_LP_46⟩
theorem fi_LP_46 : FI R_LP 46 0 5 := ⟨_, rfl, by decide, rfl, wf_LP_46, rfl, rfl⟩
theorem wf_LP_56 : Cond.fieldLink R_LP 56 R_LP (F_LP 6).2.1 (F_LP 6).2.2.1 ∈ WA := wa_2 (List.mem_of_getElem? (i := 31) (by decide +kernel)) (by decide +kernel)
theorem fl_LP_56 : FL R_LP 56 0 6 := ⟨_, rfl, by decide, rfl, wf_LP_56⟩
theorem fw_LP_56 : FW R_LP 56 0 6 := ⟨_, rfl, by decide, rfl, wf_LP_56, rfl⟩
theorem wf_LP_67 : Cond.fieldLink R_LP 67 R_Srv (F_Srv 5).2.1 (F_Srv 5).2.2.1 ∈ WA := wa_1 (List.mem_of_getElem? (i := 102) (by decide +kernel)) (by decide +kernel)
theorem fl_LP_67 : FL R_LP 67 1 5 := ⟨_, rfl, by decide, rfl, wf_LP_67⟩
theorem fw_LP_67 : FW R_LP 67 1 5 := ⟨_, rfl, by decide, rfl, wf_LP_67, rfl⟩
theorem wf_LP_70 : Cond.fieldLink R_LP 70 R_Srv (F_Srv 6).2.1 (F_Srv 6).2.2.1 ∈ WA := wa_1 (List.mem_of_getElem? (i := 104) (by decide +kernel)) (by decide +kernel)
theorem fl_LP_70 : FL R_LP 70 1 6 := ⟨_, rfl, by decide, rfl, wf_LP_70⟩
theorem wf_LP_76 : Cond.fieldLink R_LP 76 R_Srv (F_Srv 12).2.1 (F_Srv 12).2.2.1 ∈ WA := wa_1 (List.mem_of_getElem? (i := 111) (by decide +kernel)) (by decide +kernel)
theorem fl_LP_76 : FL R_LP 76 1 12 := ⟨_, rfl, by decide, rfl, wf_LP_76⟩
theorem fw_LP_76 : FW R_LP 76 1 12 := ⟨_, rfl, by decide, rfl, wf_LP_76, rfl⟩
theorem wf_LP_86 : Cond.fieldLink R_LP 86 R_Srv (F_Srv 1).2.1 (F_Srv 1).2.2.1 ∈ WA := wa_1 (List.mem_of_getElem? (i := 97) (by decide +kernel)) (by decide +kernel)
theorem fl_LP_86 : FL R_LP 86 1 1 := ⟨_, rfl, by decide, rfl, wf_LP_86⟩
theorem wf_LP_108 : Cond.fieldLink R_LP 108 R_Msg (F_Msg 3).2.1 (F_Msg 3).2.2.1 ∈ WA := wa_1 (List.mem_of_getElem? (i := 183) (by decide +kernel)) (by decide +kernel)
theorem fl_LP_108 : FL R_LP 108 5 3 := ⟨_, rfl, by decide, rfl, wf_LP_108⟩
theorem fw_LP_108 : FW R_LP 108 5 3 := ⟨_, rfl, by decide, rfl, wf_LP_108, rfl⟩
theorem wf_LP_111 : Cond.fieldLink R_LP 111 R_Cli (F_Cli 0).2.1 (F_Cli 0).2.2.1 ∈ WA := wa_1 (List.mem_of_getElem? (i := 147) (by decide +kernel)) (by decide +kernel)
theorem fl_LP_111 : FL R_LP 111 3 0 := ⟨_, rfl, by decide, rfl, wf_LP_111⟩
theorem wf_LP_114 : Cond.fieldLink R_LP 114 R_Msg (F_Msg 5).2.1 (F_Msg 5).2.2.1 ∈ WA := wa_1 (List.mem_of_getElem? (i := 188) (by decide +kernel)) (by decide +kernel)
theorem fl_LP_114 : FL R_LP 114 5 5 := ⟨_, rfl, by decide, rfl, wf_LP_114⟩
theorem fw_LP_114 : FW R_LP 114 5 5 := ⟨_, rfl, by decide, rfl, wf_LP_114, rfl⟩
theorem wf_LP_117 : Cond.fieldLink R_LP 117 R_Msg (F_Msg 4).2.1 (F_Msg 4).2.2.1 ∈ WA := wa_1 (List.mem_of_getElem? (i := 186) (by decide +kernel)) (by decide +kernel)
theorem fl_LP_117 : FL R_LP 117 5 4 := ⟨_, rfl, by decide, rfl, wf_LP_117⟩
theorem fw_LP_117 : FW R_LP 117 5 4 := ⟨_, rfl, by decide, rfl, wf_LP_117, rfl⟩
theorem wf_LP_120 : Cond.fieldLink R_LP 120 R_Msg (F_Msg 6).2.1 (F_Msg 6).2.2.1 ∈ WA := wa_1 (List.mem_of_getElem? (i := 193) (by decide +kernel)) (by decide +kernel)
theorem fl_LP_120 : FL R_LP 120 5 6 := ⟨_, rfl, by decide, rfl, wf_LP_120⟩
theorem fw_LP_120 : FW R_LP 120 5 6 := ⟨_, rfl, by decide, rfl, wf_LP_120, rfl⟩
theorem wf_LP_164 : Cond.fieldLink R_LP 164 R_Net (F_Net 4).2.1 (F_Net 4).2.2.1 ∈ WA := wa_2 (List.mem_of_getElem? (i := 11) (by decide +kernel)) (by decide +kernel)
theorem fl_LP_164 : FL R_LP 164 4 4 := ⟨_, rfl, by decide, rfl, wf_LP_164⟩
theorem wf_LP_174 : Cond.fieldLink R_LP 174 R_Cli (F_Cli 2).2.1 (F_Cli 2).2.2.1 ∈ WA := wa_1 (List.mem_of_getElem? (i := 150) (by decide +kernel)) (by decide +kernel)
theorem fl_LP_174 : FL R_LP 174 3 2 := ⟨_, rfl, by decide, rfl, wf_LP_174⟩
theorem wf_LP_175 : Cond.fieldLink R_LP 175 R_Cli (F_Cli 3).2.1 (F_Cli 3).2.2.1 ∈ WA := wa_1 (List.mem_of_getElem? (i := 152) (by decide +kernel)) (by decide +kernel)
theorem fl_LP_175 : FL R_LP 175 3 3 := ⟨_, rfl, by decide, rfl, wf_LP_175⟩
theorem wf_LP_178 : Cond.fieldLink R_LP 178 R_Srv (F_Srv 4).2.1 (F_Srv 4).2.2.1 ∈ WA := wa_1 (List.mem_of_getElem? (i := 101) (by decide +kernel)) (by decide +kernel)
theorem fl_LP_178 : FL R_LP 178 1 4 := ⟨_, rfl, by decide, rfl, wf_LP_178⟩
theorem wf_LP_188 : Cond.fieldLink R_LP 188 R_LP (F_LP 7).2.1 (F_LP 7).2.2.1 ∈ WA := wa_2 (List.mem_of_getElem? (i := 32) (by decide +kernel)) (by decide +kernel)
theorem fl_LP_188 : FL R_LP 188 0 7 := ⟨_, rfl, by decide, rfl, wf_LP_188⟩
theorem fw_LP_188 : FW R_LP 188 0 7 := ⟨_, rfl, by decide, rfl, wf_LP_188, rfl⟩
theorem wf_LP_202 : Cond.fieldLink R_LP 202 R_Msg (F_Msg 0).2.1 (F_Msg 0).2.2.1 ∈ WA := wa_1 (List.mem_of_getElem? (i := 176) (by decide +kernel)) (by decide +kernel)
theorem fl_LP_202 : FL R_LP 202 5 0 := ⟨_, rfl, by decide, rfl, wf_LP_202⟩
theorem wf_LP_208 : Cond.fieldLink R_LP 208 R_Msg (F_Msg 2).2.1 (F_Msg 2).2.2.1 ∈ WA := wa_1 (List.mem_of_getElem? (i := 180) (by decide +kernel)) (by decide +kernel)
theorem fl_LP_208 : FL R_LP 208 5 2 := ⟨_, rfl, by decide, rfl, wf_LP_208⟩
theorem wf_Cli_9 : Cond.fieldLink R_Cli 9 R_Cli (F_Cli 2).2.1 (F_Cli 2).2.2.1 ∈ WA := wa_1 (List.mem_of_getElem? (i := 149) (by decide +kernel)) (by decide +kernel)
theorem fl_Cli_9 : FL R_Cli 9 3 2 := ⟨_, rfl, by decide, rfl, wf_Cli_9⟩
theorem fw_Cli_9 : FW R_Cli 9 3 2 := ⟨_, rfl, by decide, rfl, wf_Cli_9, rfl⟩
theorem wf_Cli_15 : Cond.fieldLink R_Cli 15 R_Cli (F_Cli 0).2.1 (F_Cli 0).2.2.1 ∈ WA := wa_1 (List.mem_of_getElem? (i := 146) (by decide +kernel)) (by decide +kernel)
theorem fl_Cli_15 : FL R_Cli 15 3 0 := ⟨_, rfl, by decide, rfl, wf_Cli_15⟩
theorem fw_Cli_15 : FW R_Cli 15 3 0 := ⟨_, rfl, by decide, rfl, wf_Cli_15, rfl⟩
theorem wf_Cli_18 : Cond.fieldLink R_Cli 18 R_Cli (F_Cli 1).2.1 (F_Cli 1).2.2.1 ∈ WA := wa_1 (List.mem_of_getElem? (i := 148) (by decide +kernel)) (by decide +kernel)
theorem fl_Cli_18 : FL R_Cli 18 3 1 := ⟨_, rfl, by decide, rfl, wf_Cli_18⟩
theorem fw_Cli_18 : FW R_Cli 18 3 1 := ⟨_, rfl, by decide, rfl, wf_Cli_18, rfl⟩
theorem wf_Cli_25 : Cond.fieldLink R_Cli 25 R_Cli (F_Cli 3).2.1 (F_Cli 3).2.2.1 ∈ WA := wa_1 (List.mem_of_getElem? (i := 151) (by decide +kernel)) (by decide +kernel)
theorem fl_Cli_25 : FL R_Cli 25 3 3 := ⟨_, rfl, by decide, rfl, wf_Cli_25⟩
theorem fw_Cli_25 : FW R_Cli 25 3 3 := ⟨_, rfl, by decide, rfl, wf_Cli_25, rfl⟩
theorem wf_Rec_9 : Cond.fieldLink R_Rec 9 R_Rec (F_Rec 0).2.1 (F_Rec 0).2.2.1 ∈ WA := wa_1 (List.mem_of_getElem? (i := 44) (by decide +kernel)) (by decide +kernel)
theorem fl_Rec_9 : FL R_Rec 9 2 0 := ⟨_, rfl, by decide, rfl, wf_Rec_9⟩
theorem fw_Rec_9 : FW R_Rec 9 2 0 := ⟨_, rfl, by decide, rfl, wf_Rec_9, rfl⟩
theorem wf_Rec_15 : Cond.fieldLink R_Rec 15 R_Rec (F_Rec 1).2.1 (F_Rec 1).2.2.1 ∈ WA := wa_1 (List.mem_of_getElem? (i := 46) (by decide +kernel)) (by decide +kernel)
theorem fl_Rec_15 : FL R_Rec 15 2 1 := ⟨_, rfl, by decide, rfl, wf_Rec_15⟩
theorem fw_Rec_15 : FW R_Rec 15 2 1 := ⟨_, rfl, by decide, rfl, wf_Rec_15, rfl⟩
theorem wf_Rec_18 : Cond.fieldLink R_Rec 18 R_Rec (F_Rec 5).2.1 (F_Rec 5).2.2.1 ∈ WA := wa_1 (List.mem_of_getElem? (i := 54) (by decide +kernel)) (by decide +kernel)
theorem fl_Rec_18 : FL R_Rec 18 2 5 := ⟨_, rfl, by decide, rfl, wf_Rec_18⟩
theorem fw_Rec_18 : FW R_Rec 18 2 5 := ⟨_, rfl, by decide, rfl, wf_Rec_18, rfl⟩
theorem wf_Rec_21 : Cond.fieldLink R_Rec 21 R_Rec (F_Rec 7).2.1 (F_Rec 7).2.2.1 ∈ WA := wa_1 (List.mem_of_getElem? (i := 57) (by decide +kernel)) (by decide +kernel)
theorem fl_Rec_21 : FL R_Rec 21 2 7 := ⟨_, rfl, by decide, rfl, wf_Rec_21⟩
theorem fw_Rec_21 : FW R_Rec 21 2 7 := ⟨_, rfl, by decide, rfl, wf_Rec_21, rfl⟩
theorem wf_Rec_28 : Cond.fieldLink R_Rec 28 R_Rec (F_Rec 2).2.1 (F_Rec 2).2.2.1 ∈ WA := wa_1 (List.mem_of_getElem? (i := 48) (by decide +kernel)) (by decide +kernel)
theorem fl_Rec_28 : FL R_Rec 28 2 2 := ⟨_, rfl, by decide, rfl, wf_Rec_28⟩
theorem fw_Rec_28 : FW R_Rec 28 2 2 := ⟨_, rfl, by decide, rfl, wf_Rec_28, rfl⟩
theorem wf_Rec_31 : Cond.fieldLink R_Rec 31 R_Rec (F_Rec 3).2.1 (F_Rec 3).2.2.1 ∈ WA := wa_1 (List.mem_of_getElem? (i := 50) (by decide +kernel)) (by decide +kernel)
theorem fl_Rec_31 : FL R_Rec 31 2 3 := ⟨_, rfl, by decide, rfl, wf_Rec_31⟩
theorem fw_Rec_31 : FW R_Rec 31 2 3 := ⟨_, rfl, by decide, rfl, wf_Rec_31, rfl⟩
theorem wf_Rec_34 : Cond.fieldLink R_Rec 34 R_Rec (F_Rec 4).2.1 (F_Rec 4).2.2.1 ∈ WA := wa_1 (List.mem_of_getElem? (i := 52) (by decide +kernel)) (by decide +kernel)
theorem fl_Rec_34 : FL R_Rec 34 2 4 := ⟨_, rfl, by decide, rfl, wf_Rec_34⟩
theorem fw_Rec_34 : FW R_Rec 34 2 4 := ⟨_, rfl, by decide, rfl, wf_Rec_34, rfl⟩
theorem wf_Rec_37 : Cond.fieldLink R_Rec 37 R_Rec (F_Rec 6).2.1 (F_Rec 6).2.2.1 ∈ WA := wa_1 (List.mem_of_getElem? (i := 56) (by decide +kernel)) (by decide +kernel)
theorem fl_Rec_37 : FL R_Rec 37 2 6 := ⟨_, rfl, by decide, rfl, wf_Rec_37⟩
theorem fw_Rec_37 : FW R_Rec 37 2 6 := ⟨_, rfl, by decide, rfl, wf_Rec_37, rfl⟩
theorem wf_Rec_40 : Cond.fieldLink R_Rec 40 R_Rec (F_Rec 8).2.1 (F_Rec 8).2.2.1 ∈ WA := wa_1 (List.mem_of_getElem? (i := 59) (by decide +kernel)) (by decide +kernel)
theorem fl_Rec_40 : FL R_Rec 40 2 8 := ⟨_, rfl, by decide, rfl, wf_Rec_40⟩
theorem fw_Rec_40 : FW R_Rec 40 2 8 := ⟨_, rfl, by decide, rfl, wf_Rec_40, rfl⟩
theorem wf_Rec_43 : Cond.fieldLink R_Rec 43 R_Msg (F_Msg 9).2.1 (F_Msg 9).2.2.1 ∈ WA := wa_1 (List.mem_of_getElem? (i := 200) (by decide +kernel)) (by decide +kernel)
theorem fl_Rec_43 : FL R_Rec 43 5 9 := ⟨_, rfl, by decide, rfl, wf_Rec_43⟩
theorem wf_Rec_46 : Cond.fieldLink R_Rec 46 R_Msg (F_Msg 6).2.1 (F_Msg 6).2.2.1 ∈ WA := wa_1 (List.mem_of_getElem? (i := 192) (by decide +kernel)) (by decide +kernel)
theorem fl_Rec_46 : FL R_Rec 46 5 6 := ⟨_, rfl, by decide, rfl, wf_Rec_46⟩
theorem wf_Rec_49 : Cond.fieldLink R_Rec 49 R_Msg (F_Msg 10).2.1 (F_Msg 10).2.2.1 ∈ WA := wa_1 (List.mem_of_getElem? (i := 203) (by decide +kernel)) (by decide +kernel)
theorem fl_Rec_49 : FL R_Rec 49 5 10 := ⟨_, rfl, by decide, rfl, wf_Rec_49⟩
theorem wf_Rec_71 : Cond.fieldLink R_Rec 71 R_Msg (F_Msg 11).2.1 (F_Msg 11).2.2.1 ∈ WA := wa_1 (List.mem_of_getElem? (i := 206) (by decide +kernel)) (by decide +kernel)
theorem fl_Rec_71 : FL R_Rec 71 5 11 := ⟨_, rfl, by decide, rfl, wf_Rec_71⟩
theorem wf_Rec_72 : Cond.fieldLink R_Rec 72 R_Msg (F_Msg 5).2.1 (F_Msg 5).2.2.1 ∈ WA := wa_1 (List.mem_of_getElem? (i := 189) (by decide +kernel)) (by decide +kernel)
theorem fl_Rec_72 : FL R_Rec 72 5 5 := ⟨_, rfl, by decide, rfl, wf_Rec_72⟩
theorem wf_Rec_75 : Cond.fieldLink R_Rec 75 R_Rec (F_Rec 9).2.1 (F_Rec 9).2.2.1 ∈ WA := wa_1 (List.mem_of_getElem? (i := 61) (by decide +kernel)) (by decide +kernel)
theorem fl_Rec_75 : FL R_Rec 75 2 9 := ⟨_, rfl, by decide, rfl, wf_Rec_75⟩
theorem fw_Rec_75 : FW R_Rec 75 2 9 := ⟨_, rfl, by decide, rfl, wf_Rec_75, rfl⟩
theorem wf_Rec_78 : Cond.fieldLink R_Rec 78 R_Msg (F_Msg 14).2.1 (F_Msg 14).2.2.1 ∈ WA := wa_1 (List.mem_of_getElem? (i := 213) (by decide +kernel)) (by decide +kernel)
theorem fl_Rec_78 : FL R_Rec 78 5 14 := ⟨_, rfl, by decide, rfl, wf_Rec_78⟩
theorem wf_Rec_81 : Cond.fieldLink R_Rec 81 R_Rec (F_Rec 10).2.1 (F_Rec 10).2.2.1 ∈ WA := wa_1 (List.mem_of_getElem? (i := 63) (by decide +kernel)) (by decide +kernel)
theorem fl_Rec_81 : FL R_Rec 81 2 10 := ⟨_, rfl, by decide, rfl, wf_Rec_81⟩
theorem wf_Rec_84 : Cond.fieldLink R_Rec 84 R_Rec (F_Rec 11).2.1 (F_Rec 11).2.2.1 ∈ WA := wa_1 (List.mem_of_getElem? (i := 66) (by decide +kernel)) (by decide +kernel)
theorem fl_Rec_84 : FL R_Rec 84 2 11 := ⟨_, rfl, by decide, rfl, wf_Rec_84⟩
theorem wf_Msg_9 : Cond.fieldLink R_Msg 9 R_Msg (F_Msg 0).2.1 (F_Msg 0).2.2.1 ∈ WA := wa_1 (List.mem_of_getElem? (i := 175) (by decide +kernel)) (by decide +kernel)
theorem fl_Msg_9 : FL R_Msg 9 5 0 := ⟨_, rfl, by decide, rfl, wf_Msg_9⟩
theorem fw_Msg_9 : FW R_Msg 9 5 0 := ⟨_, rfl, by decide, rfl, wf_Msg_9, rfl⟩
theorem wf_Msg_15 : Cond.fieldLink R_Msg 15 R_Msg (F_Msg 1).2.1 (F_Msg 1).2.2.1 ∈ WA := wa_1 (List.mem_of_getElem? (i := 177) (by decide +kernel)) (by decide +kernel)
theorem fl_Msg_15 : FL R_Msg 15 5 1 := ⟨_, rfl, by decide, rfl, wf_Msg_15⟩
theorem fw_Msg_15 : FW R_Msg 15 5 1 := ⟨_, rfl, by decide, rfl, wf_Msg_15, rfl⟩
theorem wf_Msg_18 : Cond.fieldLink R_Msg 18 R_Msg (F_Msg 2).2.1 (F_Msg 2).2.2.1 ∈ WA := wa_1 (List.mem_of_getElem? (i := 179) (by decide +kernel)) (by decide +kernel)
theorem fl_Msg_18 : FL R_Msg 18 5 2 := ⟨_, rfl, by decide, rfl, wf_Msg_18⟩
theorem fw_Msg_18 : FW R_Msg 18 5 2 := ⟨_, rfl, by decide, rfl, wf_Msg_18, rfl⟩
theorem wf_Msg_21 : Cond.fieldLink R_Msg 21 R_Msg (F_Msg 3).2.1 (F_Msg 3).2.2.1 ∈ WA := wa_1 (List.mem_of_getElem? (i := 181) (by decide +kernel)) (by decide +kernel)
theorem fl_Msg_21 : FL R_Msg 21 5 3 := ⟨_, rfl, by decide, rfl, wf_Msg_21⟩
theorem fw_Msg_21 : FW R_Msg 21 5 3 := ⟨_, rfl, by decide, rfl, wf_Msg_21, rfl⟩
theorem wf_Msg_24 : Cond.fieldLink R_Msg 24 R_Msg (F_Msg 4).2.1 (F_Msg 4).2.2.1 ∈ WA := wa_1 (List.mem_of_getElem? (i := 184) (by decide +kernel)) (by decide +kernel)
theorem fl_Msg_24 : FL R_Msg 24 5 4 := ⟨_, rfl, by decide, rfl, wf_Msg_24⟩
theorem fw_Msg_24 : FW R_Msg 24 5 4 := ⟨_, rfl, by decide, rfl, wf_Msg_24, rfl⟩
theorem wf_Msg_27 : Cond.fieldLink R_Msg 27 R_Msg (F_Msg 6).2.1 (F_Msg 6).2.2.1 ∈ WA := wa_1 (List.mem_of_getElem? (i := 191) (by decide +kernel)) (by decide +kernel)
theorem fl_Msg_27 : FL R_Msg 27 5 6 := ⟨_, rfl, by decide, rfl, wf_Msg_27⟩
theorem fw_Msg_27 : FW R_Msg 27 5 6 := ⟨_, rfl, by decide, rfl, wf_Msg_27, rfl⟩
theorem wf_Msg_30 : Cond.fieldLink R_Msg 30 R_Msg (F_Msg 5).2.1 (F_Msg 5).2.2.1 ∈ WA := wa_1 (List.mem_of_getElem? (i := 187) (by decide +kernel)) (by decide +kernel)
theorem fl_Msg_30 : FL R_Msg 30 5 5 := ⟨_, rfl, by decide, rfl, wf_Msg_30⟩
theorem fw_Msg_30 : FW R_Msg 30 5 5 := ⟨_, rfl, by decide, rfl, wf_Msg_30, rfl⟩
theorem wf_Msg_33 : Cond.fieldLink R_Msg 33 R_Msg (F_Msg 7).2.1 (F_Msg 7).2.2.1 ∈ WA := wa_1 (List.mem_of_getElem? (i := 195) (by decide +kernel)) (by decide +kernel)
theorem fl_Msg_33 : FL R_Msg 33 5 7 := ⟨_, rfl, by decide, rfl, wf_Msg_33⟩
theorem fw_Msg_33 : FW R_Msg 33 5 7 := ⟨_, rfl, by decide, rfl, wf_Msg_33, rfl⟩
theorem wf_Msg_36 : Cond.fieldLink R_Msg 36 R_Msg (F_Msg 8).2.1 (F_Msg 8).2.2.1 ∈ WA := wa_1 (List.mem_of_getElem? (i := 197) (by decide +kernel)) (by decide +kernel)
theorem fl_Msg_36 : FL R_Msg 36 5 8 := ⟨_, rfl, by decide, rfl, wf_Msg_36⟩
theorem fw_Msg_36 : FW R_Msg 36 5 8 := ⟨_, rfl, by decide, rfl, wf_Msg_36, rfl⟩
theorem wf_Msg_39 : Cond.fieldLink R_Msg 39 R_Msg (F_Msg 9).2.1 (F_Msg 9).2.2.1 ∈ WA := wa_1 (List.mem_of_getElem? (i := 199) (by decide +kernel)) (by decide +kernel)
theorem fl_Msg_39 : FL R_Msg 39 5 9 := ⟨_, rfl, by decide, rfl, wf_Msg_39⟩
theorem fw_Msg_39 : FW R_Msg 39 5 9 := ⟨_, rfl, by decide, rfl, wf_Msg_39, rfl⟩
theorem wf_Msg_42 : Cond.fieldLink R_Msg 42 R_Msg (F_Msg 10).2.1 (F_Msg 10).2.2.1 ∈ WA := wa_1 (List.mem_of_getElem? (i := 202) (by decide +kernel)) (by decide +kernel)
theorem fl_Msg_42 : FL R_Msg 42 5 10 := ⟨_, rfl, by decide, rfl, wf_Msg_42⟩
theorem fw_Msg_42 : FW R_Msg 42 5 10 := ⟨_, rfl, by decide, rfl, wf_Msg_42, rfl⟩
theorem wf_Msg_45 : Cond.fieldLink R_Msg 45 R_Msg (F_Msg 11).2.1 (F_Msg 11).2.2.1 ∈ WA := wa_1 (List.mem_of_getElem? (i := 205) (by decide +kernel)) (by decide +kernel)
theorem fl_Msg_45 : FL R_Msg 45 5 11 := ⟨_, rfl, by decide, rfl, wf_Msg_45⟩
theorem fw_Msg_45 : FW R_Msg 45 5 11 := ⟨_, rfl, by decide, rfl, wf_Msg_45, rfl⟩
theorem wf_Msg_49 : Cond.fieldLink R_Msg 49 R_Msg (F_Msg 12).2.1 (F_Msg 12).2.2.1 ∈ WA := wa_1 (List.mem_of_getElem? (i := 208) (by decide +kernel)) (by decide +kernel)
theorem fl_Msg_49 : FL R_Msg 49 5 12 := ⟨_, rfl, by decide, rfl, wf_Msg_49⟩
theorem fw_Msg_49 : FW R_Msg 49 5 12 := ⟨_, rfl, by decide, rfl, wf_Msg_49, rfl⟩
theorem wf_Msg_52 : Cond.fieldLink R_Msg 52 R_Msg (F_Msg 13).2.1 (F_Msg 13).2.2.1 ∈ WA := wa_1 (List.mem_of_getElem? (i := 210) (by decide +kernel)) (by decide +kernel)
theorem fl_Msg_52 : FL R_Msg 52 5 13 := ⟨_, rfl, by decide, rfl, wf_Msg_52⟩
theorem fw_Msg_52 : FW R_Msg 52 5 13 := ⟨_, rfl, by decide, rfl, wf_Msg_52, rfl⟩
theorem wf_Msg_55 : Cond.fieldLink R_Msg 55 R_Msg (F_Msg 14).2.1 (F_Msg 14).2.2.1 ∈ WA := wa_1 (List.mem_of_getElem? (i := 212) (by decide +kernel)) (by decide +kernel)
theorem fl_Msg_55 : FL R_Msg 55 5 14 := ⟨_, rfl, by decide, rfl, wf_Msg_55⟩
theorem fw_Msg_55 : FW R_Msg 55 5 14 := ⟨_, rfl, by decide, rfl, wf_Msg_55, rfl⟩
theorem wf_Net_11 : Cond.fieldLink R_Net 11 R_Net (F_Net 0).2.1 (F_Net 0).2.2.1 ∈ WA := wa_2 (List.mem_of_getElem? (i := 6) (by decide +kernel)) (by decide +kernel)
theorem fl_Net_11 : FL R_Net 11 4 0 := ⟨_, rfl, by decide, rfl, wf_Net_11⟩
theorem fw_Net_11 : FW R_Net 11 4 0 := ⟨_, rfl, by decide, rfl, wf_Net_11, rfl⟩
theorem wf_Net_17 : Cond.fieldLink R_Net 17 R_Net (F_Net 1).2.1 (F_Net 1).2.2.1 ∈ WA := wa_2 (List.mem_of_getElem? (i := 7) (by decide +kernel)) (by decide +kernel)
theorem fl_Net_17 : FL R_Net 17 4 1 := ⟨_, rfl, by decide, rfl, wf_Net_17⟩
theorem fw_Net_17 : FW R_Net 17 4 1 := ⟨_, rfl, by decide, rfl, wf_Net_17, rfl⟩
theorem wf_Net_21 : Cond.fieldLink R_Net 21 R_Net (F_Net 4).2.1 (F_Net 4).2.2.1 ∈ WA := wa_2 (List.mem_of_getElem? (i := 10) (by decide +kernel)) (by decide +kernel)
theorem fl_Net_21 : FL R_Net 21 4 4 := ⟨_, rfl, by decide, rfl, wf_Net_21⟩
theorem fw_Net_21 : FW R_Net 21 4 4 := ⟨_, rfl, by decide, rfl, wf_Net_21, rfl⟩
theorem wf_Net_29 : Cond.fieldLink R_Net 29 R_Net (F_Net 2).2.1 (F_Net 2).2.2.1 ∈ WA := wa_2 (List.mem_of_getElem? (i := 8) (by decide +kernel)) (by decide +kernel)
theorem fl_Net_29 : FL R_Net 29 4 2 := ⟨_, rfl, by decide, rfl, wf_Net_29⟩
theorem fw_Net_29 : FW R_Net 29 4 2 := ⟨_, rfl, by decide, rfl, wf_Net_29, rfl⟩
theorem wf_Net_32 : Cond.fieldLink R_Net 32 R_Net (F_Net 3).2.1 (F_Net 3).2.2.1 ∈ WA := wa_2 (List.mem_of_getElem? (i := 9) (by decide +kernel)) (by decide +kernel)
theorem fl_Net_32 : FL R_Net 32 4 3 := ⟨_, rfl, by decide, rfl, wf_Net_32⟩
theorem fw_Net_32 : FW R_Net 32 4 3 := ⟨_, rfl, by decide, rfl, wf_Net_32, rfl⟩
theorem wf_Srv_9 : Cond.fieldLink R_Srv 9 R_Srv (F_Srv 0).2.1 (F_Srv 0).2.2.1 ∈ WA := wa_1 (List.mem_of_getElem? (i := 95) (by decide +kernel)) (by decide +kernel)
theorem fl_Srv_9 : FL R_Srv 9 1 0 := ⟨_, rfl, by decide, rfl, wf_Srv_9⟩
theorem fi_Srv_9 : FI R_Srv 9 1 0 := ⟨_, rfl, by decide, rfl, wf_Srv_9, rfl, rfl⟩
theorem wf_Srv_15 : Cond.fieldLink R_Srv 15 R_Srv (F_Srv 1).2.1 (F_Srv 1).2.2.1 ∈ WA := wa_1 (List.mem_of_getElem? (i := 96) (by decide +kernel)) (by decide +kernel)
theorem fl_Srv_15 : FL R_Srv 15 1 1 := ⟨_, rfl, by decide, rfl, wf_Srv_15⟩
theorem fi_Srv_15 : FI R_Srv 15 1 1 := ⟨_, rfl, by decide, rfl, wf_Srv_15, rfl, rfl⟩
theorem wf_Srv_18 : Cond.fieldLink R_Srv 18 R_Srv (F_Srv 2).2.1 (F_Srv 2).2.2.1 ∈ WA := wa_1 (List.mem_of_getElem? (i := 98) (by decide +kernel)) (by decide +kernel)
theorem fl_Srv_18 : FL R_Srv 18 1 2 := ⟨_, rfl, by decide, rfl, wf_Srv_18⟩
theorem fi_Srv_18 : FI R_Srv 18 1 2 := ⟨_, rfl, by decide, rfl, wf_Srv_18, rfl, rfl⟩
theorem wf_Srv_21 : Cond.fieldLink R_Srv 21 R_Srv (F_Srv 3).2.1 (F_Srv 3).2.2.1 ∈ WA := wa_1 (List.mem_of_getElem? (i := 99) (by decide +kernel)) (by decide +kernel)
theorem fl_Srv_21 : FL R_Srv 21 1 3 := ⟨_, rfl, by decide, rfl, wf_Srv_21⟩
theorem fi_Srv_21 : FI R_Srv 21 1 3 := ⟨_, rfl, by decide, rfl, wf_Srv_21, rfl, rfl⟩
theorem wf_Srv_26 : Cond.fieldLink R_Srv 26 R_Srv (F_Srv 4).2.1 (F_Srv 4).2.2.1 ∈ WA := wa_1 (List.mem_of_getElem? (i := 100) (by decide +kernel)) (by decide +kernel)
theorem fl_Srv_26 : FL R_Srv 26 1 4 := ⟨_, rfl, by decide, rfl, wf_Srv_26⟩
theorem fi_Srv_26 : FI R_Srv 26 1 4 := ⟨_, rfl, by decide, rfl, wf_Srv_26, rfl, rfl⟩
theorem wf_Srv_33 : Cond.fieldLink R_Srv 33 R_Srv (F_Srv 6).2.1 (F_Srv 6).2.2.1 ∈ WA := wa_1 (List.mem_of_getElem? (i := 103) (by decide +kernel)) (by decide +kernel)
theorem fl_Srv_33 : FL R_Srv 33 1 6 := ⟨_, rfl, by decide, rfl, wf_Srv_33⟩
theorem fw_Srv_33 : FW R_Srv 33 1 6 := ⟨_, rfl, by decide, rfl, wf_Srv_33, rfl⟩
theorem wf_Srv_36 : Cond.fieldLink R_Srv 36 R_Srv (F_Srv 7).2.1 (F_Srv 7).2.2.1 ∈ WA := wa_1 (List.mem_of_getElem? (i := 105) (by decide +kernel)) (by decide +kernel)
theorem fl_Srv_36 : FL R_Srv 36 1 7 := ⟨_, rfl, by decide, rfl, wf_Srv_36⟩
theorem fw_Srv_36 : FW R_Srv 36 1 7 := ⟨_, rfl, by decide, rfl, wf_Srv_36, rfl⟩
theorem wf_Srv_39 : Cond.fieldLink R_Srv 39 R_Srv (F_Srv 8).2.1 (F_Srv 8).2.2.1 ∈ WA := wa_1 (List.mem_of_getElem? (i := 106) (by decide +kernel)) (by decide +kernel)
theorem fl_Srv_39 : FL R_Srv 39 1 8 := ⟨_, rfl, by decide, rfl, wf_Srv_39⟩
theorem fw_Srv_39 : FW R_Srv 39 1 8 := ⟨_, rfl, by decide, rfl, wf_Srv_39, rfl⟩
theorem wf_Srv_42 : Cond.fieldLink R_Srv 42 R_Srv (F_Srv 9).2.1 (F_Srv 9).2.2.1 ∈ WA := wa_1 (List.mem_of_getElem? (i := 107) (by decide +kernel)) (by decide +kernel)
theorem fl_Srv_42 : FL R_Srv 42 1 9 := ⟨_, rfl, by decide, rfl, wf_Srv_42⟩
theorem fw_Srv_42 : FW R_Srv 42 1 9 := ⟨_, rfl, by decide, rfl, wf_Srv_42, rfl⟩
theorem wf_Srv_49 : Cond.fieldLink R_Srv 49 R_Srv (F_Srv 12).2.1 (F_Srv 12).2.2.1 ∈ WA := wa_1 (List.mem_of_getElem? (i := 110) (by decide +kernel)) (by decide +kernel)
theorem fl_Srv_49 : FL R_Srv 49 1 12 := ⟨_, rfl, by decide, rfl, wf_Srv_49⟩
theorem fw_Srv_49 : FW R_Srv 49 1 12 := ⟨_, rfl, by decide, rfl, wf_Srv_49, rfl⟩
theorem wf_Srv_52 : Cond.fieldLink R_Srv 52 R_Srv (F_Srv 11).2.1 (F_Srv 11).2.2.1 ∈ WA := wa_1 (List.mem_of_getElem? (i := 109) (by decide +kernel)) (by decide +kernel)
theorem fl_Srv_52 : FL R_Srv 52 1 11 := ⟨_, rfl, by decide, rfl, wf_Srv_52⟩
theorem fw_Srv_52 : FW R_Srv 52 1 11 := ⟨_, rfl, by decide, rfl, wf_Srv_52, rfl⟩
theorem wf_Srv_58 : Cond.fieldLink R_Srv 58 R_Rec (F_Rec 12).2.1 (F_Rec 12).2.2.1 ∈ WA := wa_1 (List.mem_of_getElem? (i := 67) (by decide +kernel)) (by decide +kernel)
theorem fl_Srv_58 : FL R_Srv 58 2 12 := ⟨_, rfl, by decide, rfl, wf_Srv_58⟩
theorem fw_Srv_58 : FW R_Srv 58 2 12 := ⟨_, rfl, by decide, rfl, wf_Srv_58, rfl⟩
theorem wf_Srv_62 : Cond.fieldLink R_Srv 62 R_Rec (F_Rec 11).2.1 (F_Rec 11).2.2.1 ∈ WA := wa_1 (List.mem_of_getElem? (i := 65) (by decide +kernel)) (by decide +kernel)
theorem fl_Srv_62 : FL R_Srv 62 2 11 := ⟨_, rfl, by decide, rfl, wf_Srv_62⟩
theorem fw_Srv_62 : FW R_Srv 62 2 11 := ⟨_, rfl, by decide, rfl, wf_Srv_62, rfl⟩
theorem wf_Srv_68 : Cond.fieldLink R_Srv 68 R_Srv (F_Srv 10).2.1 (F_Srv 10).2.2.1 ∈ WA := wa_1 (List.mem_of_getElem? (i := 108) (by decide +kernel)) (by decide +kernel)
theorem fl_Srv_68 : FL R_Srv 68 1 10 := ⟨_, rfl, by decide, rfl, wf_Srv_68⟩
theorem fw_Srv_68 : FW R_Srv 68 1 10 := ⟨_, rfl, by decide, rfl, wf_Srv_68, rfl⟩
theorem wf_Srv_71 : Cond.fieldLink R_Srv 71 R_Rec (F_Rec 0).2.1 (F_Rec 0).2.2.1 ∈ WA := wa_1 (List.mem_of_getElem? (i := 45) (by decide +kernel)) (by decide +kernel)
theorem fl_Srv_71 : FL R_Srv 71 2 0 := ⟨_, rfl, by decide, rfl, wf_Srv_71⟩
theorem wf_Srv_74 : Cond.fieldLink R_Srv 74 R_Msg (F_Msg 3).2.1 (F_Msg 3).2.2.1 ∈ WA := wa_1 (List.mem_of_getElem? (i := 182) (by decide +kernel)) (by decide +kernel)
theorem fl_Srv_74 : FL R_Srv 74 5 3 := ⟨_, rfl, by decide, rfl, wf_Srv_74⟩
theorem fw_Srv_74 : FW R_Srv 74 5 3 := ⟨_, rfl, by decide, rfl, wf_Srv_74, rfl⟩
theorem wf_Srv_81 : Cond.fieldLink R_Srv 81 R_Msg (F_Msg 4).2.1 (F_Msg 4).2.2.1 ∈ WA := wa_1 (List.mem_of_getElem? (i := 185) (by decide +kernel)) (by decide +kernel)
theorem fl_Srv_81 : FL R_Srv 81 5 4 := ⟨_, rfl, by decide, rfl, wf_Srv_81⟩
theorem fw_Srv_81 : FW R_Srv 81 5 4 := ⟨_, rfl, by decide, rfl, wf_Srv_81, rfl⟩
theorem wf_Srv_84 : Cond.fieldLink R_Srv 84 R_Msg (F_Msg 1).2.1 (F_Msg 1).2.2.1 ∈ WA := wa_1 (List.mem_of_getElem? (i := 178) (by decide +kernel)) (by decide +kernel)
theorem fl_Srv_84 : FL R_Srv 84 5 1 := ⟨_, rfl, by decide, rfl, wf_Srv_84⟩
theorem wf_Srv_107 : Cond.fieldLink R_Srv 107 R_Rec (F_Rec 2).2.1 (F_Rec 2).2.2.1 ∈ WA := wa_1 (List.mem_of_getElem? (i := 49) (by decide +kernel)) (by decide +kernel)
theorem fl_Srv_107 : FL R_Srv 107 2 2 := ⟨_, rfl, by decide, rfl, wf_Srv_107⟩
theorem fw_Srv_107 : FW R_Srv 107 2 2 := ⟨_, rfl, by decide, rfl, wf_Srv_107, rfl⟩
theorem wf_Srv_114 : Cond.fieldLink R_Srv 114 R_Msg (F_Msg 6).2.1 (F_Msg 6).2.2.1 ∈ WA := wa_1 (List.mem_of_getElem? (i := 194) (by decide +kernel)) (by decide +kernel)
theorem fl_Srv_114 : FL R_Srv 114 5 6 := ⟨_, rfl, by decide, rfl, wf_Srv_114⟩
theorem fw_Srv_114 : FW R_Srv 114 5 6 := ⟨_, rfl, by decide, rfl, wf_Srv_114, rfl⟩
theorem wf_Srv_125 : Cond.fieldLink R_Srv 125 R_Msg (F_Msg 5).2.1 (F_Msg 5).2.2.1 ∈ WA := wa_1 (List.mem_of_getElem? (i := 190) (by decide +kernel)) (by decide +kernel)
theorem fl_Srv_125 : FL R_Srv 125 5 5 := ⟨_, rfl, by decide, rfl, wf_Srv_125⟩
theorem fw_Srv_125 : FW R_Srv 125 5 5 := ⟨_, rfl, by decide, rfl, wf_Srv_125, rfl⟩
theorem wf_Srv_126 : Cond.fieldLink R_Srv 126 R_Rec (F_Rec 5).2.1 (F_Rec 5).2.2.1 ∈ WA := wa_1 (List.mem_of_getElem? (i := 55) (by decide +kernel)) (by decide +kernel)
theorem fl_Srv_126 : FL R_Srv 126 2 5 := ⟨_, rfl, by decide, rfl, wf_Srv_126⟩
theorem wf_Srv_133 : Cond.fieldLink R_Srv 133 R_Rec (F_Rec 3).2.1 (F_Rec 3).2.2.1 ∈ WA := wa_1 (List.mem_of_getElem? (i := 51) (by decide +kernel)) (by decide +kernel)
theorem fl_Srv_133 : FL R_Srv 133 2 3 := ⟨_, rfl, by decide, rfl, wf_Srv_133⟩
theorem fw_Srv_133 : FW R_Srv 133 2 3 := ⟨_, rfl, by decide, rfl, wf_Srv_133, rfl⟩
theorem wf_Srv_136 : Cond.fieldLink R_Srv 136 R_Rec (F_Rec 8).2.1 (F_Rec 8).2.2.1 ∈ WA := wa_1 (List.mem_of_getElem? (i := 60) (by decide +kernel)) (by decide +kernel)
theorem fl_Srv_136 : FL R_Srv 136 2 8 := ⟨_, rfl, by decide, rfl, wf_Srv_136⟩
theorem wf_Srv_148 : Cond.fieldLink R_Srv 148 R_Rec (F_Rec 4).2.1 (F_Rec 4).2.2.1 ∈ WA := wa_1 (List.mem_of_getElem? (i := 53) (by decide +kernel)) (by decide +kernel)
theorem fl_Srv_148 : FL R_Srv 148 2 4 := ⟨_, rfl, by decide, rfl, wf_Srv_148⟩
theorem fw_Srv_148 : FW R_Srv 148 2 4 := ⟨_, rfl, by decide, rfl, wf_Srv_148, rfl⟩
theorem wf_Srv_161 : Cond.fieldLink R_Srv 161 R_Msg (F_Msg 7).2.1 (F_Msg 7).2.2.1 ∈ WA := wa_1 (List.mem_of_getElem? (i := 196) (by decide +kernel)) (by decide +kernel)
theorem fl_Srv_161 : FL R_Srv 161 5 7 := ⟨_, rfl, by decide, rfl, wf_Srv_161⟩
theorem fw_Srv_161 : FW R_Srv 161 5 7 := ⟨_, rfl, by decide, rfl, wf_Srv_161, rfl⟩
theorem wf_Srv_162 : Cond.fieldLink R_Srv 162 R_Rec (F_Rec 10).2.1 (F_Rec 10).2.2.1 ∈ WA := wa_1 (List.mem_of_getElem? (i := 64) (by decide +kernel)) (by decide +kernel)
theorem fl_Srv_162 : FL R_Srv 162 2 10 := ⟨_, rfl, by decide, rfl, wf_Srv_162⟩
theorem fw_Srv_162 : FW R_Srv 162 2 10 := ⟨_, rfl, by decide, rfl, wf_Srv_162, rfl⟩
theorem wf_Srv_165 : Cond.fieldLink R_Srv 165 R_Msg (F_Msg 8).2.1 (F_Msg 8).2.2.1 ∈ WA := wa_1 (List.mem_of_getElem? (i := 198) (by decide +kernel)) (by decide +kernel)
theorem fl_Srv_165 : FL R_Srv 165 5 8 := ⟨_, rfl, by decide, rfl, wf_Srv_165⟩
theorem fw_Srv_165 : FW R_Srv 165 5 8 := ⟨_, rfl, by decide, rfl, wf_Srv_165, rfl⟩
theorem wf_Srv_166 : Cond.fieldLink R_Srv 166 R_Rec (F_Rec 9).2.1 (F_Rec 9).2.2.1 ∈ WA := wa_1 (List.mem_of_getElem? (i := 62) (by decide +kernel)) (by decide +kernel)
theorem fl_Srv_166 : FL R_Srv 166 2 9 := ⟨_, rfl, by decide, rfl, wf_Srv_166⟩
theorem fw_Srv_166 : FW R_Srv 166 2 9 := ⟨_, rfl, by decide, rfl, wf_Srv_166, rfl⟩
theorem wf_Srv_195 : Cond.fieldLink R_Srv 195 R_Msg (F_Msg 13).2.1 (F_Msg 13).2.2.1 ∈ WA := wa_1 (List.mem_of_getElem? (i := 211) (by decide +kernel)) (by decide +kernel)
theorem fl_Srv_195 : FL R_Srv 195 5 13 := ⟨_, rfl, by decide, rfl, wf_Srv_195⟩
theorem fw_Srv_195 : FW R_Srv 195 5 13 := ⟨_, rfl, by decide, rfl, wf_Srv_195, rfl⟩
theorem wf_Srv_196 : Cond.fieldLink R_Srv 196 R_Msg (F_Msg 12).2.1 (F_Msg 12).2.2.1 ∈ WA := wa_1 (List.mem_of_getElem? (i := 209) (by decide +kernel)) (by decide +kernel)
theorem fl_Srv_196 : FL R_Srv 196 5 12 := ⟨_, rfl, by decide, rfl, wf_Srv_196⟩
theorem fw_Srv_196 : FW R_Srv 196 5 12 := ⟨_, rfl, by decide, rfl, wf_Srv_196, rfl⟩
theorem wf_Srv_203 : Cond.fieldLink R_Srv 203 R_Msg (F_Msg 14).2.1 (F_Msg 14).2.2.1 ∈ WA := wa_1 (List.mem_of_getElem? (i := 214) (by decide +kernel)) (by decide +kernel)
theorem fl_Srv_203 : FL R_Srv 203 5 14 := ⟨_, rfl, by decide, rfl, wf_Srv_203⟩
theorem fw_Srv_203 : FW R_Srv 203 5 14 := ⟨_, rfl, by decide, rfl, wf_Srv_203, rfl⟩
theorem wf_Srv_212 : Cond.fieldLink R_Srv 212 R_Rec (F_Rec 1).2.1 (F_Rec 1).2.2.1 ∈ WA := wa_1 (List.mem_of_getElem? (i := 47) (by decide +kernel)) (by decide +kernel)
theorem fl_Srv_212 : FL R_Srv 212 2 1 := ⟨_, rfl, by decide, rfl, wf_Srv_212⟩
theorem wf_Srv_215 : Cond.fieldLink R_Srv 215 R_Msg (F_Msg 9).2.1 (F_Msg 9).2.2.1 ∈ WA := wa_1 (List.mem_of_getElem? (i := 201) (by decide +kernel)) (by decide +kernel)
theorem fl_Srv_215 : FL R_Srv 215 5 9 := ⟨_, rfl, by decide, rfl, wf_Srv_215⟩
theorem fw_Srv_215 : FW R_Srv 215 5 9 := ⟨_, rfl, by decide, rfl, wf_Srv_215, rfl⟩
theorem wf_Srv_216 : Cond.fieldLink R_Srv 216 R_Msg (F_Msg 10).2.1 (F_Msg 10).2.2.1 ∈ WA := wa_1 (List.mem_of_getElem? (i := 204) (by decide +kernel)) (by decide +kernel)
theorem fl_Srv_216 : FL R_Srv 216 5 10 := ⟨_, rfl, by decide, rfl, wf_Srv_216⟩
theorem fw_Srv_216 : FW R_Srv 216 5 10 := ⟨_, rfl, by decide, rfl, wf_Srv_216, rfl⟩
theorem wf_Srv_217 : Cond.fieldLink R_Srv 217 R_Msg (F_Msg 11).2.1 (F_Msg 11).2.2.1 ∈ WA := wa_1 (List.mem_of_getElem? (i := 207) (by decide +kernel)) (by decide +kernel)
theorem fl_Srv_217 : FL R_Srv 217 5 11 := ⟨_, rfl, by decide, rfl, wf_Srv_217⟩
theorem fw_Srv_217 : FW R_Srv 217 5 11 := ⟨_, rfl, by decide, rfl, wf_Srv_217, rfl⟩
theorem wf_Srv_225 : Cond.fieldLink R_Srv 225 R_Rec (F_Rec 7).2.1 (F_Rec 7).2.2.1 ∈ WA := wa_1 (List.mem_of_getElem? (i := 58) (by decide +kernel)) (by decide +kernel)
theorem fl_Srv_225 : FL R_Srv 225 2 7 := ⟨_, rfl, by decide, rfl, wf_Srv_225⟩
theorem wf_Mod_7 : Cond.fieldLink R_Mod 7 R_Mod (F_Mod 5).2.1 (F_Mod 5).2.2.1 ∈ WA := wa_4 (List.mem_of_getElem? (i := 56) (by decide +kernel)) (by decide +kernel)
theorem fl_Mod_7 : FL R_Mod 7 6 5 := ⟨_, rfl, by decide, rfl, wf_Mod_7⟩
theorem fi_Mod_7 : FI R_Mod 7 6 5 := ⟨_, rfl, by decide, rfl, wf_Mod_7, rfl, rfl⟩
theorem wf_Mod_13 : Cond.fieldLink R_Mod 13 R_Mod (F_Mod 6).2.1 (F_Mod 6).2.2.1 ∈ WA := wa_4 (List.mem_of_getElem? (i := 57) (by decide +kernel)) (by decide +kernel)
theorem fl_Mod_13 : FL R_Mod 13 6 6 := ⟨_, rfl, by decide, rfl, wf_Mod_13⟩
theorem fi_Mod_13 : FI R_Mod 13 6 6 := ⟨_, rfl, by decide, rfl, wf_Mod_13, rfl, rfl⟩
theorem wf_Mod_16 : Cond.fieldLink R_Mod 16 R_Mod (F_Mod 7).2.1 (F_Mod 7).2.2.1 ∈ WA := wa_4 (List.mem_of_getElem? (i := 58) (by decide +kernel)) (by decide +kernel)
theorem fl_Mod_16 : FL R_Mod 16 6 7 := ⟨_, rfl, by decide, rfl, wf_Mod_16⟩
theorem fi_Mod_16 : FI R_Mod 16 6 7 := ⟨_, rfl, by decide, rfl, wf_Mod_16, rfl, rfl⟩
theorem wf_Mod_19 : Cond.fieldLink R_Mod 19 R_Mod (F_Mod 8).2.1 (F_Mod 8).2.2.1 ∈ WA := wa_4 (List.mem_of_getElem? (i := 59) (by decide +kernel)) (by decide +kernel)
theorem fl_Mod_19 : FL R_Mod 19 6 8 := ⟨_, rfl, by decide, rfl, wf_Mod_19⟩
theorem fi_Mod_19 : FI R_Mod 19 6 8 := ⟨_, rfl, by decide, rfl, wf_Mod_19, rfl, rfl⟩
theorem wf_Mod_22 : Cond.fieldLink R_Mod 22 R_Mod (F_Mod 9).2.1 (F_Mod 9).2.2.1 ∈ WA := wa_4 (List.mem_of_getElem? (i := 60) (by decide +kernel)) (by decide +kernel)
theorem fl_Mod_22 : FL R_Mod 22 6 9 := ⟨_, rfl, by decide, rfl, wf_Mod_22⟩
theorem fi_Mod_22 : FI R_Mod 22 6 9 := ⟨_, rfl, by decide, rfl, wf_Mod_22, rfl, rfl⟩
theorem wf_Mod_25 : Cond.fieldLink R_Mod 25 R_Mod (F_Mod 10).2.1 (F_Mod 10).2.2.1 ∈ WA := wa_4 (List.mem_of_getElem? (i := 61) (by decide +kernel)) (by decide +kernel)
theorem fl_Mod_25 : FL R_Mod 25 6 10 := ⟨_, rfl, by decide, rfl, wf_Mod_25⟩
theorem fi_Mod_25 : FI R_Mod 25 6 10 := ⟨_, rfl, by decide, rfl, wf_Mod_25, rfl, rfl⟩
theorem wf_Mod_28 : Cond.fieldLink R_Mod 28 R_Mod (F_Mod 11).2.1 (F_Mod 11).2.2.1 ∈ WA := wa_4 (List.mem_of_getElem? (i := 62) (by decide +kernel)) (by decide +kernel)
theorem fl_Mod_28 : FL R_Mod 28 6 11 := ⟨_, rfl, by decide, rfl, wf_Mod_28⟩
theorem fi_Mod_28 : FI R_Mod 28 6 11 := ⟨_, rfl, by decide, rfl, wf_Mod_28, rfl, rfl⟩
theorem wf_Mod_31 : Cond.fieldLink R_Mod 31 R_Mod (F_Mod 12).2.1 (F_Mod 12).2.2.1 ∈ WA := wa_4 (List.mem_of_getElem? (i := 63) (by decide +kernel)) (by decide +kernel)
theorem fl_Mod_31 : FL R_Mod 31 6 12 := ⟨_, rfl, by decide, rfl, wf_Mod_31⟩
theorem fi_Mod_31 : FI R_Mod 31 6 12 := ⟨_, rfl, by decide, rfl, wf_Mod_31, rfl, rfl⟩
theorem wf_Mod_34 : Cond.fieldLink R_Mod 34 R_Mod (F_Mod 13).2.1 (F_Mod 13).2.2.1 ∈ WA := wa_4 (List.mem_of_getElem? (i := 64) (by decide +kernel)) (by decide +kernel)
theorem fl_Mod_34 : FL R_Mod 34 6 13 := ⟨_, rfl, by decide, rfl, wf_Mod_34⟩
theorem fi_Mod_34 : FI R_Mod 34 6 13 := ⟨_, rfl, by decide, rfl, wf_Mod_34, rfl, rfl⟩
theorem wf_Mod_37 : Cond.fieldLink R_Mod 37 R_Mod (F_Mod 14).2.1 (F_Mod 14).2.2.1 ∈ WA := wa_4 (List.mem_of_getElem? (i := 65) (by decide +kernel)) (by decide +kernel)
theorem fl_Mod_37 : FL R_Mod 37 6 14 := ⟨_, rfl, by decide, rfl, wf_Mod_37⟩
theorem fi_Mod_37 : FI R_Mod 37 6 14 := ⟨_, rfl, by decide, rfl, wf_Mod_37, rfl, rfl⟩
theorem wf_Mod_40 : Cond.fieldLink R_Mod 40 R_Mod (F_Mod 15).2.1 (F_Mod 15).2.2.1 ∈ WA := wa_4 (List.mem_of_getElem? (i := 66) (by decide +kernel)) (by decide +kernel)
theorem fl_Mod_40 : FL R_Mod 40 6 15 := ⟨_, rfl, by decide, rfl, wf_Mod_40⟩
theorem fi_Mod_40 : FI R_Mod 40 6 15 := ⟨_, rfl, by decide, rfl, wf_Mod_40, rfl, rfl⟩
theorem wf_Mod_43 : Cond.fieldLink R_Mod 43 R_Mod (F_Mod 16).2.1 (F_Mod 16).2.2.1 ∈ WA := wa_4 (List.mem_of_getElem? (i := 67) (by decide +kernel)) (by decide +kernel)
theorem fl_Mod_43 : FL R_Mod 43 6 16 := ⟨_, rfl, by decide, rfl, wf_Mod_43⟩
theorem fi_Mod_43 : FI R_Mod 43 6 16 := ⟨_, rfl, by decide, rfl, wf_Mod_43, rfl, rfl⟩
theorem wf_Mod_46 : Cond.fieldLink R_Mod 46 R_Mod (F_Mod 17).2.1 (F_Mod 17).2.2.1 ∈ WA := wa_4 (List.mem_of_getElem? (i := 68) (by decide +kernel)) (by decide +kernel)
theorem fl_Mod_46 : FL R_Mod 46 6 17 := ⟨_, rfl, by decide, rfl, wf_Mod_46⟩
theorem fi_Mod_46 : FI R_Mod 46 6 17 := ⟨_, rfl, by decide, rfl, wf_Mod_46, rfl, rfl⟩
theorem wf_Mod_50 : Cond.fieldLink R_Mod 50 R_Mod (F_Mod 18).2.1 (F_Mod 18).2.2.1 ∈ WA := wa_4 (List.mem_of_getElem? (i := 69) (by decide +kernel)) (by decide +kernel)
theorem fl_Mod_50 : FL R_Mod 50 6 18 := ⟨_, rfl, by decide, rfl, wf_Mod_50⟩
theorem fi_Mod_50 : FI R_Mod 50 6 18 := ⟨_, rfl, by decide, rfl, wf_Mod_50, rfl, rfl⟩
theorem wf_Mod_53 : Cond.fieldLink R_Mod 53 R_Mod (F_Mod 19).2.1 (F_Mod 19).2.2.1 ∈ WA := wa_4 (List.mem_of_getElem? (i := 70) (by decide +kernel)) (by decide +kernel)
theorem fl_Mod_53 : FL R_Mod 53 6 19 := ⟨_, rfl, by decide, rfl, wf_Mod_53⟩
theorem fi_Mod_53 : FI R_Mod 53 6 19 := ⟨_, rfl, by decide, rfl, wf_Mod_53, rfl, rfl⟩
theorem wf_Mod_56 : Cond.fieldLink R_Mod 56 R_Mod (F_Mod 20).2.1 (F_Mod 20).2.2.1 ∈ WA := wa_4 (List.mem_of_getElem? (i := 71) (by decide +kernel)) (by decide +kernel)
theorem fl_Mod_56 : FL R_Mod 56 6 20 := ⟨_, rfl, by decide, rfl, wf_Mod_56⟩
theorem fi_Mod_56 : FI R_Mod 56 6 20 := ⟨_, rfl, by decide, rfl, wf_Mod_56, rfl, rfl⟩
theorem wf_Mod_59 : Cond.fieldLink R_Mod 59 R_Mod (F_Mod 21).2.1 (F_Mod 21).2.2.1 ∈ WA := wa_4 (List.mem_of_getElem? (i := 72) (by decide +kernel)) (by decide +kernel)
theorem fl_Mod_59 : FL R_Mod 59 6 21 := ⟨_, rfl, by decide, rfl, wf_Mod_59⟩
theorem fi_Mod_59 : FI R_Mod 59 6 21 := ⟨_, rfl, by decide, rfl, wf_Mod_59, rfl, rfl⟩
theorem wf_Mod_62 : Cond.fieldLink R_Mod 62 R_Mod (F_Mod 22).2.1 (F_Mod 22).2.2.1 ∈ WA := wa_4 (List.mem_of_getElem? (i := 73) (by decide +kernel)) (by decide +kernel)
theorem fl_Mod_62 : FL R_Mod 62 6 22 := ⟨_, rfl, by decide, rfl, wf_Mod_62⟩
theorem fi_Mod_62 : FI R_Mod 62 6 22 := ⟨_, rfl, by decide, rfl, wf_Mod_62, rfl, rfl⟩
theorem wf_Mod_65 : Cond.fieldLink R_Mod 65 R_Mod (F_Mod 23).2.1 (F_Mod 23).2.2.1 ∈ WA := wa_4 (List.mem_of_getElem? (i := 74) (by decide +kernel)) (by decide +kernel)
theorem fl_Mod_65 : FL R_Mod 65 6 23 := ⟨_, rfl, by decide, rfl, wf_Mod_65⟩
theorem fi_Mod_65 : FI R_Mod 65 6 23 := ⟨_, rfl, by decide, rfl, wf_Mod_65, rfl, rfl⟩
theorem wf_Mod_68 : Cond.fieldLink R_Mod 68 R_Mod (F_Mod 24).2.1 (F_Mod 24).2.2.1 ∈ WA := wa_4 (List.mem_of_getElem? (i := 75) (by decide +kernel)) (by decide +kernel)
theorem fl_Mod_68 : FL R_Mod 68 6 24 := ⟨_, rfl, by decide, rfl, wf_Mod_68⟩
theorem fi_Mod_68 : FI R_Mod 68 6 24 := ⟨_, rfl, by decide, rfl, wf_Mod_68, rfl, rfl⟩
theorem wf_Mod_71 : Cond.fieldLink R_Mod 71 R_Mod (F_Mod 25).2.1 (F_Mod 25).2.2.1 ∈ WA := wa_4 (List.mem_of_getElem? (i := 76) (by decide +kernel)) (by decide +kernel)
theorem fl_Mod_71 : FL R_Mod 71 6 25 := ⟨_, rfl, by decide, rfl, wf_Mod_71⟩
theorem fi_Mod_71 : FI R_Mod 71 6 25 := ⟨_, rfl, by decide, rfl, wf_Mod_71, rfl, rfl⟩
theorem wf_Mod_74 : Cond.fieldLink R_Mod 74 R_Mod (F_Mod 26).2.1 (F_Mod 26).2.2.1 ∈ WA := wa_4 (List.mem_of_getElem? (i := 77) (by decide +kernel)) (by decide +kernel)
theorem fl_Mod_74 : FL R_Mod 74 6 26 := ⟨_, rfl, by decide, rfl, wf_Mod_74⟩
theorem fi_Mod_74 : FI R_Mod 74 6 26 := ⟨_, rfl, by decide, rfl, wf_Mod_74, rfl, rfl⟩
theorem wf_Mod_77 : Cond.fieldLink R_Mod 77 R_Mod (F_Mod 27).2.1 (F_Mod 27).2.2.1 ∈ WA := wa_4 (List.mem_of_getElem? (i := 78) (by decide +kernel)) (by decide +kernel)
theorem fl_Mod_77 : FL R_Mod 77 6 27 := ⟨_, rfl, by decide, rfl, wf_Mod_77⟩
theorem fi_Mod_77 : FI R_Mod 77 6 27 := ⟨_, rfl, by decide, rfl, wf_Mod_77, rfl, rfl⟩
theorem wf_Mod_80 : Cond.fieldLink R_Mod 80 R_Mod (F_Mod 28).2.1 (F_Mod 28).2.2.1 ∈ WA := wa_4 (List.mem_of_getElem? (i := 79) (by decide +kernel)) (by decide +kernel)
theorem fl_Mod_80 : FL R_Mod 80 6 28 := ⟨_, rfl, by decide, rfl, wf_Mod_80⟩
theorem fi_Mod_80 : FI R_Mod 80 6 28 := ⟨_, rfl, by decide, rfl, wf_Mod_80, rfl, rfl⟩
theorem wf_Mod_83 : Cond.fieldLink R_Mod 83 R_Mod (F_Mod 29).2.1 (F_Mod 29).2.2.1 ∈ WA := wa_4 (List.mem_of_getElem? (i := 80) (by decide +kernel)) (by decide +kernel)
theorem fl_Mod_83 : FL R_Mod 83 6 29 := ⟨_, rfl, by decide, rfl, wf_Mod_83⟩
theorem fi_Mod_83 : FI R_Mod 83 6 29 := ⟨_, rfl, by decide, rfl, wf_Mod_83, rfl, rfl⟩
theorem wf_Mod_86 : Cond.fieldLink R_Mod 86 R_Mod (F_Mod 32).2.1 (F_Mod 32).2.2.1 ∈ WA := wa_4 (List.mem_of_getElem? (i := 83) (by decide +kernel)) (by decide +kernel)
theorem fl_Mod_86 : FL R_Mod 86 6 32 := ⟨_, rfl, by decide, rfl, wf_Mod_86⟩
theorem fi_Mod_86 : FI R_Mod 86 6 32 := ⟨_, rfl, by decide, rfl, wf_Mod_86, rfl, rfl⟩
theorem wf_Mod_89 : Cond.fieldLink R_Mod 89 R_Mod (F_Mod 33).2.1 (F_Mod 33).2.2.1 ∈ WA := wa_4 (List.mem_of_getElem? (i := 84) (by decide +kernel)) (by decide +kernel)
theorem fl_Mod_89 : FL R_Mod 89 6 33 := ⟨_, rfl, by decide, rfl, wf_Mod_89⟩
theorem fi_Mod_89 : FI R_Mod 89 6 33 := ⟨_, rfl, by decide, rfl, wf_Mod_89, rfl, rfl⟩
theorem wf_Mod_92 : Cond.fieldLink R_Mod 92 R_Mod (F_Mod 34).2.1 (F_Mod 34).2.2.1 ∈ WA := wa_4 (List.mem_of_getElem? (i := 85) (by decide +kernel)) (by decide +kernel)
theorem fl_Mod_92 : FL R_Mod 92 6 34 := ⟨_, rfl, by decide, rfl, wf_Mod_92⟩
theorem fi_Mod_92 : FI R_Mod 92 6 34 := ⟨_, rfl, by decide, rfl, wf_Mod_92, rfl, rfl⟩
theorem wf_Mod_95 : Cond.fieldLink R_Mod 95 R_Mod (F_Mod 35).2.1 (F_Mod 35).2.2.1 ∈ WA := wa_4 (List.mem_of_getElem? (i := 86) (by decide +kernel)) (by decide +kernel)
theorem fl_Mod_95 : FL R_Mod 95 6 35 := ⟨_, rfl, by decide, rfl, wf_Mod_95⟩
theorem fi_Mod_95 : FI R_Mod 95 6 35 := ⟨_, rfl, by decide, rfl, wf_Mod_95, rfl, rfl⟩
theorem wf_Mod_98 : Cond.fieldLink R_Mod 98 R_Mod (F_Mod 1).2.1 (F_Mod 1).2.2.1 ∈ WA := wa_4 (List.mem_of_getElem? (i := 52) (by decide +kernel)) (by decide +kernel)
theorem fl_Mod_98 : FL R_Mod 98 6 1 := ⟨_, rfl, by decide, rfl, wf_Mod_98⟩
theorem fi_Mod_98 : FI R_Mod 98 6 1 := ⟨_, rfl, by decide, rfl, wf_Mod_98, rfl, rfl⟩
theorem wf_Mod_102 : Cond.fieldLink R_Mod 102 R_Mod (F_Mod 2).2.1 (F_Mod 2).2.2.1 ∈ WA := wa_4 (List.mem_of_getElem? (i := 53) (by decide +kernel)) (by decide +kernel)
theorem fl_Mod_102 : FL R_Mod 102 6 2 := ⟨_, rfl, by decide, rfl, wf_Mod_102⟩
theorem fi_Mod_102 : FI R_Mod 102 6 2 := ⟨_, rfl, by decide, rfl, wf_Mod_102, rfl, rfl⟩
theorem wf_Mod_105 : Cond.fieldLink R_Mod 105 R_Mod (F_Mod 3).2.1 (F_Mod 3).2.2.1 ∈ WA := wa_4 (List.mem_of_getElem? (i := 54) (by decide +kernel)) (by decide +kernel)
theorem fl_Mod_105 : FL R_Mod 105 6 3 := ⟨_, rfl, by decide, rfl, wf_Mod_105⟩
theorem fi_Mod_105 : FI R_Mod 105 6 3 := ⟨_, rfl, by decide, rfl, wf_Mod_105, rfl, rfl⟩
theorem wf_Mod_108 : Cond.fieldLink R_Mod 108 R_Mod (F_Mod 0).2.1 (F_Mod 0).2.2.1 ∈ WA := wa_4 (List.mem_of_getElem? (i := 51) (by decide +kernel)) (by decide +kernel)
theorem fl_Mod_108 : FL R_Mod 108 6 0 := ⟨_, rfl, by decide, rfl, wf_Mod_108⟩
theorem fw_Mod_108 : FW R_Mod 108 6 0 := ⟨_, rfl, by decide, rfl, wf_Mod_108, rfl⟩
theorem wf_Mod_111 : Cond.fieldLink R_Mod 111 R_Mod (F_Mod 4).2.1 (F_Mod 4).2.2.1 ∈ WA := wa_4 (List.mem_of_getElem? (i := 55) (by decide +kernel)) (by decide +kernel)
theorem fl_Mod_111 : FL R_Mod 111 6 4 := ⟨_, rfl, by decide, rfl, wf_Mod_111⟩
theorem fw_Mod_111 : FW R_Mod 111 6 4 := ⟨_, rfl, by decide, rfl, wf_Mod_111, rfl⟩
theorem wf_Mod_114 : Cond.fieldLink R_Mod 114 R_Mod (F_Mod 31).2.1 (F_Mod 31).2.2.1 ∈ WA := wa_4 (List.mem_of_getElem? (i := 82) (by decide +kernel)) (by decide +kernel)
theorem fl_Mod_114 : FL R_Mod 114 6 31 := ⟨_, rfl, by decide, rfl, wf_Mod_114⟩
theorem fw_Mod_114 : FW R_Mod 114 6 31 := ⟨_, rfl, by decide, rfl, wf_Mod_114, rfl⟩
theorem wf_Mod_197 : Cond.fieldLink R_Mod 197 R_Mod (F_Mod 30).2.1 (F_Mod 30).2.2.1 ∈ WA := wa_4 (List.mem_of_getElem? (i := 81) (by decide +kernel)) (by decide +kernel)
theorem fl_Mod_197 : FL R_Mod 197 6 30 := ⟨_, rfl, by decide, rfl, wf_Mod_197⟩
theorem fw_Mod_197 : FW R_Mod 197 6 30 := ⟨_, rfl, by decide, rfl, wf_Mod_197, rfl⟩
theorem wc_LP_50 : Cond.constant R_LP 50 100000 ∈ WA := wa_3 (List.mem_of_getElem? (i := 20) (by decide +kernel)) (by decide +kernel)
theorem wc_LP_55 : Cond.constant R_LP 55 1000000000 ∈ WA := wa_3 (List.mem_of_getElem? (i := 24) (by decide +kernel)) (by decide +kernel)
theorem wc_Mod_200 : Cond.constant R_Mod 200 100000 ∈ WA := wa_4 (List.mem_of_getElem? (i := 170) (by decide +kernel)) (by decide +kernel)
theorem wc_Mod_201 : Cond.constant R_Mod 201 1000000000 ∈ WA := wa_4 (List.mem_of_getElem? (i := 171) (by decide +kernel)) (by decide +kernel)
theorem wk_LP_within : Cond.code md_LP_within.1 md_LP_within.2.1 md_LP_within.2.2.1 md_LP_within.2.2.2 ∈ WA := wa_1 (List.mem_of_getElem? (i := 23) (by decide +kernel)) (by decide +kernel)
theorem wn_LP_within : Cond.initialized md_LP_within.1.cls ∈ WA := wa_1 (List.mem_of_getElem? (i := 1) (by decide +kernel)) (by decide +kernel)
theorem ms_LP_within : Cond.static md_LP_within.1 ∈ WA := wa_1 (List.mem_of_getElem? (i := 22) (by decide +kernel)) (by decide +kernel)
theorem ml_LP_9 : MLk R_LP 9 md_LP_within 3 := ⟨wa_1 (List.mem_of_getElem? (i := 21) (by decide +kernel)) (by decide +kernel), wn_LP_within, wk_LP_within, by decide +kernel⟩
theorem wk_Srv_init : Cond.code md_Srv_init.1 md_Srv_init.2.1 md_Srv_init.2.2.1 md_Srv_init.2.2.2 ∈ WA := wa_1 (List.mem_of_getElem? (i := 35) (by decide +kernel)) (by decide +kernel)
theorem wn_Srv_init : Cond.initialized md_Srv_init.1.cls ∈ WA := wa_1 (List.mem_of_getElem? (i := 3) (by decide +kernel)) (by decide +kernel)
theorem mo_Srv_init : Cond.instanceMethod md_Srv_init.1 ∈ WA := wa_1 (List.mem_of_getElem? (i := 34) (by decide +kernel)) (by decide +kernel)
theorem ml_LP_26 : MLk R_LP 26 md_Srv_init 4 := ⟨wa_1 (List.mem_of_getElem? (i := 33) (by decide +kernel)) (by decide +kernel), wn_Srv_init, wk_Srv_init, by decide +kernel⟩
theorem wk_Cli_init : Cond.code md_Cli_init.1 md_Cli_init.2.1 md_Cli_init.2.2.1 md_Cli_init.2.2.2 ∈ WA := wa_1 (List.mem_of_getElem? (i := 144) (by decide +kernel)) (by decide +kernel)
theorem wn_Cli_init : Cond.initialized md_Cli_init.1.cls ∈ WA := wa_1 (List.mem_of_getElem? (i := 5) (by decide +kernel)) (by decide +kernel)
theorem mo_Cli_init : Cond.instanceMethod md_Cli_init.1 ∈ WA := wa_1 (List.mem_of_getElem? (i := 143) (by decide +kernel)) (by decide +kernel)
theorem ml_LP_35 : MLk R_LP 35 md_Cli_init 0 := ⟨wa_1 (List.mem_of_getElem? (i := 142) (by decide +kernel)) (by decide +kernel), wn_Cli_init, wk_Cli_init, by decide +kernel⟩
theorem wk_Net_init : Cond.code md_Net_init.1 md_Net_init.2.1 md_Net_init.2.2.1 md_Net_init.2.2.2 ∈ WA := wa_1 (List.mem_of_getElem? (i := 166) (by decide +kernel)) (by decide +kernel)
theorem wn_Net_init : Cond.initialized md_Net_init.1.cls ∈ WA := wa_1 (List.mem_of_getElem? (i := 6) (by decide +kernel)) (by decide +kernel)
theorem mo_Net_init : Cond.instanceMethod md_Net_init.1 ∈ WA := wa_1 (List.mem_of_getElem? (i := 165) (by decide +kernel)) (by decide +kernel)
theorem ml_LP_38 : MLk R_LP 38 md_Net_init 0 := ⟨wa_1 (List.mem_of_getElem? (i := 164) (by decide +kernel)) (by decide +kernel), wn_Net_init, wk_Net_init, by decide +kernel⟩
theorem wk_LP_isWithin : Cond.code md_LP_isWithin.1 md_LP_isWithin.2.1 md_LP_isWithin.2.2.1 md_LP_isWithin.2.2.2 ∈ WA := wa_3 (List.mem_of_getElem? (i := 23) (by decide +kernel)) (by decide +kernel)
theorem wn_LP_isWithin : Cond.initialized md_LP_isWithin.1.cls ∈ WA := wa_1 (List.mem_of_getElem? (i := 1) (by decide +kernel)) (by decide +kernel)
theorem ms_LP_isWithin : Cond.static md_LP_isWithin.1 ∈ WA := wa_3 (List.mem_of_getElem? (i := 22) (by decide +kernel)) (by decide +kernel)
theorem ml_LP_51 : MLk R_LP 51 md_LP_isWithin 3 := ⟨wa_3 (List.mem_of_getElem? (i := 21) (by decide +kernel)) (by decide +kernel), wn_LP_isWithin, wk_LP_isWithin, by decide +kernel⟩
theorem wk_LP_need : Cond.code md_LP_need.1 md_LP_need.2.1 md_LP_need.2.2.1 md_LP_need.2.2.2 ∈ WA := wa_3 (List.mem_of_getElem? (i := 27) (by decide +kernel)) (by decide +kernel)
theorem wn_LP_need : Cond.initialized md_LP_need.1.cls ∈ WA := wa_1 (List.mem_of_getElem? (i := 1) (by decide +kernel)) (by decide +kernel)
theorem ms_LP_need : Cond.static md_LP_need.1 ∈ WA := wa_3 (List.mem_of_getElem? (i := 26) (by decide +kernel)) (by decide +kernel)
theorem ml_LP_59 : MLk R_LP 59 md_LP_need 1 := ⟨wa_3 (List.mem_of_getElem? (i := 25) (by decide +kernel)) (by decide +kernel), wn_LP_need, wk_LP_need, by decide +kernel⟩
theorem wk_LP_serverOf : Cond.code md_LP_serverOf.1 md_LP_serverOf.2.1 md_LP_serverOf.2.2.1 md_LP_serverOf.2.2.2 ∈ WA := wa_3 (List.mem_of_getElem? (i := 99) (by decide +kernel)) (by decide +kernel)
theorem wn_LP_serverOf : Cond.initialized md_LP_serverOf.1.cls ∈ WA := wa_1 (List.mem_of_getElem? (i := 1) (by decide +kernel)) (by decide +kernel)
theorem mv_LP_serverOf : Cond.instanceMethod md_LP_serverOf.1 ∈ WA ∧ Cond.selects md_LP_serverOf.1.cls md_LP_serverOf.1 md_LP_serverOf.1 ∈ WA := ⟨wa_3 (List.mem_of_getElem? (i := 98) (by decide +kernel)) (by decide +kernel), wa_0 (List.mem_of_getElem? (i := 5) (by decide +kernel)) (by decide +kernel)⟩
theorem ml_LP_63 : MLk R_LP 63 md_LP_serverOf 1 := ⟨wa_3 (List.mem_of_getElem? (i := 96) (by decide +kernel)) (by decide +kernel), wn_LP_serverOf, wk_LP_serverOf, by decide +kernel⟩
theorem wk_Srv_die : Cond.code md_Srv_die.1 md_Srv_die.2.1 md_Srv_die.2.2.1 md_Srv_die.2.2.2 ∈ WA := wa_2 (List.mem_of_getElem? (i := 125) (by decide +kernel)) (by decide +kernel)
theorem wn_Srv_die : Cond.initialized md_Srv_die.1.cls ∈ WA := wa_1 (List.mem_of_getElem? (i := 3) (by decide +kernel)) (by decide +kernel)
theorem mv_Srv_die : Cond.instanceMethod md_Srv_die.1 ∈ WA ∧ Cond.selects md_Srv_die.1.cls md_Srv_die.1 md_Srv_die.1 ∈ WA := ⟨wa_2 (List.mem_of_getElem? (i := 123) (by decide +kernel)) (by decide +kernel), wa_2 (List.mem_of_getElem? (i := 124) (by decide +kernel)) (by decide +kernel)⟩
theorem ml_LP_73 : MLk R_LP 73 md_Srv_die 0 := ⟨wa_3 (List.mem_of_getElem? (i := 107) (by decide +kernel)) (by decide +kernel), wn_Srv_die, wk_Srv_die, by decide +kernel⟩
theorem wk_Srv_comeUp : Cond.code md_Srv_comeUp.1 md_Srv_comeUp.2.1 md_Srv_comeUp.2.2.1 md_Srv_comeUp.2.2.2 ∈ WA := wa_3 (List.mem_of_getElem? (i := 125) (by decide +kernel)) (by decide +kernel)
theorem wn_Srv_comeUp : Cond.initialized md_Srv_comeUp.1.cls ∈ WA := wa_1 (List.mem_of_getElem? (i := 3) (by decide +kernel)) (by decide +kernel)
theorem mv_Srv_comeUp : Cond.instanceMethod md_Srv_comeUp.1 ∈ WA ∧ Cond.selects md_Srv_comeUp.1.cls md_Srv_comeUp.1 md_Srv_comeUp.1 ∈ WA := ⟨wa_3 (List.mem_of_getElem? (i := 123) (by decide +kernel)) (by decide +kernel), wa_3 (List.mem_of_getElem? (i := 124) (by decide +kernel)) (by decide +kernel)⟩
theorem ml_LP_79 : MLk R_LP 79 md_Srv_comeUp 0 := ⟨wa_3 (List.mem_of_getElem? (i := 122) (by decide +kernel)) (by decide +kernel), wn_Srv_comeUp, wk_Srv_comeUp, by decide +kernel⟩
theorem wk_Srv_sendHello : Cond.code md_Srv_sendHello.1 md_Srv_sendHello.2.1 md_Srv_sendHello.2.2.1 md_Srv_sendHello.2.2.2 ∈ WA := wa_3 (List.mem_of_getElem? (i := 129) (by decide +kernel)) (by decide +kernel)
theorem wn_Srv_sendHello : Cond.initialized md_Srv_sendHello.1.cls ∈ WA := wa_1 (List.mem_of_getElem? (i := 3) (by decide +kernel)) (by decide +kernel)
theorem mv_Srv_sendHello : Cond.instanceMethod md_Srv_sendHello.1 ∈ WA ∧ Cond.selects md_Srv_sendHello.1.cls md_Srv_sendHello.1 md_Srv_sendHello.1 ∈ WA := ⟨wa_3 (List.mem_of_getElem? (i := 127) (by decide +kernel)) (by decide +kernel), wa_3 (List.mem_of_getElem? (i := 128) (by decide +kernel)) (by decide +kernel)⟩
theorem ml_LP_82 : MLk R_LP 82 md_Srv_sendHello 1 := ⟨wa_3 (List.mem_of_getElem? (i := 126) (by decide +kernel)) (by decide +kernel), wn_Srv_sendHello, wk_Srv_sendHello, by decide +kernel⟩
theorem wk_LP_clockOf : Cond.code md_LP_clockOf.1 md_LP_clockOf.2.1 md_LP_clockOf.2.2.1 md_LP_clockOf.2.2.2 ∈ WA := wa_2 (List.mem_of_getElem? (i := 97) (by decide +kernel)) (by decide +kernel)
theorem wn_LP_clockOf : Cond.initialized md_LP_clockOf.1.cls ∈ WA := wa_1 (List.mem_of_getElem? (i := 1) (by decide +kernel)) (by decide +kernel)
theorem mv_LP_clockOf : Cond.instanceMethod md_LP_clockOf.1 ∈ WA ∧ Cond.selects md_LP_clockOf.1.cls md_LP_clockOf.1 md_LP_clockOf.1 ∈ WA := ⟨wa_2 (List.mem_of_getElem? (i := 96) (by decide +kernel)) (by decide +kernel), wa_0 (List.mem_of_getElem? (i := 3) (by decide +kernel)) (by decide +kernel)⟩
theorem ml_LP_89 : MLk R_LP 89 md_LP_clockOf 1 := ⟨wa_2 (List.mem_of_getElem? (i := 94) (by decide +kernel)) (by decide +kernel), wn_LP_clockOf, wk_LP_clockOf, by decide +kernel⟩
theorem wk_Srv_goAlone : Cond.code md_Srv_goAlone.1 md_Srv_goAlone.2.1 md_Srv_goAlone.2.2.1 md_Srv_goAlone.2.2.2 ∈ WA := wa_3 (List.mem_of_getElem? (i := 140) (by decide +kernel)) (by decide +kernel)
theorem wn_Srv_goAlone : Cond.initialized md_Srv_goAlone.1.cls ∈ WA := wa_1 (List.mem_of_getElem? (i := 3) (by decide +kernel)) (by decide +kernel)
theorem mv_Srv_goAlone : Cond.instanceMethod md_Srv_goAlone.1 ∈ WA ∧ Cond.selects md_Srv_goAlone.1.cls md_Srv_goAlone.1 md_Srv_goAlone.1 ∈ WA := ⟨wa_3 (List.mem_of_getElem? (i := 138) (by decide +kernel)) (by decide +kernel), wa_3 (List.mem_of_getElem? (i := 139) (by decide +kernel)) (by decide +kernel)⟩
theorem ml_LP_93 : MLk R_LP 93 md_Srv_goAlone 1 := ⟨wa_3 (List.mem_of_getElem? (i := 137) (by decide +kernel)) (by decide +kernel), wn_Srv_goAlone, wk_Srv_goAlone, by decide +kernel⟩
theorem wk_LP_clientOf : Cond.code md_LP_clientOf.1 md_LP_clientOf.2.1 md_LP_clientOf.2.2.1 md_LP_clientOf.2.2.2 ∈ WA := wa_3 (List.mem_of_getElem? (i := 151) (by decide +kernel)) (by decide +kernel)
theorem wn_LP_clientOf : Cond.initialized md_LP_clientOf.1.cls ∈ WA := wa_1 (List.mem_of_getElem? (i := 1) (by decide +kernel)) (by decide +kernel)
theorem mv_LP_clientOf : Cond.instanceMethod md_LP_clientOf.1 ∈ WA ∧ Cond.selects md_LP_clientOf.1.cls md_LP_clientOf.1 md_LP_clientOf.1 ∈ WA := ⟨wa_3 (List.mem_of_getElem? (i := 150) (by decide +kernel)) (by decide +kernel), wa_0 (List.mem_of_getElem? (i := 6) (by decide +kernel)) (by decide +kernel)⟩
theorem ml_LP_97 : MLk R_LP 97 md_LP_clientOf 1 := ⟨wa_3 (List.mem_of_getElem? (i := 148) (by decide +kernel)) (by decide +kernel), wn_LP_clientOf, wk_LP_clientOf, by decide +kernel⟩
theorem wk_Cli_request : Cond.code md_Cli_request.1 md_Cli_request.2.1 md_Cli_request.2.2.1 md_Cli_request.2.2.2 ∈ WA := wa_3 (List.mem_of_getElem? (i := 155) (by decide +kernel)) (by decide +kernel)
theorem wn_Cli_request : Cond.initialized md_Cli_request.1.cls ∈ WA := wa_1 (List.mem_of_getElem? (i := 5) (by decide +kernel)) (by decide +kernel)
theorem mv_Cli_request : Cond.instanceMethod md_Cli_request.1 ∈ WA ∧ Cond.selects md_Cli_request.1.cls md_Cli_request.1 md_Cli_request.1 ∈ WA := ⟨wa_3 (List.mem_of_getElem? (i := 153) (by decide +kernel)) (by decide +kernel), wa_3 (List.mem_of_getElem? (i := 154) (by decide +kernel)) (by decide +kernel)⟩
theorem ml_LP_101 : MLk R_LP 101 md_Cli_request 1 := ⟨wa_3 (List.mem_of_getElem? (i := 152) (by decide +kernel)) (by decide +kernel), wn_Cli_request, wk_Cli_request, by decide +kernel⟩
theorem wk_Net_add : Cond.code md_Net_add.1 md_Net_add.2.1 md_Net_add.2.2.1 md_Net_add.2.2.2 ∈ WA := wa_2 (List.mem_of_getElem? (i := 156) (by decide +kernel)) (by decide +kernel)
theorem wn_Net_add : Cond.initialized md_Net_add.1.cls ∈ WA := wa_1 (List.mem_of_getElem? (i := 6) (by decide +kernel)) (by decide +kernel)
theorem mv_Net_add : Cond.instanceMethod md_Net_add.1 ∈ WA ∧ Cond.selects md_Net_add.1.cls md_Net_add.1 md_Net_add.1 ∈ WA := ⟨wa_2 (List.mem_of_getElem? (i := 154) (by decide +kernel)) (by decide +kernel), wa_2 (List.mem_of_getElem? (i := 155) (by decide +kernel)) (by decide +kernel)⟩
theorem ml_LP_104 : MLk R_LP 104 md_Net_add 3 := ⟨wa_3 (List.mem_of_getElem? (i := 157) (by decide +kernel)) (by decide +kernel), wn_Net_add, wk_Net_add, by decide +kernel⟩
theorem wk_Srv_sendPending : Cond.code md_Srv_sendPending.1 md_Srv_sendPending.2.1 md_Srv_sendPending.2.2.1 md_Srv_sendPending.2.2.2 ∈ WA := wa_3 (List.mem_of_getElem? (i := 168) (by decide +kernel)) (by decide +kernel)
theorem wn_Srv_sendPending : Cond.initialized md_Srv_sendPending.1.cls ∈ WA := wa_1 (List.mem_of_getElem? (i := 3) (by decide +kernel)) (by decide +kernel)
theorem mv_Srv_sendPending : Cond.instanceMethod md_Srv_sendPending.1 ∈ WA ∧ Cond.selects md_Srv_sendPending.1.cls md_Srv_sendPending.1 md_Srv_sendPending.1 ∈ WA := ⟨wa_3 (List.mem_of_getElem? (i := 166) (by decide +kernel)) (by decide +kernel), wa_3 (List.mem_of_getElem? (i := 167) (by decide +kernel)) (by decide +kernel)⟩
theorem ml_LP_123 : MLk R_LP 123 md_Srv_sendPending 1 := ⟨wa_3 (List.mem_of_getElem? (i := 165) (by decide +kernel)) (by decide +kernel), wn_Srv_sendPending, wk_Srv_sendPending, by decide +kernel⟩
theorem wk_Srv_serves : Cond.code md_Srv_serves.1 md_Srv_serves.2.1 md_Srv_serves.2.2.1 md_Srv_serves.2.2.2 ∈ WA := wa_2 (List.mem_of_getElem? (i := 93) (by decide +kernel)) (by decide +kernel)
theorem wn_Srv_serves : Cond.initialized md_Srv_serves.1.cls ∈ WA := wa_1 (List.mem_of_getElem? (i := 3) (by decide +kernel)) (by decide +kernel)
theorem mv_Srv_serves : Cond.instanceMethod md_Srv_serves.1 ∈ WA ∧ Cond.selects md_Srv_serves.1.cls md_Srv_serves.1 md_Srv_serves.1 ∈ WA := ⟨wa_2 (List.mem_of_getElem? (i := 91) (by decide +kernel)) (by decide +kernel), wa_2 (List.mem_of_getElem? (i := 92) (by decide +kernel)) (by decide +kernel)⟩
theorem ml_LP_127 : MLk R_LP 127 md_Srv_serves 0 := ⟨wa_3 (List.mem_of_getElem? (i := 177) (by decide +kernel)) (by decide +kernel), wn_Srv_serves, wk_Srv_serves, by decide +kernel⟩
theorem wk_Srv_endWhatIsOver : Cond.code md_Srv_endWhatIsOver.1 md_Srv_endWhatIsOver.2.1 md_Srv_endWhatIsOver.2.2.1 md_Srv_endWhatIsOver.2.2.2 ∈ WA := wa_3 (List.mem_of_getElem? (i := 181) (by decide +kernel)) (by decide +kernel)
theorem wn_Srv_endWhatIsOver : Cond.initialized md_Srv_endWhatIsOver.1.cls ∈ WA := wa_1 (List.mem_of_getElem? (i := 3) (by decide +kernel)) (by decide +kernel)
theorem mv_Srv_endWhatIsOver : Cond.instanceMethod md_Srv_endWhatIsOver.1 ∈ WA ∧ Cond.selects md_Srv_endWhatIsOver.1.cls md_Srv_endWhatIsOver.1 md_Srv_endWhatIsOver.1 ∈ WA := ⟨wa_3 (List.mem_of_getElem? (i := 179) (by decide +kernel)) (by decide +kernel), wa_3 (List.mem_of_getElem? (i := 180) (by decide +kernel)) (by decide +kernel)⟩
theorem ml_LP_131 : MLk R_LP 131 md_Srv_endWhatIsOver 1 := ⟨wa_3 (List.mem_of_getElem? (i := 178) (by decide +kernel)) (by decide +kernel), wn_Srv_endWhatIsOver, wk_Srv_endWhatIsOver, by decide +kernel⟩
theorem wk_Srv_handOver : Cond.code md_Srv_handOver.1 md_Srv_handOver.2.1 md_Srv_handOver.2.2.1 md_Srv_handOver.2.2.2 ∈ WA := wa_3 (List.mem_of_getElem? (i := 208) (by decide +kernel)) (by decide +kernel)
theorem wn_Srv_handOver : Cond.initialized md_Srv_handOver.1.cls ∈ WA := wa_1 (List.mem_of_getElem? (i := 3) (by decide +kernel)) (by decide +kernel)
theorem mv_Srv_handOver : Cond.instanceMethod md_Srv_handOver.1 ∈ WA ∧ Cond.selects md_Srv_handOver.1.cls md_Srv_handOver.1 md_Srv_handOver.1 ∈ WA := ⟨wa_3 (List.mem_of_getElem? (i := 206) (by decide +kernel)) (by decide +kernel), wa_3 (List.mem_of_getElem? (i := 207) (by decide +kernel)) (by decide +kernel)⟩
theorem ml_LP_135 : MLk R_LP 135 md_Srv_handOver 1 := ⟨wa_3 (List.mem_of_getElem? (i := 205) (by decide +kernel)) (by decide +kernel), wn_Srv_handOver, wk_Srv_handOver, by decide +kernel⟩
theorem wk_Net_has : Cond.code md_Net_has.1 md_Net_has.2.1 md_Net_has.2.2.1 md_Net_has.2.2.2 ∈ WA := wa_3 (List.mem_of_getElem? (i := 219) (by decide +kernel)) (by decide +kernel)
theorem wn_Net_has : Cond.initialized md_Net_has.1.cls ∈ WA := wa_1 (List.mem_of_getElem? (i := 6) (by decide +kernel)) (by decide +kernel)
theorem mv_Net_has : Cond.instanceMethod md_Net_has.1 ∈ WA ∧ Cond.selects md_Net_has.1.cls md_Net_has.1 md_Net_has.1 ∈ WA := ⟨wa_3 (List.mem_of_getElem? (i := 217) (by decide +kernel)) (by decide +kernel), wa_3 (List.mem_of_getElem? (i := 218) (by decide +kernel)) (by decide +kernel)⟩
theorem ml_LP_138 : MLk R_LP 138 md_Net_has 1 := ⟨wa_3 (List.mem_of_getElem? (i := 216) (by decide +kernel)) (by decide +kernel), wn_Net_has, wk_Net_has, by decide +kernel⟩
theorem wk_Net_at : Cond.code md_Net_at.1 md_Net_at.2.1 md_Net_at.2.2.1 md_Net_at.2.2.2 ∈ WA := wa_2 (List.mem_of_getElem? (i := 160) (by decide +kernel)) (by decide +kernel)
theorem wn_Net_at : Cond.initialized md_Net_at.1.cls ∈ WA := wa_1 (List.mem_of_getElem? (i := 6) (by decide +kernel)) (by decide +kernel)
theorem mv_Net_at : Cond.instanceMethod md_Net_at.1 ∈ WA ∧ Cond.selects md_Net_at.1.cls md_Net_at.1 md_Net_at.1 ∈ WA := ⟨wa_2 (List.mem_of_getElem? (i := 158) (by decide +kernel)) (by decide +kernel), wa_2 (List.mem_of_getElem? (i := 159) (by decide +kernel)) (by decide +kernel)⟩
theorem ml_LP_142 : MLk R_LP 142 md_Net_at 1 := ⟨wa_3 (List.mem_of_getElem? (i := 221) (by decide +kernel)) (by decide +kernel), wn_Net_at, wk_Net_at, by decide +kernel⟩
theorem wk_Msg_copy : Cond.code md_Msg_copy.1 md_Msg_copy.2.1 md_Msg_copy.2.2.1 md_Msg_copy.2.2.2 ∈ WA := wa_3 (List.mem_of_getElem? (i := 225) (by decide +kernel)) (by decide +kernel)
theorem wn_Msg_copy : Cond.initialized md_Msg_copy.1.cls ∈ WA := wa_1 (List.mem_of_getElem? (i := 7) (by decide +kernel)) (by decide +kernel)
theorem mv_Msg_copy : Cond.instanceMethod md_Msg_copy.1 ∈ WA ∧ Cond.selects md_Msg_copy.1.cls md_Msg_copy.1 md_Msg_copy.1 ∈ WA := ⟨wa_3 (List.mem_of_getElem? (i := 223) (by decide +kernel)) (by decide +kernel), wa_3 (List.mem_of_getElem? (i := 224) (by decide +kernel)) (by decide +kernel)⟩
theorem ml_LP_146 : MLk R_LP 146 md_Msg_copy 1 := ⟨wa_3 (List.mem_of_getElem? (i := 222) (by decide +kernel)) (by decide +kernel), wn_Msg_copy, wk_Msg_copy, by decide +kernel⟩
theorem wk_LP_deliver : Cond.code md_LP_deliver.1 md_LP_deliver.2.1 md_LP_deliver.2.2.1 md_LP_deliver.2.2.2 ∈ WA := wa_2 (List.mem_of_getElem? (i := 65) (by decide +kernel)) (by decide +kernel)
theorem wn_LP_deliver : Cond.initialized md_LP_deliver.1.cls ∈ WA := wa_1 (List.mem_of_getElem? (i := 1) (by decide +kernel)) (by decide +kernel)
theorem mv_LP_deliver : Cond.instanceMethod md_LP_deliver.1 ∈ WA ∧ Cond.selects md_LP_deliver.1.cls md_LP_deliver.1 md_LP_deliver.1 ∈ WA := ⟨wa_2 (List.mem_of_getElem? (i := 64) (by decide +kernel)) (by decide +kernel), wa_0 (List.mem_of_getElem? (i := 0) (by decide +kernel)) (by decide +kernel)⟩
theorem ml_LP_150 : MLk R_LP 150 md_LP_deliver 1 := ⟨wa_2 (List.mem_of_getElem? (i := 62) (by decide +kernel)) (by decide +kernel), wn_LP_deliver, wk_LP_deliver, by decide +kernel⟩
theorem wk_Net_takeAll : Cond.code md_Net_takeAll.1 md_Net_takeAll.2.1 md_Net_takeAll.2.2.1 md_Net_takeAll.2.2.2 ∈ WA := wa_2 (List.mem_of_getElem? (i := 57) (by decide +kernel)) (by decide +kernel)
theorem wn_Net_takeAll : Cond.initialized md_Net_takeAll.1.cls ∈ WA := wa_1 (List.mem_of_getElem? (i := 6) (by decide +kernel)) (by decide +kernel)
theorem mv_Net_takeAll : Cond.instanceMethod md_Net_takeAll.1 ∈ WA ∧ Cond.selects md_Net_takeAll.1.cls md_Net_takeAll.1 md_Net_takeAll.1 ∈ WA := ⟨wa_2 (List.mem_of_getElem? (i := 55) (by decide +kernel)) (by decide +kernel), wa_2 (List.mem_of_getElem? (i := 56) (by decide +kernel)) (by decide +kernel)⟩
theorem ml_LP_154 : MLk R_LP 154 md_Net_takeAll 0 := ⟨wa_2 (List.mem_of_getElem? (i := 54) (by decide +kernel)) (by decide +kernel), wn_Net_takeAll, wk_Net_takeAll, by decide +kernel⟩
theorem wk_Net_takenAt : Cond.code md_Net_takenAt.1 md_Net_takenAt.2.1 md_Net_takenAt.2.2.1 md_Net_takenAt.2.2.2 ∈ WA := wa_2 (List.mem_of_getElem? (i := 61) (by decide +kernel)) (by decide +kernel)
theorem wn_Net_takenAt : Cond.initialized md_Net_takenAt.1.cls ∈ WA := wa_1 (List.mem_of_getElem? (i := 6) (by decide +kernel)) (by decide +kernel)
theorem mv_Net_takenAt : Cond.instanceMethod md_Net_takenAt.1 ∈ WA ∧ Cond.selects md_Net_takenAt.1.cls md_Net_takenAt.1 md_Net_takenAt.1 ∈ WA := ⟨wa_2 (List.mem_of_getElem? (i := 59) (by decide +kernel)) (by decide +kernel), wa_2 (List.mem_of_getElem? (i := 60) (by decide +kernel)) (by decide +kernel)⟩
theorem ml_LP_158 : MLk R_LP 158 md_Net_takenAt 1 := ⟨wa_2 (List.mem_of_getElem? (i := 58) (by decide +kernel)) (by decide +kernel), wn_Net_takenAt, wk_Net_takenAt, by decide +kernel⟩
theorem wk_Net_remove : Cond.code md_Net_remove.1 md_Net_remove.2.1 md_Net_remove.2.2.1 md_Net_remove.2.2.2 ∈ WA := wa_3 (List.mem_of_getElem? (i := 236) (by decide +kernel)) (by decide +kernel)
theorem wn_Net_remove : Cond.initialized md_Net_remove.1.cls ∈ WA := wa_1 (List.mem_of_getElem? (i := 6) (by decide +kernel)) (by decide +kernel)
theorem mv_Net_remove : Cond.instanceMethod md_Net_remove.1 ∈ WA ∧ Cond.selects md_Net_remove.1.cls md_Net_remove.1 md_Net_remove.1 ∈ WA := ⟨wa_3 (List.mem_of_getElem? (i := 234) (by decide +kernel)) (by decide +kernel), wa_3 (List.mem_of_getElem? (i := 235) (by decide +kernel)) (by decide +kernel)⟩
theorem ml_LP_161 : MLk R_LP 161 md_Net_remove 1 := ⟨wa_3 (List.mem_of_getElem? (i := 233) (by decide +kernel)) (by decide +kernel), wn_Net_remove, wk_Net_remove, by decide +kernel⟩
theorem wk_Msg_tell : Cond.code md_Msg_tell.1 md_Msg_tell.2.1 md_Msg_tell.2.2.1 md_Msg_tell.2.2.2 ∈ WA := wa_4 (List.mem_of_getElem? (i := 7) (by decide +kernel)) (by decide +kernel)
theorem wn_Msg_tell : Cond.initialized md_Msg_tell.1.cls ∈ WA := wa_1 (List.mem_of_getElem? (i := 7) (by decide +kernel)) (by decide +kernel)
theorem mv_Msg_tell : Cond.instanceMethod md_Msg_tell.1 ∈ WA ∧ Cond.selects md_Msg_tell.1.cls md_Msg_tell.1 md_Msg_tell.1 ∈ WA := ⟨wa_4 (List.mem_of_getElem? (i := 5) (by decide +kernel)) (by decide +kernel), wa_4 (List.mem_of_getElem? (i := 6) (by decide +kernel)) (by decide +kernel)⟩
theorem ml_LP_167 : MLk R_LP 167 md_Msg_tell 1 := ⟨wa_4 (List.mem_of_getElem? (i := 4) (by decide +kernel)) (by decide +kernel), wn_Msg_tell, wk_Msg_tell, by decide +kernel⟩
theorem wk_Cli_holds : Cond.code md_Cli_holds.1 md_Cli_holds.2.1 md_Cli_holds.2.2.1 md_Cli_holds.2.2.2 ∈ WA := wa_2 (List.mem_of_getElem? (i := 85) (by decide +kernel)) (by decide +kernel)
theorem wn_Cli_holds : Cond.initialized md_Cli_holds.1.cls ∈ WA := wa_1 (List.mem_of_getElem? (i := 5) (by decide +kernel)) (by decide +kernel)
theorem mv_Cli_holds : Cond.instanceMethod md_Cli_holds.1 ∈ WA ∧ Cond.selects md_Cli_holds.1.cls md_Cli_holds.1 md_Cli_holds.1 ∈ WA := ⟨wa_2 (List.mem_of_getElem? (i := 83) (by decide +kernel)) (by decide +kernel), wa_2 (List.mem_of_getElem? (i := 84) (by decide +kernel)) (by decide +kernel)⟩
theorem ml_LP_170 : MLk R_LP 170 md_Cli_holds 2 := ⟨wa_2 (List.mem_of_getElem? (i := 82) (by decide +kernel)) (by decide +kernel), wn_Cli_holds, wk_Cli_holds, by decide +kernel⟩
theorem wk_Rec_tell : Cond.code md_Rec_tell.1 md_Rec_tell.2.1 md_Rec_tell.2.2.1 md_Rec_tell.2.2.2 ∈ WA := wa_4 (List.mem_of_getElem? (i := 25) (by decide +kernel)) (by decide +kernel)
theorem wn_Rec_tell : Cond.initialized md_Rec_tell.1.cls ∈ WA := wa_1 (List.mem_of_getElem? (i := 4) (by decide +kernel)) (by decide +kernel)
theorem mv_Rec_tell : Cond.instanceMethod md_Rec_tell.1 ∈ WA ∧ Cond.selects md_Rec_tell.1.cls md_Rec_tell.1 md_Rec_tell.1 ∈ WA := ⟨wa_4 (List.mem_of_getElem? (i := 23) (by decide +kernel)) (by decide +kernel), wa_4 (List.mem_of_getElem? (i := 24) (by decide +kernel)) (by decide +kernel)⟩
theorem ml_LP_182 : MLk R_LP 182 md_Rec_tell 1 := ⟨wa_4 (List.mem_of_getElem? (i := 22) (by decide +kernel)) (by decide +kernel), wn_Rec_tell, wk_Rec_tell, by decide +kernel⟩
theorem wk_Srv_tell : Cond.code md_Srv_tell.1 md_Srv_tell.2.1 md_Srv_tell.2.2.1 md_Srv_tell.2.2.2 ∈ WA := wa_4 (List.mem_of_getElem? (i := 36) (by decide +kernel)) (by decide +kernel)
theorem wn_Srv_tell : Cond.initialized md_Srv_tell.1.cls ∈ WA := wa_1 (List.mem_of_getElem? (i := 3) (by decide +kernel)) (by decide +kernel)
theorem mv_Srv_tell : Cond.instanceMethod md_Srv_tell.1 ∈ WA ∧ Cond.selects md_Srv_tell.1.cls md_Srv_tell.1 md_Srv_tell.1 ∈ WA := ⟨wa_4 (List.mem_of_getElem? (i := 34) (by decide +kernel)) (by decide +kernel), wa_4 (List.mem_of_getElem? (i := 35) (by decide +kernel)) (by decide +kernel)⟩
theorem ml_LP_185 : MLk R_LP 185 md_Srv_tell 2 := ⟨wa_4 (List.mem_of_getElem? (i := 33) (by decide +kernel)) (by decide +kernel), wn_Srv_tell, wk_Srv_tell, by decide +kernel⟩
theorem wk_LP_deliverAnswer : Cond.code md_LP_deliverAnswer.1 md_LP_deliverAnswer.2.1 md_LP_deliverAnswer.2.2.1 md_LP_deliverAnswer.2.2.2 ∈ WA := wa_2 (List.mem_of_getElem? (i := 69) (by decide +kernel)) (by decide +kernel)
theorem wn_LP_deliverAnswer : Cond.initialized md_LP_deliverAnswer.1.cls ∈ WA := wa_1 (List.mem_of_getElem? (i := 1) (by decide +kernel)) (by decide +kernel)
theorem mv_LP_deliverAnswer : Cond.instanceMethod md_LP_deliverAnswer.1 ∈ WA ∧ Cond.selects md_LP_deliverAnswer.1.cls md_LP_deliverAnswer.1 md_LP_deliverAnswer.1 ∈ WA := ⟨wa_2 (List.mem_of_getElem? (i := 68) (by decide +kernel)) (by decide +kernel), wa_0 (List.mem_of_getElem? (i := 1) (by decide +kernel)) (by decide +kernel)⟩
theorem ml_LP_205 : MLk R_LP 205 md_LP_deliverAnswer 1 := ⟨wa_2 (List.mem_of_getElem? (i := 66) (by decide +kernel)) (by decide +kernel), wn_LP_deliverAnswer, wk_LP_deliverAnswer, by decide +kernel⟩
theorem wk_Srv_hears : Cond.code md_Srv_hears.1 md_Srv_hears.2.1 md_Srv_hears.2.2.1 md_Srv_hears.2.2.2 ∈ WA := wa_2 (List.mem_of_getElem? (i := 89) (by decide +kernel)) (by decide +kernel)
theorem wn_Srv_hears : Cond.initialized md_Srv_hears.1.cls ∈ WA := wa_1 (List.mem_of_getElem? (i := 3) (by decide +kernel)) (by decide +kernel)
theorem mv_Srv_hears : Cond.instanceMethod md_Srv_hears.1 ∈ WA ∧ Cond.selects md_Srv_hears.1.cls md_Srv_hears.1 md_Srv_hears.1 ∈ WA := ⟨wa_2 (List.mem_of_getElem? (i := 87) (by decide +kernel)) (by decide +kernel), wa_2 (List.mem_of_getElem? (i := 88) (by decide +kernel)) (by decide +kernel)⟩
theorem ml_LP_211 : MLk R_LP 211 md_Srv_hears 1 := ⟨wa_2 (List.mem_of_getElem? (i := 86) (by decide +kernel)) (by decide +kernel), wn_Srv_hears, wk_Srv_hears, by decide +kernel⟩
theorem wk_Srv_hearRequest : Cond.code md_Srv_hearRequest.1 md_Srv_hearRequest.2.1 md_Srv_hearRequest.2.2.1 md_Srv_hearRequest.2.2.2 ∈ WA := wa_2 (List.mem_of_getElem? (i := 101) (by decide +kernel)) (by decide +kernel)
theorem wn_Srv_hearRequest : Cond.initialized md_Srv_hearRequest.1.cls ∈ WA := wa_1 (List.mem_of_getElem? (i := 3) (by decide +kernel)) (by decide +kernel)
theorem mv_Srv_hearRequest : Cond.instanceMethod md_Srv_hearRequest.1 ∈ WA ∧ Cond.selects md_Srv_hearRequest.1.cls md_Srv_hearRequest.1 md_Srv_hearRequest.1 ∈ WA := ⟨wa_2 (List.mem_of_getElem? (i := 99) (by decide +kernel)) (by decide +kernel), wa_2 (List.mem_of_getElem? (i := 100) (by decide +kernel)) (by decide +kernel)⟩
theorem ml_LP_214 : MLk R_LP 214 md_Srv_hearRequest 3 := ⟨wa_2 (List.mem_of_getElem? (i := 98) (by decide +kernel)) (by decide +kernel), wn_Srv_hearRequest, wk_Srv_hearRequest, by decide +kernel⟩
theorem wk_Srv_hearHello : Cond.code md_Srv_hearHello.1 md_Srv_hearHello.2.1 md_Srv_hearHello.2.2.1 md_Srv_hearHello.2.2.2 ∈ WA := wa_2 (List.mem_of_getElem? (i := 168) (by decide +kernel)) (by decide +kernel)
theorem wn_Srv_hearHello : Cond.initialized md_Srv_hearHello.1.cls ∈ WA := wa_1 (List.mem_of_getElem? (i := 3) (by decide +kernel)) (by decide +kernel)
theorem mv_Srv_hearHello : Cond.instanceMethod md_Srv_hearHello.1 ∈ WA ∧ Cond.selects md_Srv_hearHello.1.cls md_Srv_hearHello.1 md_Srv_hearHello.1 ∈ WA := ⟨wa_2 (List.mem_of_getElem? (i := 166) (by decide +kernel)) (by decide +kernel), wa_2 (List.mem_of_getElem? (i := 167) (by decide +kernel)) (by decide +kernel)⟩
theorem ml_LP_218 : MLk R_LP 218 md_Srv_hearHello 2 := ⟨wa_2 (List.mem_of_getElem? (i := 165) (by decide +kernel)) (by decide +kernel), wn_Srv_hearHello, wk_Srv_hearHello, by decide +kernel⟩
theorem wk_Srv_hearUpdate : Cond.code md_Srv_hearUpdate.1 md_Srv_hearUpdate.2.1 md_Srv_hearUpdate.2.2.1 md_Srv_hearUpdate.2.2.2 ∈ WA := wa_2 (List.mem_of_getElem? (i := 184) (by decide +kernel)) (by decide +kernel)
theorem wn_Srv_hearUpdate : Cond.initialized md_Srv_hearUpdate.1.cls ∈ WA := wa_1 (List.mem_of_getElem? (i := 3) (by decide +kernel)) (by decide +kernel)
theorem mv_Srv_hearUpdate : Cond.instanceMethod md_Srv_hearUpdate.1 ∈ WA ∧ Cond.selects md_Srv_hearUpdate.1.cls md_Srv_hearUpdate.1 md_Srv_hearUpdate.1 ∈ WA := ⟨wa_2 (List.mem_of_getElem? (i := 182) (by decide +kernel)) (by decide +kernel), wa_2 (List.mem_of_getElem? (i := 183) (by decide +kernel)) (by decide +kernel)⟩
theorem ml_LP_222 : MLk R_LP 222 md_Srv_hearUpdate 3 := ⟨wa_2 (List.mem_of_getElem? (i := 181) (by decide +kernel)) (by decide +kernel), wn_Srv_hearUpdate, wk_Srv_hearUpdate, by decide +kernel⟩
theorem wk_Srv_hearAck : Cond.code md_Srv_hearAck.1 md_Srv_hearAck.2.1 md_Srv_hearAck.2.2.1 md_Srv_hearAck.2.2.2 ∈ WA := wa_2 (List.mem_of_getElem? (i := 232) (by decide +kernel)) (by decide +kernel)
theorem wn_Srv_hearAck : Cond.initialized md_Srv_hearAck.1.cls ∈ WA := wa_1 (List.mem_of_getElem? (i := 3) (by decide +kernel)) (by decide +kernel)
theorem mv_Srv_hearAck : Cond.instanceMethod md_Srv_hearAck.1 ∈ WA ∧ Cond.selects md_Srv_hearAck.1.cls md_Srv_hearAck.1 md_Srv_hearAck.1 ∈ WA := ⟨wa_2 (List.mem_of_getElem? (i := 230) (by decide +kernel)) (by decide +kernel), wa_2 (List.mem_of_getElem? (i := 231) (by decide +kernel)) (by decide +kernel)⟩
theorem ml_LP_225 : MLk R_LP 225 md_Srv_hearAck 1 := ⟨wa_2 (List.mem_of_getElem? (i := 229) (by decide +kernel)) (by decide +kernel), wn_Srv_hearAck, wk_Srv_hearAck, by decide +kernel⟩
theorem wk_Cli_awaits : Cond.code md_Cli_awaits.1 md_Cli_awaits.2.1 md_Cli_awaits.2.2.1 md_Cli_awaits.2.2.2 ∈ WA := wa_2 (List.mem_of_getElem? (i := 73) (by decide +kernel)) (by decide +kernel)
theorem wn_Cli_awaits : Cond.initialized md_Cli_awaits.1.cls ∈ WA := wa_1 (List.mem_of_getElem? (i := 5) (by decide +kernel)) (by decide +kernel)
theorem mv_Cli_awaits : Cond.instanceMethod md_Cli_awaits.1 ∈ WA ∧ Cond.selects md_Cli_awaits.1.cls md_Cli_awaits.1 md_Cli_awaits.1 ∈ WA := ⟨wa_2 (List.mem_of_getElem? (i := 71) (by decide +kernel)) (by decide +kernel), wa_2 (List.mem_of_getElem? (i := 72) (by decide +kernel)) (by decide +kernel)⟩
theorem ml_LP_228 : MLk R_LP 228 md_Cli_awaits 1 := ⟨wa_2 (List.mem_of_getElem? (i := 70) (by decide +kernel)) (by decide +kernel), wn_Cli_awaits, wk_Cli_awaits, by decide +kernel⟩
theorem wk_Cli_takeLease : Cond.code md_Cli_takeLease.1 md_Cli_takeLease.2.1 md_Cli_takeLease.2.2.1 md_Cli_takeLease.2.2.2 ∈ WA := wa_2 (List.mem_of_getElem? (i := 77) (by decide +kernel)) (by decide +kernel)
theorem wn_Cli_takeLease : Cond.initialized md_Cli_takeLease.1.cls ∈ WA := wa_1 (List.mem_of_getElem? (i := 5) (by decide +kernel)) (by decide +kernel)
theorem mv_Cli_takeLease : Cond.instanceMethod md_Cli_takeLease.1 ∈ WA ∧ Cond.selects md_Cli_takeLease.1.cls md_Cli_takeLease.1 md_Cli_takeLease.1 ∈ WA := ⟨wa_2 (List.mem_of_getElem? (i := 75) (by decide +kernel)) (by decide +kernel), wa_2 (List.mem_of_getElem? (i := 76) (by decide +kernel)) (by decide +kernel)⟩
theorem ml_LP_231 : MLk R_LP 231 md_Cli_takeLease 2 := ⟨wa_2 (List.mem_of_getElem? (i := 74) (by decide +kernel)) (by decide +kernel), wn_Cli_takeLease, wk_Cli_takeLease, by decide +kernel⟩
theorem wk_LP_countHolders : Cond.code md_LP_countHolders.1 md_LP_countHolders.2.1 md_LP_countHolders.2.2.1 md_LP_countHolders.2.2.2 ∈ WA := wa_2 (List.mem_of_getElem? (i := 81) (by decide +kernel)) (by decide +kernel)
theorem wn_LP_countHolders : Cond.initialized md_LP_countHolders.1.cls ∈ WA := wa_1 (List.mem_of_getElem? (i := 1) (by decide +kernel)) (by decide +kernel)
theorem mv_LP_countHolders : Cond.instanceMethod md_LP_countHolders.1 ∈ WA ∧ Cond.selects md_LP_countHolders.1.cls md_LP_countHolders.1 md_LP_countHolders.1 ∈ WA := ⟨wa_2 (List.mem_of_getElem? (i := 80) (by decide +kernel)) (by decide +kernel), wa_0 (List.mem_of_getElem? (i := 2) (by decide +kernel)) (by decide +kernel)⟩
theorem ml_LP_235 : MLk R_LP 235 md_LP_countHolders 1 := ⟨wa_2 (List.mem_of_getElem? (i := 78) (by decide +kernel)) (by decide +kernel), wn_LP_countHolders, wk_LP_countHolders, by decide +kernel⟩
theorem ml_Cli_21 : MLk R_Cli 21 md_Cli_takeLease 2 := ⟨wa_3 (List.mem_of_getElem? (i := 156) (by decide +kernel)) (by decide +kernel), wn_Cli_takeLease, wk_Cli_takeLease, by decide +kernel⟩
theorem wk_Rec_change : Cond.code md_Rec_change.1 md_Rec_change.2.1 md_Rec_change.2.2.1 md_Rec_change.2.2.2 ∈ WA := wa_2 (List.mem_of_getElem? (i := 117) (by decide +kernel)) (by decide +kernel)
theorem wn_Rec_change : Cond.initialized md_Rec_change.1.cls ∈ WA := wa_1 (List.mem_of_getElem? (i := 4) (by decide +kernel)) (by decide +kernel)
theorem mv_Rec_change : Cond.instanceMethod md_Rec_change.1 ∈ WA ∧ Cond.selects md_Rec_change.1.cls md_Rec_change.1 md_Rec_change.1 ∈ WA := ⟨wa_2 (List.mem_of_getElem? (i := 115) (by decide +kernel)) (by decide +kernel), wa_2 (List.mem_of_getElem? (i := 116) (by decide +kernel)) (by decide +kernel)⟩
theorem ml_Rec_25 : MLk R_Rec 25 md_Rec_change 0 := ⟨wa_2 (List.mem_of_getElem? (i := 114) (by decide +kernel)) (by decide +kernel), wn_Rec_change, wk_Rec_change, by decide +kernel⟩
theorem wk_Rec_bind : Cond.code md_Rec_bind.1 md_Rec_bind.2.1 md_Rec_bind.2.2.1 md_Rec_bind.2.2.2 ∈ WA := wa_2 (List.mem_of_getElem? (i := 143) (by decide +kernel)) (by decide +kernel)
theorem wn_Rec_bind : Cond.initialized md_Rec_bind.1.cls ∈ WA := wa_1 (List.mem_of_getElem? (i := 4) (by decide +kernel)) (by decide +kernel)
theorem mv_Rec_bind : Cond.instanceMethod md_Rec_bind.1 ∈ WA ∧ Cond.selects md_Rec_bind.1.cls md_Rec_bind.1 md_Rec_bind.1 ∈ WA := ⟨wa_2 (List.mem_of_getElem? (i := 141) (by decide +kernel)) (by decide +kernel), wa_2 (List.mem_of_getElem? (i := 142) (by decide +kernel)) (by decide +kernel)⟩
theorem ml_Rec_50 : MLk R_Rec 50 md_Rec_bind 4 := ⟨wa_2 (List.mem_of_getElem? (i := 201) (by decide +kernel)) (by decide +kernel), wn_Rec_bind, wk_Rec_bind, by decide +kernel⟩
theorem wk_Rec_changeTo : Cond.code md_Rec_changeTo.1 md_Rec_changeTo.2.1 md_Rec_changeTo.2.2.1 md_Rec_changeTo.2.2.2 ∈ WA := wa_2 (List.mem_of_getElem? (i := 113) (by decide +kernel)) (by decide +kernel)
theorem wn_Rec_changeTo : Cond.initialized md_Rec_changeTo.1.cls ∈ WA := wa_1 (List.mem_of_getElem? (i := 4) (by decide +kernel)) (by decide +kernel)
theorem mv_Rec_changeTo : Cond.instanceMethod md_Rec_changeTo.1 ∈ WA ∧ Cond.selects md_Rec_changeTo.1.cls md_Rec_changeTo.1 md_Rec_changeTo.1 ∈ WA := ⟨wa_2 (List.mem_of_getElem? (i := 111) (by decide +kernel)) (by decide +kernel), wa_2 (List.mem_of_getElem? (i := 112) (by decide +kernel)) (by decide +kernel)⟩
theorem ml_Rec_60 : MLk R_Rec 60 md_Rec_changeTo 1 := ⟨wa_2 (List.mem_of_getElem? (i := 203) (by decide +kernel)) (by decide +kernel), wn_Rec_changeTo, wk_Rec_changeTo, by decide +kernel⟩
theorem wk_Rec_mayEnd : Cond.code md_Rec_mayEnd.1 md_Rec_mayEnd.2.1 md_Rec_mayEnd.2.2.1 md_Rec_mayEnd.2.2.2 ∈ WA := wa_2 (List.mem_of_getElem? (i := 211) (by decide +kernel)) (by decide +kernel)
theorem wn_Rec_mayEnd : Cond.initialized md_Rec_mayEnd.1.cls ∈ WA := wa_1 (List.mem_of_getElem? (i := 4) (by decide +kernel)) (by decide +kernel)
theorem mv_Rec_mayEnd : Cond.instanceMethod md_Rec_mayEnd.1 ∈ WA ∧ Cond.selects md_Rec_mayEnd.1.cls md_Rec_mayEnd.1 md_Rec_mayEnd.1 ∈ WA := ⟨wa_2 (List.mem_of_getElem? (i := 209) (by decide +kernel)) (by decide +kernel), wa_2 (List.mem_of_getElem? (i := 210) (by decide +kernel)) (by decide +kernel)⟩
theorem ml_Rec_64 : MLk R_Rec 64 md_Rec_mayEnd 3 := ⟨wa_2 (List.mem_of_getElem? (i := 208) (by decide +kernel)) (by decide +kernel), wn_Rec_mayEnd, wk_Rec_mayEnd, by decide +kernel⟩
theorem wk_Rec_settle : Cond.code md_Rec_settle.1 md_Rec_settle.2.1 md_Rec_settle.2.2.1 md_Rec_settle.2.2.2 ∈ WA := wa_2 (List.mem_of_getElem? (i := 196) (by decide +kernel)) (by decide +kernel)
theorem wn_Rec_settle : Cond.initialized md_Rec_settle.1.cls ∈ WA := wa_1 (List.mem_of_getElem? (i := 4) (by decide +kernel)) (by decide +kernel)
theorem mv_Rec_settle : Cond.instanceMethod md_Rec_settle.1 ∈ WA ∧ Cond.selects md_Rec_settle.1.cls md_Rec_settle.1 md_Rec_settle.1 ∈ WA := ⟨wa_2 (List.mem_of_getElem? (i := 194) (by decide +kernel)) (by decide +kernel), wa_2 (List.mem_of_getElem? (i := 195) (by decide +kernel)) (by decide +kernel)⟩
theorem ml_Rec_68 : MLk R_Rec 68 md_Rec_settle 1 := ⟨wa_2 (List.mem_of_getElem? (i := 212) (by decide +kernel)) (by decide +kernel), wn_Rec_settle, wk_Rec_settle, by decide +kernel⟩
theorem ml_Net_35 : MLk R_Net 35 md_Net_at 1 := ⟨wa_2 (List.mem_of_getElem? (i := 157) (by decide +kernel)) (by decide +kernel), wn_Net_at, wk_Net_at, by decide +kernel⟩
theorem wk_Msg_begin : Cond.code md_Msg_begin.1 md_Msg_begin.2.1 md_Msg_begin.2.2.1 md_Msg_begin.2.2.2 ∈ WA := wa_2 (List.mem_of_getElem? (i := 164) (by decide +kernel)) (by decide +kernel)
theorem wn_Msg_begin : Cond.initialized md_Msg_begin.1.cls ∈ WA := wa_1 (List.mem_of_getElem? (i := 7) (by decide +kernel)) (by decide +kernel)
theorem mv_Msg_begin : Cond.instanceMethod md_Msg_begin.1 ∈ WA ∧ Cond.selects md_Msg_begin.1.cls md_Msg_begin.1 md_Msg_begin.1 ∈ WA := ⟨wa_2 (List.mem_of_getElem? (i := 162) (by decide +kernel)) (by decide +kernel), wa_2 (List.mem_of_getElem? (i := 163) (by decide +kernel)) (by decide +kernel)⟩
theorem ml_Net_39 : MLk R_Net 39 md_Msg_begin 3 := ⟨wa_2 (List.mem_of_getElem? (i := 161) (by decide +kernel)) (by decide +kernel), wn_Msg_begin, wk_Msg_begin, by decide +kernel⟩
theorem wk_Rec_init : Cond.code md_Rec_init.1 md_Rec_init.2.1 md_Rec_init.2.2.1 md_Rec_init.2.2.2 ∈ WA := wa_1 (List.mem_of_getElem? (i := 42) (by decide +kernel)) (by decide +kernel)
theorem wn_Rec_init : Cond.initialized md_Rec_init.1.cls ∈ WA := wa_1 (List.mem_of_getElem? (i := 4) (by decide +kernel)) (by decide +kernel)
theorem mo_Rec_init : Cond.instanceMethod md_Rec_init.1 ∈ WA := wa_1 (List.mem_of_getElem? (i := 41) (by decide +kernel)) (by decide +kernel)
theorem ml_Srv_30 : MLk R_Srv 30 md_Rec_init 1 := ⟨wa_1 (List.mem_of_getElem? (i := 40) (by decide +kernel)) (by decide +kernel), wn_Rec_init, wk_Rec_init, by decide +kernel⟩
theorem ml_Srv_45 : MLk R_Srv 45 md_Srv_serves 0 := ⟨wa_2 (List.mem_of_getElem? (i := 90) (by decide +kernel)) (by decide +kernel), wn_Srv_serves, wk_Srv_serves, by decide +kernel⟩
theorem ml_Srv_55 : MLk R_Srv 55 md_Srv_die 0 := ⟨wa_2 (List.mem_of_getElem? (i := 122) (by decide +kernel)) (by decide +kernel), wn_Srv_die, wk_Srv_die, by decide +kernel⟩
theorem wk_Srv_write : Cond.code md_Srv_write.1 md_Srv_write.2.1 md_Srv_write.2.2.1 md_Srv_write.2.2.2 ∈ WA := wa_2 (List.mem_of_getElem? (i := 121) (by decide +kernel)) (by decide +kernel)
theorem wn_Srv_write : Cond.initialized md_Srv_write.1.cls ∈ WA := wa_1 (List.mem_of_getElem? (i := 3) (by decide +kernel)) (by decide +kernel)
theorem mv_Srv_write : Cond.instanceMethod md_Srv_write.1 ∈ WA ∧ Cond.selects md_Srv_write.1.cls md_Srv_write.1 md_Srv_write.1 ∈ WA := ⟨wa_2 (List.mem_of_getElem? (i := 119) (by decide +kernel)) (by decide +kernel), wa_2 (List.mem_of_getElem? (i := 120) (by decide +kernel)) (by decide +kernel)⟩
theorem ml_Srv_65 : MLk R_Srv 65 md_Srv_write 0 := ⟨wa_2 (List.mem_of_getElem? (i := 118) (by decide +kernel)) (by decide +kernel), wn_Srv_write, wk_Srv_write, by decide +kernel⟩
theorem wk_Srv_release : Cond.code md_Srv_release.1 md_Srv_release.2.1 md_Srv_release.2.2.1 md_Srv_release.2.2.2 ∈ WA := wa_2 (List.mem_of_getElem? (i := 105) (by decide +kernel)) (by decide +kernel)
theorem wn_Srv_release : Cond.initialized md_Srv_release.1.cls ∈ WA := wa_1 (List.mem_of_getElem? (i := 3) (by decide +kernel)) (by decide +kernel)
theorem mv_Srv_release : Cond.instanceMethod md_Srv_release.1 ∈ WA ∧ Cond.selects md_Srv_release.1.cls md_Srv_release.1 md_Srv_release.1 ∈ WA := ⟨wa_2 (List.mem_of_getElem? (i := 103) (by decide +kernel)) (by decide +kernel), wa_2 (List.mem_of_getElem? (i := 104) (by decide +kernel)) (by decide +kernel)⟩
theorem ml_Srv_77 : MLk R_Srv 77 md_Srv_release 1 := ⟨wa_2 (List.mem_of_getElem? (i := 102) (by decide +kernel)) (by decide +kernel), wn_Srv_release, wk_Srv_release, by decide +kernel⟩
theorem wk_Srv_leasedTo : Cond.code md_Srv_leasedTo.1 md_Srv_leasedTo.2.1 md_Srv_leasedTo.2.2.1 md_Srv_leasedTo.2.2.2 ∈ WA := wa_2 (List.mem_of_getElem? (i := 129) (by decide +kernel)) (by decide +kernel)
theorem wn_Srv_leasedTo : Cond.initialized md_Srv_leasedTo.1.cls ∈ WA := wa_1 (List.mem_of_getElem? (i := 3) (by decide +kernel)) (by decide +kernel)
theorem mv_Srv_leasedTo : Cond.instanceMethod md_Srv_leasedTo.1 ∈ WA ∧ Cond.selects md_Srv_leasedTo.1.cls md_Srv_leasedTo.1 md_Srv_leasedTo.1 ∈ WA := ⟨wa_2 (List.mem_of_getElem? (i := 127) (by decide +kernel)) (by decide +kernel), wa_2 (List.mem_of_getElem? (i := 128) (by decide +kernel)) (by decide +kernel)⟩
theorem ml_Srv_87 : MLk R_Srv 87 md_Srv_leasedTo 2 := ⟨wa_2 (List.mem_of_getElem? (i := 126) (by decide +kernel)) (by decide +kernel), wn_Srv_leasedTo, wk_Srv_leasedTo, by decide +kernel⟩
theorem wk_Srv_leaseNew : Cond.code md_Srv_leaseNew.1 md_Srv_leaseNew.2.1 md_Srv_leaseNew.2.2.1 md_Srv_leaseNew.2.2.2 ∈ WA := wa_2 (List.mem_of_getElem? (i := 133) (by decide +kernel)) (by decide +kernel)
theorem wn_Srv_leaseNew : Cond.initialized md_Srv_leaseNew.1.cls ∈ WA := wa_1 (List.mem_of_getElem? (i := 3) (by decide +kernel)) (by decide +kernel)
theorem mv_Srv_leaseNew : Cond.instanceMethod md_Srv_leaseNew.1 ∈ WA ∧ Cond.selects md_Srv_leaseNew.1.cls md_Srv_leaseNew.1 md_Srv_leaseNew.1 ∈ WA := ⟨wa_2 (List.mem_of_getElem? (i := 131) (by decide +kernel)) (by decide +kernel), wa_2 (List.mem_of_getElem? (i := 132) (by decide +kernel)) (by decide +kernel)⟩
theorem ml_Srv_91 : MLk R_Srv 91 md_Srv_leaseNew 2 := ⟨wa_2 (List.mem_of_getElem? (i := 130) (by decide +kernel)) (by decide +kernel), wn_Srv_leaseNew, wk_Srv_leaseNew, by decide +kernel⟩
theorem wk_Srv_renew : Cond.code md_Srv_renew.1 md_Srv_renew.2.1 md_Srv_renew.2.2.1 md_Srv_renew.2.2.2 ∈ WA := wa_2 (List.mem_of_getElem? (i := 147) (by decide +kernel)) (by decide +kernel)
theorem wn_Srv_renew : Cond.initialized md_Srv_renew.1.cls ∈ WA := wa_1 (List.mem_of_getElem? (i := 3) (by decide +kernel)) (by decide +kernel)
theorem mv_Srv_renew : Cond.instanceMethod md_Srv_renew.1 ∈ WA ∧ Cond.selects md_Srv_renew.1.cls md_Srv_renew.1 md_Srv_renew.1 ∈ WA := ⟨wa_2 (List.mem_of_getElem? (i := 145) (by decide +kernel)) (by decide +kernel), wa_2 (List.mem_of_getElem? (i := 146) (by decide +kernel)) (by decide +kernel)⟩
theorem ml_Srv_95 : MLk R_Srv 95 md_Srv_renew 3 := ⟨wa_2 (List.mem_of_getElem? (i := 144) (by decide +kernel)) (by decide +kernel), wn_Srv_renew, wk_Srv_renew, by decide +kernel⟩
theorem wk_Srv_answer : Cond.code md_Srv_answer.1 md_Srv_answer.2.1 md_Srv_answer.2.2.1 md_Srv_answer.2.2.2 ∈ WA := wa_2 (List.mem_of_getElem? (i := 152) (by decide +kernel)) (by decide +kernel)
theorem wn_Srv_answer : Cond.initialized md_Srv_answer.1.cls ∈ WA := wa_1 (List.mem_of_getElem? (i := 3) (by decide +kernel)) (by decide +kernel)
theorem mv_Srv_answer : Cond.instanceMethod md_Srv_answer.1 ∈ WA ∧ Cond.selects md_Srv_answer.1.cls md_Srv_answer.1 md_Srv_answer.1 ∈ WA := ⟨wa_2 (List.mem_of_getElem? (i := 150) (by decide +kernel)) (by decide +kernel), wa_2 (List.mem_of_getElem? (i := 151) (by decide +kernel)) (by decide +kernel)⟩
theorem ml_Srv_99 : MLk R_Srv 99 md_Srv_answer 3 := ⟨wa_2 (List.mem_of_getElem? (i := 149) (by decide +kernel)) (by decide +kernel), wn_Srv_answer, wk_Srv_answer, by decide +kernel⟩
theorem wk_Rec_isBoundTo : Cond.code md_Rec_isBoundTo.1 md_Rec_isBoundTo.2.1 md_Rec_isBoundTo.2.2.1 md_Rec_isBoundTo.2.2.2 ∈ WA := wa_2 (List.mem_of_getElem? (i := 109) (by decide +kernel)) (by decide +kernel)
theorem wn_Rec_isBoundTo : Cond.initialized md_Rec_isBoundTo.1.cls ∈ WA := wa_1 (List.mem_of_getElem? (i := 4) (by decide +kernel)) (by decide +kernel)
theorem mv_Rec_isBoundTo : Cond.instanceMethod md_Rec_isBoundTo.1 ∈ WA ∧ Cond.selects md_Rec_isBoundTo.1.cls md_Rec_isBoundTo.1 md_Rec_isBoundTo.1 ∈ WA := ⟨wa_2 (List.mem_of_getElem? (i := 107) (by decide +kernel)) (by decide +kernel), wa_2 (List.mem_of_getElem? (i := 108) (by decide +kernel)) (by decide +kernel)⟩
theorem ml_Srv_103 : MLk R_Srv 103 md_Rec_isBoundTo 1 := ⟨wa_2 (List.mem_of_getElem? (i := 106) (by decide +kernel)) (by decide +kernel), wn_Rec_isBoundTo, wk_Rec_isBoundTo, by decide +kernel⟩
theorem wk_Srv_leastOwn : Cond.code md_Srv_leastOwn.1 md_Srv_leastOwn.2.1 md_Srv_leastOwn.2.2.1 md_Srv_leastOwn.2.2.2 ∈ WA := wa_2 (List.mem_of_getElem? (i := 137) (by decide +kernel)) (by decide +kernel)
theorem wn_Srv_leastOwn : Cond.initialized md_Srv_leastOwn.1.cls ∈ WA := wa_1 (List.mem_of_getElem? (i := 3) (by decide +kernel)) (by decide +kernel)
theorem mv_Srv_leastOwn : Cond.instanceMethod md_Srv_leastOwn.1 ∈ WA ∧ Cond.selects md_Srv_leastOwn.1.cls md_Srv_leastOwn.1 md_Srv_leastOwn.1 ∈ WA := ⟨wa_2 (List.mem_of_getElem? (i := 135) (by decide +kernel)) (by decide +kernel), wa_2 (List.mem_of_getElem? (i := 136) (by decide +kernel)) (by decide +kernel)⟩
theorem ml_Srv_110 : MLk R_Srv 110 md_Srv_leastOwn 0 := ⟨wa_2 (List.mem_of_getElem? (i := 134) (by decide +kernel)) (by decide +kernel), wn_Srv_leastOwn, wk_Srv_leastOwn, by decide +kernel⟩
theorem ml_Srv_122 : MLk R_Srv 122 md_Rec_change 0 := ⟨wa_2 (List.mem_of_getElem? (i := 139) (by decide +kernel)) (by decide +kernel), wn_Rec_change, wk_Rec_change, by decide +kernel⟩
theorem ml_Srv_129 : MLk R_Srv 129 md_Rec_bind 4 := ⟨wa_2 (List.mem_of_getElem? (i := 140) (by decide +kernel)) (by decide +kernel), wn_Rec_bind, wk_Rec_bind, by decide +kernel⟩
theorem ml_Srv_142 : MLk R_Srv 142 md_Net_add 3 := ⟨wa_2 (List.mem_of_getElem? (i := 153) (by decide +kernel)) (by decide +kernel), wn_Net_add, wk_Net_add, by decide +kernel⟩
theorem ml_Srv_151 : MLk R_Srv 151 md_Rec_changeTo 1 := ⟨wa_2 (List.mem_of_getElem? (i := 110) (by decide +kernel)) (by decide +kernel), wn_Rec_changeTo, wk_Rec_changeTo, by decide +kernel⟩
theorem wk_Srv_rejoin : Cond.code md_Srv_rejoin.1 md_Srv_rejoin.2.1 md_Srv_rejoin.2.2.1 md_Srv_rejoin.2.2.2 ∈ WA := wa_2 (List.mem_of_getElem? (i := 172) (by decide +kernel)) (by decide +kernel)
theorem wn_Srv_rejoin : Cond.initialized md_Srv_rejoin.1.cls ∈ WA := wa_1 (List.mem_of_getElem? (i := 3) (by decide +kernel)) (by decide +kernel)
theorem mv_Srv_rejoin : Cond.instanceMethod md_Srv_rejoin.1 ∈ WA ∧ Cond.selects md_Srv_rejoin.1.cls md_Srv_rejoin.1 md_Srv_rejoin.1 ∈ WA := ⟨wa_2 (List.mem_of_getElem? (i := 170) (by decide +kernel)) (by decide +kernel), wa_2 (List.mem_of_getElem? (i := 171) (by decide +kernel)) (by decide +kernel)⟩
theorem ml_Srv_154 : MLk R_Srv 154 md_Srv_rejoin 0 := ⟨wa_2 (List.mem_of_getElem? (i := 169) (by decide +kernel)) (by decide +kernel), wn_Srv_rejoin, wk_Srv_rejoin, by decide +kernel⟩
theorem wk_Srv_sendAll : Cond.code md_Srv_sendAll.1 md_Srv_sendAll.2.1 md_Srv_sendAll.2.2.1 md_Srv_sendAll.2.2.2 ∈ WA := wa_2 (List.mem_of_getElem? (i := 176) (by decide +kernel)) (by decide +kernel)
theorem wn_Srv_sendAll : Cond.initialized md_Srv_sendAll.1.cls ∈ WA := wa_1 (List.mem_of_getElem? (i := 3) (by decide +kernel)) (by decide +kernel)
theorem mv_Srv_sendAll : Cond.instanceMethod md_Srv_sendAll.1 ∈ WA ∧ Cond.selects md_Srv_sendAll.1.cls md_Srv_sendAll.1 md_Srv_sendAll.1 ∈ WA := ⟨wa_2 (List.mem_of_getElem? (i := 174) (by decide +kernel)) (by decide +kernel), wa_2 (List.mem_of_getElem? (i := 175) (by decide +kernel)) (by decide +kernel)⟩
theorem ml_Srv_157 : MLk R_Srv 157 md_Srv_sendAll 1 := ⟨wa_2 (List.mem_of_getElem? (i := 173) (by decide +kernel)) (by decide +kernel), wn_Srv_sendAll, wk_Srv_sendAll, by decide +kernel⟩
theorem wk_Srv_takeIn : Cond.code md_Srv_takeIn.1 md_Srv_takeIn.2.1 md_Srv_takeIn.2.2.1 md_Srv_takeIn.2.2.2 ∈ WA := wa_2 (List.mem_of_getElem? (i := 188) (by decide +kernel)) (by decide +kernel)
theorem wn_Srv_takeIn : Cond.initialized md_Srv_takeIn.1.cls ∈ WA := wa_1 (List.mem_of_getElem? (i := 3) (by decide +kernel)) (by decide +kernel)
theorem mv_Srv_takeIn : Cond.instanceMethod md_Srv_takeIn.1 ∈ WA ∧ Cond.selects md_Srv_takeIn.1.cls md_Srv_takeIn.1 md_Srv_takeIn.1 ∈ WA := ⟨wa_2 (List.mem_of_getElem? (i := 186) (by decide +kernel)) (by decide +kernel), wa_2 (List.mem_of_getElem? (i := 187) (by decide +kernel)) (by decide +kernel)⟩
theorem ml_Srv_169 : MLk R_Srv 169 md_Srv_takeIn 3 := ⟨wa_2 (List.mem_of_getElem? (i := 185) (by decide +kernel)) (by decide +kernel), wn_Srv_takeIn, wk_Srv_takeIn, by decide +kernel⟩
theorem wk_Srv_recover : Cond.code md_Srv_recover.1 md_Srv_recover.2.1 md_Srv_recover.2.2.1 md_Srv_recover.2.2.2 ∈ WA := wa_2 (List.mem_of_getElem? (i := 220) (by decide +kernel)) (by decide +kernel)
theorem wn_Srv_recover : Cond.initialized md_Srv_recover.1.cls ∈ WA := wa_1 (List.mem_of_getElem? (i := 3) (by decide +kernel)) (by decide +kernel)
theorem mv_Srv_recover : Cond.instanceMethod md_Srv_recover.1 ∈ WA ∧ Cond.selects md_Srv_recover.1.cls md_Srv_recover.1 md_Srv_recover.1 ∈ WA := ⟨wa_2 (List.mem_of_getElem? (i := 218) (by decide +kernel)) (by decide +kernel), wa_2 (List.mem_of_getElem? (i := 219) (by decide +kernel)) (by decide +kernel)⟩
theorem ml_Srv_173 : MLk R_Srv 173 md_Srv_recover 0 := ⟨wa_2 (List.mem_of_getElem? (i := 217) (by decide +kernel)) (by decide +kernel), wn_Srv_recover, wk_Srv_recover, by decide +kernel⟩
theorem wk_Srv_acknowledge : Cond.code md_Srv_acknowledge.1 md_Srv_acknowledge.2.1 md_Srv_acknowledge.2.2.1 md_Srv_acknowledge.2.2.2 ∈ WA := wa_2 (List.mem_of_getElem? (i := 228) (by decide +kernel)) (by decide +kernel)
theorem wn_Srv_acknowledge : Cond.initialized md_Srv_acknowledge.1.cls ∈ WA := wa_1 (List.mem_of_getElem? (i := 3) (by decide +kernel)) (by decide +kernel)
theorem mv_Srv_acknowledge : Cond.instanceMethod md_Srv_acknowledge.1 ∈ WA ∧ Cond.selects md_Srv_acknowledge.1.cls md_Srv_acknowledge.1 md_Srv_acknowledge.1 ∈ WA := ⟨wa_2 (List.mem_of_getElem? (i := 226) (by decide +kernel)) (by decide +kernel), wa_2 (List.mem_of_getElem? (i := 227) (by decide +kernel)) (by decide +kernel)⟩
theorem ml_Srv_176 : MLk R_Srv 176 md_Srv_acknowledge 3 := ⟨wa_2 (List.mem_of_getElem? (i := 225) (by decide +kernel)) (by decide +kernel), wn_Srv_acknowledge, wk_Srv_acknowledge, by decide +kernel⟩
theorem wk_Srv_giveWay : Cond.code md_Srv_giveWay.1 md_Srv_giveWay.2.1 md_Srv_giveWay.2.2.1 md_Srv_giveWay.2.2.2 ∈ WA := wa_2 (List.mem_of_getElem? (i := 192) (by decide +kernel)) (by decide +kernel)
theorem wn_Srv_giveWay : Cond.initialized md_Srv_giveWay.1.cls ∈ WA := wa_1 (List.mem_of_getElem? (i := 3) (by decide +kernel)) (by decide +kernel)
theorem mv_Srv_giveWay : Cond.instanceMethod md_Srv_giveWay.1 ∈ WA ∧ Cond.selects md_Srv_giveWay.1.cls md_Srv_giveWay.1 md_Srv_giveWay.1 ∈ WA := ⟨wa_2 (List.mem_of_getElem? (i := 190) (by decide +kernel)) (by decide +kernel), wa_2 (List.mem_of_getElem? (i := 191) (by decide +kernel)) (by decide +kernel)⟩
theorem ml_Srv_180 : MLk R_Srv 180 md_Srv_giveWay 2 := ⟨wa_2 (List.mem_of_getElem? (i := 189) (by decide +kernel)) (by decide +kernel), wn_Srv_giveWay, wk_Srv_giveWay, by decide +kernel⟩
theorem wk_Rec_takeBound : Cond.code md_Rec_takeBound.1 md_Rec_takeBound.2.1 md_Rec_takeBound.2.2.1 md_Rec_takeBound.2.2.2 ∈ WA := wa_2 (List.mem_of_getElem? (i := 200) (by decide +kernel)) (by decide +kernel)
theorem wn_Rec_takeBound : Cond.initialized md_Rec_takeBound.1.cls ∈ WA := wa_1 (List.mem_of_getElem? (i := 4) (by decide +kernel)) (by decide +kernel)
theorem mv_Rec_takeBound : Cond.instanceMethod md_Rec_takeBound.1 ∈ WA ∧ Cond.selects md_Rec_takeBound.1.cls md_Rec_takeBound.1 md_Rec_takeBound.1 ∈ WA := ⟨wa_2 (List.mem_of_getElem? (i := 198) (by decide +kernel)) (by decide +kernel), wa_2 (List.mem_of_getElem? (i := 199) (by decide +kernel)) (by decide +kernel)⟩
theorem ml_Srv_184 : MLk R_Srv 184 md_Rec_takeBound 1 := ⟨wa_2 (List.mem_of_getElem? (i := 197) (by decide +kernel)) (by decide +kernel), wn_Rec_takeBound, wk_Rec_takeBound, by decide +kernel⟩
theorem wk_Rec_takeEnding : Cond.code md_Rec_takeEnding.1 md_Rec_takeEnding.2.1 md_Rec_takeEnding.2.2.1 md_Rec_takeEnding.2.2.2 ∈ WA := wa_2 (List.mem_of_getElem? (i := 207) (by decide +kernel)) (by decide +kernel)
theorem wn_Rec_takeEnding : Cond.initialized md_Rec_takeEnding.1.cls ∈ WA := wa_1 (List.mem_of_getElem? (i := 4) (by decide +kernel)) (by decide +kernel)
theorem mv_Rec_takeEnding : Cond.instanceMethod md_Rec_takeEnding.1 ∈ WA ∧ Cond.selects md_Rec_takeEnding.1.cls md_Rec_takeEnding.1 md_Rec_takeEnding.1 ∈ WA := ⟨wa_2 (List.mem_of_getElem? (i := 205) (by decide +kernel)) (by decide +kernel), wa_2 (List.mem_of_getElem? (i := 206) (by decide +kernel)) (by decide +kernel)⟩
theorem ml_Srv_188 : MLk R_Srv 188 md_Rec_takeEnding 3 := ⟨wa_2 (List.mem_of_getElem? (i := 204) (by decide +kernel)) (by decide +kernel), wn_Rec_takeEnding, wk_Rec_takeEnding, by decide +kernel⟩
theorem wk_Rec_takeGiven : Cond.code md_Rec_takeGiven.1 md_Rec_takeGiven.2.1 md_Rec_takeGiven.2.2.1 md_Rec_takeGiven.2.2.2 ∈ WA := wa_2 (List.mem_of_getElem? (i := 216) (by decide +kernel)) (by decide +kernel)
theorem wn_Rec_takeGiven : Cond.initialized md_Rec_takeGiven.1.cls ∈ WA := wa_1 (List.mem_of_getElem? (i := 4) (by decide +kernel)) (by decide +kernel)
theorem mv_Rec_takeGiven : Cond.instanceMethod md_Rec_takeGiven.1 ∈ WA ∧ Cond.selects md_Rec_takeGiven.1.cls md_Rec_takeGiven.1 md_Rec_takeGiven.1 ∈ WA := ⟨wa_2 (List.mem_of_getElem? (i := 214) (by decide +kernel)) (by decide +kernel), wa_2 (List.mem_of_getElem? (i := 215) (by decide +kernel)) (by decide +kernel)⟩
theorem ml_Srv_192 : MLk R_Srv 192 md_Rec_takeGiven 0 := ⟨wa_2 (List.mem_of_getElem? (i := 213) (by decide +kernel)) (by decide +kernel), wn_Rec_takeGiven, wk_Rec_takeGiven, by decide +kernel⟩
theorem ml_Srv_197 : MLk R_Srv 197 md_Rec_settle 1 := ⟨wa_2 (List.mem_of_getElem? (i := 193) (by decide +kernel)) (by decide +kernel), wn_Rec_settle, wk_Rec_settle, by decide +kernel⟩
theorem wk_Srv_allFresh : Cond.code md_Srv_allFresh.1 md_Srv_allFresh.2.1 md_Srv_allFresh.2.2.1 md_Srv_allFresh.2.2.2 ∈ WA := wa_2 (List.mem_of_getElem? (i := 224) (by decide +kernel)) (by decide +kernel)
theorem wn_Srv_allFresh : Cond.initialized md_Srv_allFresh.1.cls ∈ WA := wa_1 (List.mem_of_getElem? (i := 3) (by decide +kernel)) (by decide +kernel)
theorem mv_Srv_allFresh : Cond.instanceMethod md_Srv_allFresh.1 ∈ WA ∧ Cond.selects md_Srv_allFresh.1.cls md_Srv_allFresh.1 md_Srv_allFresh.1 ∈ WA := ⟨wa_2 (List.mem_of_getElem? (i := 222) (by decide +kernel)) (by decide +kernel), wa_2 (List.mem_of_getElem? (i := 223) (by decide +kernel)) (by decide +kernel)⟩
theorem ml_Srv_200 : MLk R_Srv 200 md_Srv_allFresh 0 := ⟨wa_2 (List.mem_of_getElem? (i := 221) (by decide +kernel)) (by decide +kernel), wn_Srv_allFresh, wk_Srv_allFresh, by decide +kernel⟩
theorem wk_Rec_learnKnown : Cond.code md_Rec_learnKnown.1 md_Rec_learnKnown.2.1 md_Rec_learnKnown.2.2.1 md_Rec_learnKnown.2.2.2 ∈ WA := wa_2 (List.mem_of_getElem? (i := 236) (by decide +kernel)) (by decide +kernel)
theorem wn_Rec_learnKnown : Cond.initialized md_Rec_learnKnown.1.cls ∈ WA := wa_1 (List.mem_of_getElem? (i := 4) (by decide +kernel)) (by decide +kernel)
theorem mv_Rec_learnKnown : Cond.instanceMethod md_Rec_learnKnown.1 ∈ WA ∧ Cond.selects md_Rec_learnKnown.1.cls md_Rec_learnKnown.1 md_Rec_learnKnown.1 ∈ WA := ⟨wa_2 (List.mem_of_getElem? (i := 234) (by decide +kernel)) (by decide +kernel), wa_2 (List.mem_of_getElem? (i := 235) (by decide +kernel)) (by decide +kernel)⟩
theorem ml_Srv_206 : MLk R_Srv 206 md_Rec_learnKnown 1 := ⟨wa_2 (List.mem_of_getElem? (i := 233) (by decide +kernel)) (by decide +kernel), wn_Rec_learnKnown, wk_Rec_learnKnown, by decide +kernel⟩
theorem wk_Rec_learnAcknowledged : Cond.code md_Rec_learnAcknowledged.1 md_Rec_learnAcknowledged.2.1 md_Rec_learnAcknowledged.2.2.1 md_Rec_learnAcknowledged.2.2.2 ∈ WA := wa_3 (List.mem_of_getElem? (i := 0) (by decide +kernel)) (by decide +kernel)
theorem wn_Rec_learnAcknowledged : Cond.initialized md_Rec_learnAcknowledged.1.cls ∈ WA := wa_1 (List.mem_of_getElem? (i := 4) (by decide +kernel)) (by decide +kernel)
theorem mv_Rec_learnAcknowledged : Cond.instanceMethod md_Rec_learnAcknowledged.1 ∈ WA ∧ Cond.selects md_Rec_learnAcknowledged.1.cls md_Rec_learnAcknowledged.1 md_Rec_learnAcknowledged.1 ∈ WA := ⟨wa_2 (List.mem_of_getElem? (i := 238) (by decide +kernel)) (by decide +kernel), wa_2 (List.mem_of_getElem? (i := 239) (by decide +kernel)) (by decide +kernel)⟩
theorem ml_Srv_209 : MLk R_Srv 209 md_Rec_learnAcknowledged 1 := ⟨wa_2 (List.mem_of_getElem? (i := 237) (by decide +kernel)) (by decide +kernel), wn_Rec_learnAcknowledged, wk_Rec_learnAcknowledged, by decide +kernel⟩
theorem wk_Srv_sendUpdate : Cond.code md_Srv_sendUpdate.1 md_Srv_sendUpdate.2.1 md_Srv_sendUpdate.2.2.1 md_Srv_sendUpdate.2.2.2 ∈ WA := wa_2 (List.mem_of_getElem? (i := 180) (by decide +kernel)) (by decide +kernel)
theorem wn_Srv_sendUpdate : Cond.initialized md_Srv_sendUpdate.1.cls ∈ WA := wa_1 (List.mem_of_getElem? (i := 3) (by decide +kernel)) (by decide +kernel)
theorem mv_Srv_sendUpdate : Cond.instanceMethod md_Srv_sendUpdate.1 ∈ WA ∧ Cond.selects md_Srv_sendUpdate.1.cls md_Srv_sendUpdate.1 md_Srv_sendUpdate.1 ∈ WA := ⟨wa_2 (List.mem_of_getElem? (i := 178) (by decide +kernel)) (by decide +kernel), wa_2 (List.mem_of_getElem? (i := 179) (by decide +kernel)) (by decide +kernel)⟩
theorem ml_Srv_218 : MLk R_Srv 218 md_Srv_sendUpdate 2 := ⟨wa_2 (List.mem_of_getElem? (i := 177) (by decide +kernel)) (by decide +kernel), wn_Srv_sendUpdate, wk_Srv_sendUpdate, by decide +kernel⟩
theorem ml_Srv_222 : MLk R_Srv 222 md_Srv_sendHello 1 := ⟨wa_3 (List.mem_of_getElem? (i := 169) (by decide +kernel)) (by decide +kernel), wn_Srv_sendHello, wk_Srv_sendHello, by decide +kernel⟩
theorem wk_Srv_endTogether : Cond.code md_Srv_endTogether.1 md_Srv_endTogether.2.1 md_Srv_endTogether.2.2.1 md_Srv_endTogether.2.2.2 ∈ WA := wa_3 (List.mem_of_getElem? (i := 185) (by decide +kernel)) (by decide +kernel)
theorem wn_Srv_endTogether : Cond.initialized md_Srv_endTogether.1.cls ∈ WA := wa_1 (List.mem_of_getElem? (i := 3) (by decide +kernel)) (by decide +kernel)
theorem mv_Srv_endTogether : Cond.instanceMethod md_Srv_endTogether.1 ∈ WA ∧ Cond.selects md_Srv_endTogether.1.cls md_Srv_endTogether.1 md_Srv_endTogether.1 ∈ WA := ⟨wa_3 (List.mem_of_getElem? (i := 183) (by decide +kernel)) (by decide +kernel), wa_3 (List.mem_of_getElem? (i := 184) (by decide +kernel)) (by decide +kernel)⟩
theorem ml_Srv_228 : MLk R_Srv 228 md_Srv_endTogether 2 := ⟨wa_3 (List.mem_of_getElem? (i := 182) (by decide +kernel)) (by decide +kernel), wn_Srv_endTogether, wk_Srv_endTogether, by decide +kernel⟩
theorem wk_Srv_endAlone : Cond.code md_Srv_endAlone.1 md_Srv_endAlone.2.1 md_Srv_endAlone.2.2.1 md_Srv_endAlone.2.2.2 ∈ WA := wa_3 (List.mem_of_getElem? (i := 189) (by decide +kernel)) (by decide +kernel)
theorem wn_Srv_endAlone : Cond.initialized md_Srv_endAlone.1.cls ∈ WA := wa_1 (List.mem_of_getElem? (i := 3) (by decide +kernel)) (by decide +kernel)
theorem mv_Srv_endAlone : Cond.instanceMethod md_Srv_endAlone.1 ∈ WA ∧ Cond.selects md_Srv_endAlone.1.cls md_Srv_endAlone.1 md_Srv_endAlone.1 ∈ WA := ⟨wa_3 (List.mem_of_getElem? (i := 187) (by decide +kernel)) (by decide +kernel), wa_3 (List.mem_of_getElem? (i := 188) (by decide +kernel)) (by decide +kernel)⟩
theorem ml_Srv_232 : MLk R_Srv 232 md_Srv_endAlone 2 := ⟨wa_3 (List.mem_of_getElem? (i := 186) (by decide +kernel)) (by decide +kernel), wn_Srv_endAlone, wk_Srv_endAlone, by decide +kernel⟩
theorem wk_Srv_endSole : Cond.code md_Srv_endSole.1 md_Srv_endSole.2.1 md_Srv_endSole.2.2.1 md_Srv_endSole.2.2.2 ∈ WA := wa_3 (List.mem_of_getElem? (i := 193) (by decide +kernel)) (by decide +kernel)
theorem wn_Srv_endSole : Cond.initialized md_Srv_endSole.1.cls ∈ WA := wa_1 (List.mem_of_getElem? (i := 3) (by decide +kernel)) (by decide +kernel)
theorem mv_Srv_endSole : Cond.instanceMethod md_Srv_endSole.1 ∈ WA ∧ Cond.selects md_Srv_endSole.1.cls md_Srv_endSole.1 md_Srv_endSole.1 ∈ WA := ⟨wa_3 (List.mem_of_getElem? (i := 191) (by decide +kernel)) (by decide +kernel), wa_3 (List.mem_of_getElem? (i := 192) (by decide +kernel)) (by decide +kernel)⟩
theorem ml_Srv_235 : MLk R_Srv 235 md_Srv_endSole 2 := ⟨wa_3 (List.mem_of_getElem? (i := 190) (by decide +kernel)) (by decide +kernel), wn_Srv_endSole, wk_Srv_endSole, by decide +kernel⟩
theorem wk_Srv_takeOver : Cond.code md_Srv_takeOver.1 md_Srv_takeOver.2.1 md_Srv_takeOver.2.2.1 md_Srv_takeOver.2.2.2 ∈ WA := wa_3 (List.mem_of_getElem? (i := 197) (by decide +kernel)) (by decide +kernel)
theorem wn_Srv_takeOver : Cond.initialized md_Srv_takeOver.1.cls ∈ WA := wa_1 (List.mem_of_getElem? (i := 3) (by decide +kernel)) (by decide +kernel)
theorem mv_Srv_takeOver : Cond.instanceMethod md_Srv_takeOver.1 ∈ WA ∧ Cond.selects md_Srv_takeOver.1.cls md_Srv_takeOver.1 md_Srv_takeOver.1 ∈ WA := ⟨wa_3 (List.mem_of_getElem? (i := 195) (by decide +kernel)) (by decide +kernel), wa_3 (List.mem_of_getElem? (i := 196) (by decide +kernel)) (by decide +kernel)⟩
theorem ml_Srv_238 : MLk R_Srv 238 md_Srv_takeOver 2 := ⟨wa_3 (List.mem_of_getElem? (i := 194) (by decide +kernel)) (by decide +kernel), wn_Srv_takeOver, wk_Srv_takeOver, by decide +kernel⟩
theorem wk_Srv_countOwn : Cond.code md_Srv_countOwn.1 md_Srv_countOwn.2.1 md_Srv_countOwn.2.2.1 md_Srv_countOwn.2.2.2 ∈ WA := wa_4 (List.mem_of_getElem? (i := 40) (by decide +kernel)) (by decide +kernel)
theorem wn_Srv_countOwn : Cond.initialized md_Srv_countOwn.1.cls ∈ WA := wa_1 (List.mem_of_getElem? (i := 3) (by decide +kernel)) (by decide +kernel)
theorem mv_Srv_countOwn : Cond.instanceMethod md_Srv_countOwn.1 ∈ WA ∧ Cond.selects md_Srv_countOwn.1.cls md_Srv_countOwn.1 md_Srv_countOwn.1 ∈ WA := ⟨wa_4 (List.mem_of_getElem? (i := 38) (by decide +kernel)) (by decide +kernel), wa_4 (List.mem_of_getElem? (i := 39) (by decide +kernel)) (by decide +kernel)⟩
theorem ml_Srv_241 : MLk R_Srv 241 md_Srv_countOwn 0 := ⟨wa_4 (List.mem_of_getElem? (i := 37) (by decide +kernel)) (by decide +kernel), wn_Srv_countOwn, wk_Srv_countOwn, by decide +kernel⟩
theorem wk_Srv_countPending : Cond.code md_Srv_countPending.1 md_Srv_countPending.2.1 md_Srv_countPending.2.2.1 md_Srv_countPending.2.2.2 ∈ WA := wa_4 (List.mem_of_getElem? (i := 44) (by decide +kernel)) (by decide +kernel)
theorem wn_Srv_countPending : Cond.initialized md_Srv_countPending.1.cls ∈ WA := wa_1 (List.mem_of_getElem? (i := 3) (by decide +kernel)) (by decide +kernel)
theorem mv_Srv_countPending : Cond.instanceMethod md_Srv_countPending.1 ∈ WA ∧ Cond.selects md_Srv_countPending.1.cls md_Srv_countPending.1 md_Srv_countPending.1 ∈ WA := ⟨wa_4 (List.mem_of_getElem? (i := 42) (by decide +kernel)) (by decide +kernel), wa_4 (List.mem_of_getElem? (i := 43) (by decide +kernel)) (by decide +kernel)⟩
theorem ml_Srv_244 : MLk R_Srv 244 md_Srv_countPending 0 := ⟨wa_4 (List.mem_of_getElem? (i := 41) (by decide +kernel)) (by decide +kernel), wn_Srv_countPending, wk_Srv_countPending, by decide +kernel⟩
theorem wk_LP_seconds : Cond.code md_LP_seconds.1 md_LP_seconds.2.1 md_LP_seconds.2.2.1 md_LP_seconds.2.2.2 ∈ WA := wa_3 (List.mem_of_getElem? (i := 19) (by decide +kernel)) (by decide +kernel)
theorem wn_LP_seconds : Cond.initialized md_LP_seconds.1.cls ∈ WA := wa_1 (List.mem_of_getElem? (i := 1) (by decide +kernel)) (by decide +kernel)
theorem mv_LP_seconds : Cond.instanceMethod md_LP_seconds.1 ∈ WA ∧ Cond.selects md_LP_seconds.1.cls md_LP_seconds.1 md_LP_seconds.1 ∈ WA := ⟨wa_3 (List.mem_of_getElem? (i := 17) (by decide +kernel)) (by decide +kernel), wa_3 (List.mem_of_getElem? (i := 18) (by decide +kernel)) (by decide +kernel)⟩
theorem ml_Law_7 : MLk R_Law 7 md_LP_seconds 1 := ⟨wa_3 (List.mem_of_getElem? (i := 16) (by decide +kernel)) (by decide +kernel), wn_LP_seconds, wk_LP_seconds, by decide +kernel⟩
theorem wk_LP_skew : Cond.code md_LP_skew.1 md_LP_skew.2.1 md_LP_skew.2.2.1 md_LP_skew.2.2.2 ∈ WA := wa_3 (List.mem_of_getElem? (i := 95) (by decide +kernel)) (by decide +kernel)
theorem wn_LP_skew : Cond.initialized md_LP_skew.1.cls ∈ WA := wa_1 (List.mem_of_getElem? (i := 1) (by decide +kernel)) (by decide +kernel)
theorem mv_LP_skew : Cond.instanceMethod md_LP_skew.1 ∈ WA ∧ Cond.selects md_LP_skew.1.cls md_LP_skew.1 md_LP_skew.1 ∈ WA := ⟨wa_3 (List.mem_of_getElem? (i := 93) (by decide +kernel)) (by decide +kernel), wa_3 (List.mem_of_getElem? (i := 94) (by decide +kernel)) (by decide +kernel)⟩
theorem ml_Law_15 : MLk R_Law 15 md_LP_skew 2 := ⟨wa_3 (List.mem_of_getElem? (i := 92) (by decide +kernel)) (by decide +kernel), wn_LP_skew, wk_LP_skew, by decide +kernel⟩
theorem wk_LP_kill : Cond.code md_LP_kill.1 md_LP_kill.2.1 md_LP_kill.2.2.1 md_LP_kill.2.2.2 ∈ WA := wa_3 (List.mem_of_getElem? (i := 106) (by decide +kernel)) (by decide +kernel)
theorem wn_LP_kill : Cond.initialized md_LP_kill.1.cls ∈ WA := wa_1 (List.mem_of_getElem? (i := 1) (by decide +kernel)) (by decide +kernel)
theorem mv_LP_kill : Cond.instanceMethod md_LP_kill.1 ∈ WA ∧ Cond.selects md_LP_kill.1.cls md_LP_kill.1 md_LP_kill.1 ∈ WA := ⟨wa_3 (List.mem_of_getElem? (i := 104) (by decide +kernel)) (by decide +kernel), wa_3 (List.mem_of_getElem? (i := 105) (by decide +kernel)) (by decide +kernel)⟩
theorem ml_Law_19 : MLk R_Law 19 md_LP_kill 1 := ⟨wa_3 (List.mem_of_getElem? (i := 103) (by decide +kernel)) (by decide +kernel), wn_LP_kill, wk_LP_kill, by decide +kernel⟩
theorem wk_LP_fuse : Cond.code md_LP_fuse.1 md_LP_fuse.2.1 md_LP_fuse.2.2.1 md_LP_fuse.2.2.2 ∈ WA := wa_3 (List.mem_of_getElem? (i := 114) (by decide +kernel)) (by decide +kernel)
theorem wn_LP_fuse : Cond.initialized md_LP_fuse.1.cls ∈ WA := wa_1 (List.mem_of_getElem? (i := 1) (by decide +kernel)) (by decide +kernel)
theorem mv_LP_fuse : Cond.instanceMethod md_LP_fuse.1 ∈ WA ∧ Cond.selects md_LP_fuse.1.cls md_LP_fuse.1 md_LP_fuse.1 ∈ WA := ⟨wa_3 (List.mem_of_getElem? (i := 112) (by decide +kernel)) (by decide +kernel), wa_3 (List.mem_of_getElem? (i := 113) (by decide +kernel)) (by decide +kernel)⟩
theorem ml_Law_23 : MLk R_Law 23 md_LP_fuse 2 := ⟨wa_3 (List.mem_of_getElem? (i := 111) (by decide +kernel)) (by decide +kernel), wn_LP_fuse, wk_LP_fuse, by decide +kernel⟩
theorem wk_LP_start : Cond.code md_LP_start.1 md_LP_start.2.1 md_LP_start.2.2.1 md_LP_start.2.2.2 ∈ WA := wa_3 (List.mem_of_getElem? (i := 121) (by decide +kernel)) (by decide +kernel)
theorem wn_LP_start : Cond.initialized md_LP_start.1.cls ∈ WA := wa_1 (List.mem_of_getElem? (i := 1) (by decide +kernel)) (by decide +kernel)
theorem mv_LP_start : Cond.instanceMethod md_LP_start.1 ∈ WA ∧ Cond.selects md_LP_start.1.cls md_LP_start.1 md_LP_start.1 ∈ WA := ⟨wa_3 (List.mem_of_getElem? (i := 119) (by decide +kernel)) (by decide +kernel), wa_3 (List.mem_of_getElem? (i := 120) (by decide +kernel)) (by decide +kernel)⟩
theorem ml_Law_27 : MLk R_Law 27 md_LP_start 1 := ⟨wa_3 (List.mem_of_getElem? (i := 118) (by decide +kernel)) (by decide +kernel), wn_LP_start, wk_LP_start, by decide +kernel⟩
theorem wk_LP_partnerDown : Cond.code md_LP_partnerDown.1 md_LP_partnerDown.2.1 md_LP_partnerDown.2.2.1 md_LP_partnerDown.2.2.2 ∈ WA := wa_3 (List.mem_of_getElem? (i := 136) (by decide +kernel)) (by decide +kernel)
theorem wn_LP_partnerDown : Cond.initialized md_LP_partnerDown.1.cls ∈ WA := wa_1 (List.mem_of_getElem? (i := 1) (by decide +kernel)) (by decide +kernel)
theorem mv_LP_partnerDown : Cond.instanceMethod md_LP_partnerDown.1 ∈ WA ∧ Cond.selects md_LP_partnerDown.1.cls md_LP_partnerDown.1 md_LP_partnerDown.1 ∈ WA := ⟨wa_3 (List.mem_of_getElem? (i := 134) (by decide +kernel)) (by decide +kernel), wa_3 (List.mem_of_getElem? (i := 135) (by decide +kernel)) (by decide +kernel)⟩
theorem ml_Law_30 : MLk R_Law 30 md_LP_partnerDown 1 := ⟨wa_3 (List.mem_of_getElem? (i := 133) (by decide +kernel)) (by decide +kernel), wn_LP_partnerDown, wk_LP_partnerDown, by decide +kernel⟩
theorem wk_LP_ask : Cond.code md_LP_ask.1 md_LP_ask.2.1 md_LP_ask.2.2.1 md_LP_ask.2.2.2 ∈ WA := wa_3 (List.mem_of_getElem? (i := 147) (by decide +kernel)) (by decide +kernel)
theorem wn_LP_ask : Cond.initialized md_LP_ask.1.cls ∈ WA := wa_1 (List.mem_of_getElem? (i := 1) (by decide +kernel)) (by decide +kernel)
theorem mv_LP_ask : Cond.instanceMethod md_LP_ask.1 ∈ WA ∧ Cond.selects md_LP_ask.1.cls md_LP_ask.1 md_LP_ask.1 ∈ WA := ⟨wa_3 (List.mem_of_getElem? (i := 145) (by decide +kernel)) (by decide +kernel), wa_3 (List.mem_of_getElem? (i := 146) (by decide +kernel)) (by decide +kernel)⟩
theorem ml_Law_33 : MLk R_Law 33 md_LP_ask 5 := ⟨wa_3 (List.mem_of_getElem? (i := 144) (by decide +kernel)) (by decide +kernel), wn_LP_ask, wk_LP_ask, by decide +kernel⟩
theorem wk_LP_send : Cond.code md_LP_send.1 md_LP_send.2.1 md_LP_send.2.2.1 md_LP_send.2.2.2 ∈ WA := wa_3 (List.mem_of_getElem? (i := 164) (by decide +kernel)) (by decide +kernel)
theorem wn_LP_send : Cond.initialized md_LP_send.1.cls ∈ WA := wa_1 (List.mem_of_getElem? (i := 1) (by decide +kernel)) (by decide +kernel)
theorem mv_LP_send : Cond.instanceMethod md_LP_send.1 ∈ WA ∧ Cond.selects md_LP_send.1.cls md_LP_send.1 md_LP_send.1 ∈ WA := ⟨wa_3 (List.mem_of_getElem? (i := 162) (by decide +kernel)) (by decide +kernel), wa_3 (List.mem_of_getElem? (i := 163) (by decide +kernel)) (by decide +kernel)⟩
theorem ml_Law_37 : MLk R_Law 37 md_LP_send 1 := ⟨wa_3 (List.mem_of_getElem? (i := 161) (by decide +kernel)) (by decide +kernel), wn_LP_send, wk_LP_send, by decide +kernel⟩
theorem wk_LP_tidy : Cond.code md_LP_tidy.1 md_LP_tidy.2.1 md_LP_tidy.2.2.1 md_LP_tidy.2.2.2 ∈ WA := wa_3 (List.mem_of_getElem? (i := 176) (by decide +kernel)) (by decide +kernel)
theorem wn_LP_tidy : Cond.initialized md_LP_tidy.1.cls ∈ WA := wa_1 (List.mem_of_getElem? (i := 1) (by decide +kernel)) (by decide +kernel)
theorem mv_LP_tidy : Cond.instanceMethod md_LP_tidy.1 ∈ WA ∧ Cond.selects md_LP_tidy.1.cls md_LP_tidy.1 md_LP_tidy.1 ∈ WA := ⟨wa_3 (List.mem_of_getElem? (i := 174) (by decide +kernel)) (by decide +kernel), wa_3 (List.mem_of_getElem? (i := 175) (by decide +kernel)) (by decide +kernel)⟩
theorem ml_Law_40 : MLk R_Law 40 md_LP_tidy 1 := ⟨wa_3 (List.mem_of_getElem? (i := 173) (by decide +kernel)) (by decide +kernel), wn_LP_tidy, wk_LP_tidy, by decide +kernel⟩
theorem wk_LP_give : Cond.code md_LP_give.1 md_LP_give.2.1 md_LP_give.2.2.1 md_LP_give.2.2.2 ∈ WA := wa_3 (List.mem_of_getElem? (i := 204) (by decide +kernel)) (by decide +kernel)
theorem wn_LP_give : Cond.initialized md_LP_give.1.cls ∈ WA := wa_1 (List.mem_of_getElem? (i := 1) (by decide +kernel)) (by decide +kernel)
theorem mv_LP_give : Cond.instanceMethod md_LP_give.1 ∈ WA ∧ Cond.selects md_LP_give.1.cls md_LP_give.1 md_LP_give.1 ∈ WA := ⟨wa_3 (List.mem_of_getElem? (i := 202) (by decide +kernel)) (by decide +kernel), wa_3 (List.mem_of_getElem? (i := 203) (by decide +kernel)) (by decide +kernel)⟩
theorem ml_Law_43 : MLk R_Law 43 md_LP_give 2 := ⟨wa_3 (List.mem_of_getElem? (i := 201) (by decide +kernel)) (by decide +kernel), wn_LP_give, wk_LP_give, by decide +kernel⟩
theorem wk_LP_carry : Cond.code md_LP_carry.1 md_LP_carry.2.1 md_LP_carry.2.2.1 md_LP_carry.2.2.2 ∈ WA := wa_3 (List.mem_of_getElem? (i := 215) (by decide +kernel)) (by decide +kernel)
theorem wn_LP_carry : Cond.initialized md_LP_carry.1.cls ∈ WA := wa_1 (List.mem_of_getElem? (i := 1) (by decide +kernel)) (by decide +kernel)
theorem mv_LP_carry : Cond.instanceMethod md_LP_carry.1 ∈ WA ∧ Cond.selects md_LP_carry.1.cls md_LP_carry.1 md_LP_carry.1 ∈ WA := ⟨wa_3 (List.mem_of_getElem? (i := 213) (by decide +kernel)) (by decide +kernel), wa_3 (List.mem_of_getElem? (i := 214) (by decide +kernel)) (by decide +kernel)⟩
theorem ml_Law_46 : MLk R_Law 46 md_LP_carry 1 := ⟨wa_3 (List.mem_of_getElem? (i := 212) (by decide +kernel)) (by decide +kernel), wn_LP_carry, wk_LP_carry, by decide +kernel⟩
theorem wk_LP_drop : Cond.code md_LP_drop.1 md_LP_drop.2.1 md_LP_drop.2.2.1 md_LP_drop.2.2.2 ∈ WA := wa_3 (List.mem_of_getElem? (i := 232) (by decide +kernel)) (by decide +kernel)
theorem wn_LP_drop : Cond.initialized md_LP_drop.1.cls ∈ WA := wa_1 (List.mem_of_getElem? (i := 1) (by decide +kernel)) (by decide +kernel)
theorem mv_LP_drop : Cond.instanceMethod md_LP_drop.1 ∈ WA ∧ Cond.selects md_LP_drop.1.cls md_LP_drop.1 md_LP_drop.1 ∈ WA := ⟨wa_3 (List.mem_of_getElem? (i := 230) (by decide +kernel)) (by decide +kernel), wa_3 (List.mem_of_getElem? (i := 231) (by decide +kernel)) (by decide +kernel)⟩
theorem ml_Law_49 : MLk R_Law 49 md_LP_drop 1 := ⟨wa_3 (List.mem_of_getElem? (i := 229) (by decide +kernel)) (by decide +kernel), wn_LP_drop, wk_LP_drop, by decide +kernel⟩
theorem wk_LP_message : Cond.code md_LP_message.1 md_LP_message.2.1 md_LP_message.2.2.1 md_LP_message.2.2.2 ∈ WA := wa_4 (List.mem_of_getElem? (i := 3) (by decide +kernel)) (by decide +kernel)
theorem wn_LP_message : Cond.initialized md_LP_message.1.cls ∈ WA := wa_1 (List.mem_of_getElem? (i := 1) (by decide +kernel)) (by decide +kernel)
theorem mv_LP_message : Cond.instanceMethod md_LP_message.1 ∈ WA ∧ Cond.selects md_LP_message.1.cls md_LP_message.1 md_LP_message.1 ∈ WA := ⟨wa_4 (List.mem_of_getElem? (i := 1) (by decide +kernel)) (by decide +kernel), wa_4 (List.mem_of_getElem? (i := 2) (by decide +kernel)) (by decide +kernel)⟩
theorem ml_Law_52 : MLk R_Law 52 md_LP_message 2 := ⟨wa_4 (List.mem_of_getElem? (i := 0) (by decide +kernel)) (by decide +kernel), wn_LP_message, wk_LP_message, by decide +kernel⟩
theorem wk_LP_client : Cond.code md_LP_client.1 md_LP_client.2.1 md_LP_client.2.2.1 md_LP_client.2.2.2 ∈ WA := wa_4 (List.mem_of_getElem? (i := 14) (by decide +kernel)) (by decide +kernel)
theorem wn_LP_client : Cond.initialized md_LP_client.1.cls ∈ WA := wa_1 (List.mem_of_getElem? (i := 1) (by decide +kernel)) (by decide +kernel)
theorem mv_LP_client : Cond.instanceMethod md_LP_client.1 ∈ WA ∧ Cond.selects md_LP_client.1.cls md_LP_client.1 md_LP_client.1 ∈ WA := ⟨wa_4 (List.mem_of_getElem? (i := 12) (by decide +kernel)) (by decide +kernel), wa_4 (List.mem_of_getElem? (i := 13) (by decide +kernel)) (by decide +kernel)⟩
theorem ml_Law_55 : MLk R_Law 55 md_LP_client 2 := ⟨wa_4 (List.mem_of_getElem? (i := 11) (by decide +kernel)) (by decide +kernel), wn_LP_client, wk_LP_client, by decide +kernel⟩
theorem wk_LP_record : Cond.code md_LP_record.1 md_LP_record.2.1 md_LP_record.2.2.1 md_LP_record.2.2.2 ∈ WA := wa_4 (List.mem_of_getElem? (i := 21) (by decide +kernel)) (by decide +kernel)
theorem wn_LP_record : Cond.initialized md_LP_record.1.cls ∈ WA := wa_1 (List.mem_of_getElem? (i := 1) (by decide +kernel)) (by decide +kernel)
theorem mv_LP_record : Cond.instanceMethod md_LP_record.1 ∈ WA ∧ Cond.selects md_LP_record.1.cls md_LP_record.1 md_LP_record.1 ∈ WA := ⟨wa_4 (List.mem_of_getElem? (i := 19) (by decide +kernel)) (by decide +kernel), wa_4 (List.mem_of_getElem? (i := 20) (by decide +kernel)) (by decide +kernel)⟩
theorem ml_Law_58 : MLk R_Law 58 md_LP_record 3 := ⟨wa_4 (List.mem_of_getElem? (i := 18) (by decide +kernel)) (by decide +kernel), wn_LP_record, wk_LP_record, by decide +kernel⟩
theorem wk_LP_server : Cond.code md_LP_server.1 md_LP_server.2.1 md_LP_server.2.2.1 md_LP_server.2.2.2 ∈ WA := wa_4 (List.mem_of_getElem? (i := 32) (by decide +kernel)) (by decide +kernel)
theorem wn_LP_server : Cond.initialized md_LP_server.1.cls ∈ WA := wa_1 (List.mem_of_getElem? (i := 1) (by decide +kernel)) (by decide +kernel)
theorem mv_LP_server : Cond.instanceMethod md_LP_server.1 ∈ WA ∧ Cond.selects md_LP_server.1.cls md_LP_server.1 md_LP_server.1 ∈ WA := ⟨wa_4 (List.mem_of_getElem? (i := 30) (by decide +kernel)) (by decide +kernel), wa_4 (List.mem_of_getElem? (i := 31) (by decide +kernel)) (by decide +kernel)⟩
theorem ml_Law_62 : MLk R_Law 62 md_LP_server 2 := ⟨wa_4 (List.mem_of_getElem? (i := 29) (by decide +kernel)) (by decide +kernel), wn_LP_server, wk_LP_server, by decide +kernel⟩
theorem wk_Law_cell : Cond.code md_Law_cell.1 md_Law_cell.2.1 md_Law_cell.2.2.1 md_Law_cell.2.2.2 ∈ WA := wa_3 (List.mem_of_getElem? (i := 11) (by decide +kernel)) (by decide +kernel)
theorem wn_Law_cell : Cond.initialized md_Law_cell.1.cls ∈ WA := wa_1 (List.mem_of_getElem? (i := 0) (by decide +kernel)) (by decide +kernel)
theorem ms_Law_cell : Cond.static md_Law_cell.1 ∈ WA := wa_3 (List.mem_of_getElem? (i := 10) (by decide +kernel)) (by decide +kernel)
theorem ml_Law_65 : MLk R_Law 65 md_Law_cell 2 := ⟨wa_3 (List.mem_of_getElem? (i := 9) (by decide +kernel)) (by decide +kernel), wn_Law_cell, wk_Law_cell, by decide +kernel⟩
theorem wk_LP_init : Cond.code md_LP_init.1 md_LP_init.2.1 md_LP_init.2.2.1 md_LP_init.2.2.2 ∈ WA := wa_1 (List.mem_of_getElem? (i := 17) (by decide +kernel)) (by decide +kernel)
theorem wn_LP_init : Cond.initialized md_LP_init.1.cls ∈ WA := wa_1 (List.mem_of_getElem? (i := 1) (by decide +kernel)) (by decide +kernel)
theorem mo_LP_init : Cond.instanceMethod md_LP_init.1 ∈ WA := wa_1 (List.mem_of_getElem? (i := 16) (by decide +kernel)) (by decide +kernel)
theorem ml_Law_71 : MLk R_Law 71 md_LP_init 3 := ⟨wa_1 (List.mem_of_getElem? (i := 15) (by decide +kernel)) (by decide +kernel), wn_LP_init, wk_LP_init, by decide +kernel⟩
theorem wk_Mod_init : Cond.code md_Mod_init.1 md_Mod_init.2.1 md_Mod_init.2.2.1 md_Mod_init.2.2.2 ∈ WA := wa_4 (List.mem_of_getElem? (i := 49) (by decide +kernel)) (by decide +kernel)
theorem wn_Mod_init : Cond.initialized md_Mod_init.1.cls ∈ WA := wa_1 (List.mem_of_getElem? (i := 8) (by decide +kernel)) (by decide +kernel)
theorem mo_Mod_init : Cond.instanceMethod md_Mod_init.1 ∈ WA := wa_4 (List.mem_of_getElem? (i := 48) (by decide +kernel)) (by decide +kernel)
theorem ml_Law_76 : MLk R_Law 76 md_Mod_init 3 := ⟨wa_4 (List.mem_of_getElem? (i := 47) (by decide +kernel)) (by decide +kernel), wn_Mod_init, wk_Mod_init, by decide +kernel⟩
theorem wk_Mod_seconds : Cond.code md_Mod_seconds.1 md_Mod_seconds.2.1 md_Mod_seconds.2.2.1 md_Mod_seconds.2.2.2 ∈ WA := wa_4 (List.mem_of_getElem? (i := 169) (by decide +kernel)) (by decide +kernel)
theorem wn_Mod_seconds : Cond.initialized md_Mod_seconds.1.cls ∈ WA := wa_1 (List.mem_of_getElem? (i := 8) (by decide +kernel)) (by decide +kernel)
theorem mv_Mod_seconds : Cond.instanceMethod md_Mod_seconds.1 ∈ WA ∧ Cond.selects md_Mod_seconds.1.cls md_Mod_seconds.1 md_Mod_seconds.1 ∈ WA := ⟨wa_4 (List.mem_of_getElem? (i := 167) (by decide +kernel)) (by decide +kernel), wa_4 (List.mem_of_getElem? (i := 168) (by decide +kernel)) (by decide +kernel)⟩
theorem ml_Law_80 : MLk R_Law 80 md_Mod_seconds 1 := ⟨wa_4 (List.mem_of_getElem? (i := 166) (by decide +kernel)) (by decide +kernel), wn_Mod_seconds, wk_Mod_seconds, by decide +kernel⟩
theorem wk_Mod_thrown : Cond.code md_Mod_thrown.1 md_Mod_thrown.2.1 md_Mod_thrown.2.2.1 md_Mod_thrown.2.2.2 ∈ WA := wa_4 (List.mem_of_getElem? (i := 165) (by decide +kernel)) (by decide +kernel)
theorem wn_Mod_thrown : Cond.initialized md_Mod_thrown.1.cls ∈ WA := wa_1 (List.mem_of_getElem? (i := 8) (by decide +kernel)) (by decide +kernel)
theorem mv_Mod_thrown : Cond.instanceMethod md_Mod_thrown.1 ∈ WA ∧ Cond.selects md_Mod_thrown.1.cls md_Mod_thrown.1 md_Mod_thrown.1 ∈ WA := ⟨wa_4 (List.mem_of_getElem? (i := 163) (by decide +kernel)) (by decide +kernel), wa_4 (List.mem_of_getElem? (i := 164) (by decide +kernel)) (by decide +kernel)⟩
theorem ml_Law_81 : MLk R_Law 81 md_Mod_thrown 0 := ⟨wa_4 (List.mem_of_getElem? (i := 162) (by decide +kernel)) (by decide +kernel), wn_Mod_thrown, wk_Mod_thrown, by decide +kernel⟩
theorem wk_Mod_skew : Cond.code md_Mod_skew.1 md_Mod_skew.2.1 md_Mod_skew.2.2.1 md_Mod_skew.2.2.2 ∈ WA := wa_4 (List.mem_of_getElem? (i := 179) (by decide +kernel)) (by decide +kernel)
theorem wn_Mod_skew : Cond.initialized md_Mod_skew.1.cls ∈ WA := wa_1 (List.mem_of_getElem? (i := 8) (by decide +kernel)) (by decide +kernel)
theorem mv_Mod_skew : Cond.instanceMethod md_Mod_skew.1 ∈ WA ∧ Cond.selects md_Mod_skew.1.cls md_Mod_skew.1 md_Mod_skew.1 ∈ WA := ⟨wa_4 (List.mem_of_getElem? (i := 177) (by decide +kernel)) (by decide +kernel), wa_4 (List.mem_of_getElem? (i := 178) (by decide +kernel)) (by decide +kernel)⟩
theorem ml_Law_88 : MLk R_Law 88 md_Mod_skew 2 := ⟨wa_4 (List.mem_of_getElem? (i := 176) (by decide +kernel)) (by decide +kernel), wn_Mod_skew, wk_Mod_skew, by decide +kernel⟩
theorem wk_Mod_kill : Cond.code md_Mod_kill.1 md_Mod_kill.2.1 md_Mod_kill.2.2.1 md_Mod_kill.2.2.2 ∈ WA := wa_4 (List.mem_of_getElem? (i := 187) (by decide +kernel)) (by decide +kernel)
theorem wn_Mod_kill : Cond.initialized md_Mod_kill.1.cls ∈ WA := wa_1 (List.mem_of_getElem? (i := 8) (by decide +kernel)) (by decide +kernel)
theorem mv_Mod_kill : Cond.instanceMethod md_Mod_kill.1 ∈ WA ∧ Cond.selects md_Mod_kill.1.cls md_Mod_kill.1 md_Mod_kill.1 ∈ WA := ⟨wa_4 (List.mem_of_getElem? (i := 185) (by decide +kernel)) (by decide +kernel), wa_4 (List.mem_of_getElem? (i := 186) (by decide +kernel)) (by decide +kernel)⟩
theorem ml_Law_91 : MLk R_Law 91 md_Mod_kill 1 := ⟨wa_4 (List.mem_of_getElem? (i := 184) (by decide +kernel)) (by decide +kernel), wn_Mod_kill, wk_Mod_kill, by decide +kernel⟩
theorem wk_Mod_fuse : Cond.code md_Mod_fuse.1 md_Mod_fuse.2.1 md_Mod_fuse.2.2.1 md_Mod_fuse.2.2.2 ∈ WA := wa_4 (List.mem_of_getElem? (i := 191) (by decide +kernel)) (by decide +kernel)
theorem wn_Mod_fuse : Cond.initialized md_Mod_fuse.1.cls ∈ WA := wa_1 (List.mem_of_getElem? (i := 8) (by decide +kernel)) (by decide +kernel)
theorem mv_Mod_fuse : Cond.instanceMethod md_Mod_fuse.1 ∈ WA ∧ Cond.selects md_Mod_fuse.1.cls md_Mod_fuse.1 md_Mod_fuse.1 ∈ WA := ⟨wa_4 (List.mem_of_getElem? (i := 189) (by decide +kernel)) (by decide +kernel), wa_4 (List.mem_of_getElem? (i := 190) (by decide +kernel)) (by decide +kernel)⟩
theorem ml_Law_95 : MLk R_Law 95 md_Mod_fuse 2 := ⟨wa_4 (List.mem_of_getElem? (i := 188) (by decide +kernel)) (by decide +kernel), wn_Mod_fuse, wk_Mod_fuse, by decide +kernel⟩
theorem wk_Mod_start : Cond.code md_Mod_start.1 md_Mod_start.2.1 md_Mod_start.2.2.1 md_Mod_start.2.2.2 ∈ WA := wa_4 (List.mem_of_getElem? (i := 195) (by decide +kernel)) (by decide +kernel)
theorem wn_Mod_start : Cond.initialized md_Mod_start.1.cls ∈ WA := wa_1 (List.mem_of_getElem? (i := 8) (by decide +kernel)) (by decide +kernel)
theorem mv_Mod_start : Cond.instanceMethod md_Mod_start.1 ∈ WA ∧ Cond.selects md_Mod_start.1.cls md_Mod_start.1 md_Mod_start.1 ∈ WA := ⟨wa_4 (List.mem_of_getElem? (i := 193) (by decide +kernel)) (by decide +kernel), wa_4 (List.mem_of_getElem? (i := 194) (by decide +kernel)) (by decide +kernel)⟩
theorem ml_Law_98 : MLk R_Law 98 md_Mod_start 1 := ⟨wa_4 (List.mem_of_getElem? (i := 192) (by decide +kernel)) (by decide +kernel), wn_Mod_start, wk_Mod_start, by decide +kernel⟩
theorem wk_Mod_partnerDown : Cond.code md_Mod_partnerDown.1 md_Mod_partnerDown.2.1 md_Mod_partnerDown.2.2.1 md_Mod_partnerDown.2.2.2 ∈ WA := wa_4 (List.mem_of_getElem? (i := 219) (by decide +kernel)) (by decide +kernel)
theorem wn_Mod_partnerDown : Cond.initialized md_Mod_partnerDown.1.cls ∈ WA := wa_1 (List.mem_of_getElem? (i := 8) (by decide +kernel)) (by decide +kernel)
theorem mv_Mod_partnerDown : Cond.instanceMethod md_Mod_partnerDown.1 ∈ WA ∧ Cond.selects md_Mod_partnerDown.1.cls md_Mod_partnerDown.1 md_Mod_partnerDown.1 ∈ WA := ⟨wa_4 (List.mem_of_getElem? (i := 217) (by decide +kernel)) (by decide +kernel), wa_4 (List.mem_of_getElem? (i := 218) (by decide +kernel)) (by decide +kernel)⟩
theorem ml_Law_101 : MLk R_Law 101 md_Mod_partnerDown 1 := ⟨wa_4 (List.mem_of_getElem? (i := 216) (by decide +kernel)) (by decide +kernel), wn_Mod_partnerDown, wk_Mod_partnerDown, by decide +kernel⟩
theorem wk_Mod_ask : Cond.code md_Mod_ask.1 md_Mod_ask.2.1 md_Mod_ask.2.2.1 md_Mod_ask.2.2.2 ∈ WA := wa_4 (List.mem_of_getElem? (i := 227) (by decide +kernel)) (by decide +kernel)
theorem wn_Mod_ask : Cond.initialized md_Mod_ask.1.cls ∈ WA := wa_1 (List.mem_of_getElem? (i := 8) (by decide +kernel)) (by decide +kernel)
theorem mv_Mod_ask : Cond.instanceMethod md_Mod_ask.1 ∈ WA ∧ Cond.selects md_Mod_ask.1.cls md_Mod_ask.1 md_Mod_ask.1 ∈ WA := ⟨wa_4 (List.mem_of_getElem? (i := 225) (by decide +kernel)) (by decide +kernel), wa_4 (List.mem_of_getElem? (i := 226) (by decide +kernel)) (by decide +kernel)⟩
theorem ml_Law_105 : MLk R_Law 105 md_Mod_ask 5 := ⟨wa_4 (List.mem_of_getElem? (i := 224) (by decide +kernel)) (by decide +kernel), wn_Mod_ask, wk_Mod_ask, by decide +kernel⟩
theorem wk_Mod_send : Cond.code md_Mod_send.1 md_Mod_send.2.1 md_Mod_send.2.2.1 md_Mod_send.2.2.2 ∈ WA := wa_4 (List.mem_of_getElem? (i := 231) (by decide +kernel)) (by decide +kernel)
theorem wn_Mod_send : Cond.initialized md_Mod_send.1.cls ∈ WA := wa_1 (List.mem_of_getElem? (i := 8) (by decide +kernel)) (by decide +kernel)
theorem mv_Mod_send : Cond.instanceMethod md_Mod_send.1 ∈ WA ∧ Cond.selects md_Mod_send.1.cls md_Mod_send.1 md_Mod_send.1 ∈ WA := ⟨wa_4 (List.mem_of_getElem? (i := 229) (by decide +kernel)) (by decide +kernel), wa_4 (List.mem_of_getElem? (i := 230) (by decide +kernel)) (by decide +kernel)⟩
theorem ml_Law_108 : MLk R_Law 108 md_Mod_send 1 := ⟨wa_4 (List.mem_of_getElem? (i := 228) (by decide +kernel)) (by decide +kernel), wn_Mod_send, wk_Mod_send, by decide +kernel⟩
theorem wk_Mod_tidy : Cond.code md_Mod_tidy.1 md_Mod_tidy.2.1 md_Mod_tidy.2.2.1 md_Mod_tidy.2.2.2 ∈ WA := wa_4 (List.mem_of_getElem? (i := 239) (by decide +kernel)) (by decide +kernel)
theorem wn_Mod_tidy : Cond.initialized md_Mod_tidy.1.cls ∈ WA := wa_1 (List.mem_of_getElem? (i := 8) (by decide +kernel)) (by decide +kernel)
theorem mv_Mod_tidy : Cond.instanceMethod md_Mod_tidy.1 ∈ WA ∧ Cond.selects md_Mod_tidy.1.cls md_Mod_tidy.1 md_Mod_tidy.1 ∈ WA := ⟨wa_4 (List.mem_of_getElem? (i := 237) (by decide +kernel)) (by decide +kernel), wa_4 (List.mem_of_getElem? (i := 238) (by decide +kernel)) (by decide +kernel)⟩
theorem ml_Law_111 : MLk R_Law 111 md_Mod_tidy 1 := ⟨wa_4 (List.mem_of_getElem? (i := 236) (by decide +kernel)) (by decide +kernel), wn_Mod_tidy, wk_Mod_tidy, by decide +kernel⟩
theorem wk_Mod_give : Cond.code md_Mod_give.1 md_Mod_give.2.1 md_Mod_give.2.2.1 md_Mod_give.2.2.2 ∈ WA := wa_5 (List.mem_of_getElem? (i := 14) (by decide +kernel)) (by decide +kernel)
theorem wn_Mod_give : Cond.initialized md_Mod_give.1.cls ∈ WA := wa_1 (List.mem_of_getElem? (i := 8) (by decide +kernel)) (by decide +kernel)
theorem mv_Mod_give : Cond.instanceMethod md_Mod_give.1 ∈ WA ∧ Cond.selects md_Mod_give.1.cls md_Mod_give.1 md_Mod_give.1 ∈ WA := ⟨wa_5 (List.mem_of_getElem? (i := 12) (by decide +kernel)) (by decide +kernel), wa_5 (List.mem_of_getElem? (i := 13) (by decide +kernel)) (by decide +kernel)⟩
theorem ml_Law_114 : MLk R_Law 114 md_Mod_give 2 := ⟨wa_5 (List.mem_of_getElem? (i := 11) (by decide +kernel)) (by decide +kernel), wn_Mod_give, wk_Mod_give, by decide +kernel⟩
theorem wk_Mod_carry : Cond.code md_Mod_carry.1 md_Mod_carry.2.1 md_Mod_carry.2.2.1 md_Mod_carry.2.2.2 ∈ WA := wa_5 (List.mem_of_getElem? (i := 18) (by decide +kernel)) (by decide +kernel)
theorem wn_Mod_carry : Cond.initialized md_Mod_carry.1.cls ∈ WA := wa_1 (List.mem_of_getElem? (i := 8) (by decide +kernel)) (by decide +kernel)
theorem mv_Mod_carry : Cond.instanceMethod md_Mod_carry.1 ∈ WA ∧ Cond.selects md_Mod_carry.1.cls md_Mod_carry.1 md_Mod_carry.1 ∈ WA := ⟨wa_5 (List.mem_of_getElem? (i := 16) (by decide +kernel)) (by decide +kernel), wa_5 (List.mem_of_getElem? (i := 17) (by decide +kernel)) (by decide +kernel)⟩
theorem ml_Law_117 : MLk R_Law 117 md_Mod_carry 1 := ⟨wa_5 (List.mem_of_getElem? (i := 15) (by decide +kernel)) (by decide +kernel), wn_Mod_carry, wk_Mod_carry, by decide +kernel⟩
theorem wk_LP_carryAll : Cond.code md_LP_carryAll.1 md_LP_carryAll.2.1 md_LP_carryAll.2.2.1 md_LP_carryAll.2.2.2 ∈ WA := wa_2 (List.mem_of_getElem? (i := 53) (by decide +kernel)) (by decide +kernel)
theorem wn_LP_carryAll : Cond.initialized md_LP_carryAll.1.cls ∈ WA := wa_1 (List.mem_of_getElem? (i := 1) (by decide +kernel)) (by decide +kernel)
theorem mv_LP_carryAll : Cond.instanceMethod md_LP_carryAll.1 ∈ WA ∧ Cond.selects md_LP_carryAll.1.cls md_LP_carryAll.1 md_LP_carryAll.1 ∈ WA := ⟨wa_2 (List.mem_of_getElem? (i := 51) (by decide +kernel)) (by decide +kernel), wa_2 (List.mem_of_getElem? (i := 52) (by decide +kernel)) (by decide +kernel)⟩
theorem ml_Law_118 : MLk R_Law 118 md_LP_carryAll 0 := ⟨wa_2 (List.mem_of_getElem? (i := 50) (by decide +kernel)) (by decide +kernel), wn_LP_carryAll, wk_LP_carryAll, by decide +kernel⟩
theorem wk_Mod_carryAll : Cond.code md_Mod_carryAll.1 md_Mod_carryAll.2.1 md_Mod_carryAll.2.2.1 md_Mod_carryAll.2.2.2 ∈ WA := wa_5 (List.mem_of_getElem? (i := 90) (by decide +kernel)) (by decide +kernel)
theorem wn_Mod_carryAll : Cond.initialized md_Mod_carryAll.1.cls ∈ WA := wa_1 (List.mem_of_getElem? (i := 8) (by decide +kernel)) (by decide +kernel)
theorem mv_Mod_carryAll : Cond.instanceMethod md_Mod_carryAll.1 ∈ WA ∧ Cond.selects md_Mod_carryAll.1.cls md_Mod_carryAll.1 md_Mod_carryAll.1 ∈ WA := ⟨wa_5 (List.mem_of_getElem? (i := 88) (by decide +kernel)) (by decide +kernel), wa_5 (List.mem_of_getElem? (i := 89) (by decide +kernel)) (by decide +kernel)⟩
theorem ml_Law_121 : MLk R_Law 121 md_Mod_carryAll 0 := ⟨wa_5 (List.mem_of_getElem? (i := 87) (by decide +kernel)) (by decide +kernel), wn_Mod_carryAll, wk_Mod_carryAll, by decide +kernel⟩
theorem wk_Mod_drop : Cond.code md_Mod_drop.1 md_Mod_drop.2.1 md_Mod_drop.2.2.1 md_Mod_drop.2.2.2 ∈ WA := wa_5 (List.mem_of_getElem? (i := 94) (by decide +kernel)) (by decide +kernel)
theorem wn_Mod_drop : Cond.initialized md_Mod_drop.1.cls ∈ WA := wa_1 (List.mem_of_getElem? (i := 8) (by decide +kernel)) (by decide +kernel)
theorem mv_Mod_drop : Cond.instanceMethod md_Mod_drop.1 ∈ WA ∧ Cond.selects md_Mod_drop.1.cls md_Mod_drop.1 md_Mod_drop.1 ∈ WA := ⟨wa_5 (List.mem_of_getElem? (i := 92) (by decide +kernel)) (by decide +kernel), wa_5 (List.mem_of_getElem? (i := 93) (by decide +kernel)) (by decide +kernel)⟩
theorem ml_Law_124 : MLk R_Law 124 md_Mod_drop 1 := ⟨wa_5 (List.mem_of_getElem? (i := 91) (by decide +kernel)) (by decide +kernel), wn_Mod_drop, wk_Mod_drop, by decide +kernel⟩
theorem wk_LP_messages : Cond.code md_LP_messages.1 md_LP_messages.2.1 md_LP_messages.2.2.1 md_LP_messages.2.2.2 ∈ WA := wa_3 (List.mem_of_getElem? (i := 4) (by decide +kernel)) (by decide +kernel)
theorem wn_LP_messages : Cond.initialized md_LP_messages.1.cls ∈ WA := wa_1 (List.mem_of_getElem? (i := 1) (by decide +kernel)) (by decide +kernel)
theorem mv_LP_messages : Cond.instanceMethod md_LP_messages.1 ∈ WA ∧ Cond.selects md_LP_messages.1.cls md_LP_messages.1 md_LP_messages.1 ∈ WA := ⟨wa_3 (List.mem_of_getElem? (i := 2) (by decide +kernel)) (by decide +kernel), wa_3 (List.mem_of_getElem? (i := 3) (by decide +kernel)) (by decide +kernel)⟩
theorem ml_Law_125 : MLk R_Law 125 md_LP_messages 0 := ⟨wa_3 (List.mem_of_getElem? (i := 1) (by decide +kernel)) (by decide +kernel), wn_LP_messages, wk_LP_messages, by decide +kernel⟩
theorem wk_Mod_messages : Cond.code md_Mod_messages.1 md_Mod_messages.2.1 md_Mod_messages.2.2.1 md_Mod_messages.2.2.2 ∈ WA := wa_5 (List.mem_of_getElem? (i := 98) (by decide +kernel)) (by decide +kernel)
theorem wn_Mod_messages : Cond.initialized md_Mod_messages.1.cls ∈ WA := wa_1 (List.mem_of_getElem? (i := 8) (by decide +kernel)) (by decide +kernel)
theorem mv_Mod_messages : Cond.instanceMethod md_Mod_messages.1 ∈ WA ∧ Cond.selects md_Mod_messages.1.cls md_Mod_messages.1 md_Mod_messages.1 ∈ WA := ⟨wa_5 (List.mem_of_getElem? (i := 96) (by decide +kernel)) (by decide +kernel), wa_5 (List.mem_of_getElem? (i := 97) (by decide +kernel)) (by decide +kernel)⟩
theorem ml_Law_128 : MLk R_Law 128 md_Mod_messages 0 := ⟨wa_5 (List.mem_of_getElem? (i := 95) (by decide +kernel)) (by decide +kernel), wn_Mod_messages, wk_Mod_messages, by decide +kernel⟩
theorem wk_Mod_message : Cond.code md_Mod_message.1 md_Mod_message.2.1 md_Mod_message.2.2.1 md_Mod_message.2.2.2 ∈ WA := wa_5 (List.mem_of_getElem? (i := 102) (by decide +kernel)) (by decide +kernel)
theorem wn_Mod_message : Cond.initialized md_Mod_message.1.cls ∈ WA := wa_1 (List.mem_of_getElem? (i := 8) (by decide +kernel)) (by decide +kernel)
theorem mv_Mod_message : Cond.instanceMethod md_Mod_message.1 ∈ WA ∧ Cond.selects md_Mod_message.1.cls md_Mod_message.1 md_Mod_message.1 ∈ WA := ⟨wa_5 (List.mem_of_getElem? (i := 100) (by decide +kernel)) (by decide +kernel), wa_5 (List.mem_of_getElem? (i := 101) (by decide +kernel)) (by decide +kernel)⟩
theorem ml_Law_131 : MLk R_Law 131 md_Mod_message 2 := ⟨wa_5 (List.mem_of_getElem? (i := 99) (by decide +kernel)) (by decide +kernel), wn_Mod_message, wk_Mod_message, by decide +kernel⟩
theorem wk_Mod_client : Cond.code md_Mod_client.1 md_Mod_client.2.1 md_Mod_client.2.2.1 md_Mod_client.2.2.2 ∈ WA := wa_5 (List.mem_of_getElem? (i := 106) (by decide +kernel)) (by decide +kernel)
theorem wn_Mod_client : Cond.initialized md_Mod_client.1.cls ∈ WA := wa_1 (List.mem_of_getElem? (i := 8) (by decide +kernel)) (by decide +kernel)
theorem mv_Mod_client : Cond.instanceMethod md_Mod_client.1 ∈ WA ∧ Cond.selects md_Mod_client.1.cls md_Mod_client.1 md_Mod_client.1 ∈ WA := ⟨wa_5 (List.mem_of_getElem? (i := 104) (by decide +kernel)) (by decide +kernel), wa_5 (List.mem_of_getElem? (i := 105) (by decide +kernel)) (by decide +kernel)⟩
theorem ml_Law_134 : MLk R_Law 134 md_Mod_client 2 := ⟨wa_5 (List.mem_of_getElem? (i := 103) (by decide +kernel)) (by decide +kernel), wn_Mod_client, wk_Mod_client, by decide +kernel⟩
theorem wk_Mod_record : Cond.code md_Mod_record.1 md_Mod_record.2.1 md_Mod_record.2.2.1 md_Mod_record.2.2.2 ∈ WA := wa_5 (List.mem_of_getElem? (i := 110) (by decide +kernel)) (by decide +kernel)
theorem wn_Mod_record : Cond.initialized md_Mod_record.1.cls ∈ WA := wa_1 (List.mem_of_getElem? (i := 8) (by decide +kernel)) (by decide +kernel)
theorem mv_Mod_record : Cond.instanceMethod md_Mod_record.1 ∈ WA ∧ Cond.selects md_Mod_record.1.cls md_Mod_record.1 md_Mod_record.1 ∈ WA := ⟨wa_5 (List.mem_of_getElem? (i := 108) (by decide +kernel)) (by decide +kernel), wa_5 (List.mem_of_getElem? (i := 109) (by decide +kernel)) (by decide +kernel)⟩
theorem ml_Law_138 : MLk R_Law 138 md_Mod_record 3 := ⟨wa_5 (List.mem_of_getElem? (i := 107) (by decide +kernel)) (by decide +kernel), wn_Mod_record, wk_Mod_record, by decide +kernel⟩
theorem wk_Mod_server : Cond.code md_Mod_server.1 md_Mod_server.2.1 md_Mod_server.2.2.1 md_Mod_server.2.2.2 ∈ WA := wa_5 (List.mem_of_getElem? (i := 114) (by decide +kernel)) (by decide +kernel)
theorem wn_Mod_server : Cond.initialized md_Mod_server.1.cls ∈ WA := wa_1 (List.mem_of_getElem? (i := 8) (by decide +kernel)) (by decide +kernel)
theorem mv_Mod_server : Cond.instanceMethod md_Mod_server.1 ∈ WA ∧ Cond.selects md_Mod_server.1.cls md_Mod_server.1 md_Mod_server.1 ∈ WA := ⟨wa_5 (List.mem_of_getElem? (i := 112) (by decide +kernel)) (by decide +kernel), wa_5 (List.mem_of_getElem? (i := 113) (by decide +kernel)) (by decide +kernel)⟩
theorem ml_Law_141 : MLk R_Law 141 md_Mod_server 2 := ⟨wa_5 (List.mem_of_getElem? (i := 111) (by decide +kernel)) (by decide +kernel), wn_Mod_server, wk_Mod_server, by decide +kernel⟩
theorem wk_LP_most : Cond.code md_LP_most.1 md_LP_most.2.1 md_LP_most.2.2.1 md_LP_most.2.2.2 ∈ WA := wa_3 (List.mem_of_getElem? (i := 8) (by decide +kernel)) (by decide +kernel)
theorem wn_LP_most : Cond.initialized md_LP_most.1.cls ∈ WA := wa_1 (List.mem_of_getElem? (i := 1) (by decide +kernel)) (by decide +kernel)
theorem mv_LP_most : Cond.instanceMethod md_LP_most.1 ∈ WA ∧ Cond.selects md_LP_most.1.cls md_LP_most.1 md_LP_most.1 ∈ WA := ⟨wa_3 (List.mem_of_getElem? (i := 6) (by decide +kernel)) (by decide +kernel), wa_3 (List.mem_of_getElem? (i := 7) (by decide +kernel)) (by decide +kernel)⟩
theorem ml_Law_142 : MLk R_Law 142 md_LP_most 0 := ⟨wa_3 (List.mem_of_getElem? (i := 5) (by decide +kernel)) (by decide +kernel), wn_LP_most, wk_LP_most, by decide +kernel⟩
theorem wk_Mod_most : Cond.code md_Mod_most.1 md_Mod_most.2.1 md_Mod_most.2.2.1 md_Mod_most.2.2.2 ∈ WA := wa_5 (List.mem_of_getElem? (i := 118) (by decide +kernel)) (by decide +kernel)
theorem wn_Mod_most : Cond.initialized md_Mod_most.1.cls ∈ WA := wa_1 (List.mem_of_getElem? (i := 8) (by decide +kernel)) (by decide +kernel)
theorem mv_Mod_most : Cond.instanceMethod md_Mod_most.1 ∈ WA ∧ Cond.selects md_Mod_most.1.cls md_Mod_most.1 md_Mod_most.1 ∈ WA := ⟨wa_5 (List.mem_of_getElem? (i := 116) (by decide +kernel)) (by decide +kernel), wa_5 (List.mem_of_getElem? (i := 117) (by decide +kernel)) (by decide +kernel)⟩
theorem ml_Law_145 : MLk R_Law 145 md_Mod_most 0 := ⟨wa_5 (List.mem_of_getElem? (i := 115) (by decide +kernel)) (by decide +kernel), wn_Mod_most, wk_Mod_most, by decide +kernel⟩
theorem wk_Mod_remove : Cond.code md_Mod_remove.1 md_Mod_remove.2.1 md_Mod_remove.2.2.1 md_Mod_remove.2.2.2 ∈ WA := wa_4 (List.mem_of_getElem? (i := 215) (by decide +kernel)) (by decide +kernel)
theorem wn_Mod_remove : Cond.initialized md_Mod_remove.1.cls ∈ WA := wa_1 (List.mem_of_getElem? (i := 8) (by decide +kernel)) (by decide +kernel)
theorem mv_Mod_remove : Cond.instanceMethod md_Mod_remove.1 ∈ WA ∧ Cond.selects md_Mod_remove.1.cls md_Mod_remove.1 md_Mod_remove.1 ∈ WA := ⟨wa_4 (List.mem_of_getElem? (i := 214) (by decide +kernel)) (by decide +kernel), wa_0 (List.mem_of_getElem? (i := 13) (by decide +kernel)) (by decide +kernel)⟩
theorem ml_Mod_117 : MLk R_Mod 117 md_Mod_remove 1 := ⟨wa_4 (List.mem_of_getElem? (i := 212) (by decide +kernel)) (by decide +kernel), wn_Mod_remove, wk_Mod_remove, by decide +kernel⟩
theorem wk_Mod_say : Cond.code md_Mod_say.1 md_Mod_say.2.1 md_Mod_say.2.2.1 md_Mod_say.2.2.2 ∈ WA := wa_4 (List.mem_of_getElem? (i := 207) (by decide +kernel)) (by decide +kernel)
theorem wn_Mod_say : Cond.initialized md_Mod_say.1.cls ∈ WA := wa_1 (List.mem_of_getElem? (i := 8) (by decide +kernel)) (by decide +kernel)
theorem mv_Mod_say : Cond.instanceMethod md_Mod_say.1 ∈ WA ∧ Cond.selects md_Mod_say.1.cls md_Mod_say.1 md_Mod_say.1 ∈ WA := ⟨wa_4 (List.mem_of_getElem? (i := 206) (by decide +kernel)) (by decide +kernel), wa_0 (List.mem_of_getElem? (i := 11) (by decide +kernel)) (by decide +kernel)⟩
theorem ml_Mod_121 : MLk R_Mod 121 md_Mod_say 7 := ⟨wa_4 (List.mem_of_getElem? (i := 204) (by decide +kernel)) (by decide +kernel), wn_Mod_say, wk_Mod_say, by decide +kernel⟩
theorem wk_Mod_put : Cond.code md_Mod_put.1 md_Mod_put.2.1 md_Mod_put.2.2.1 md_Mod_put.2.2.2 ∈ WA := wa_4 (List.mem_of_getElem? (i := 211) (by decide +kernel)) (by decide +kernel)
theorem wn_Mod_put : Cond.initialized md_Mod_put.1.cls ∈ WA := wa_1 (List.mem_of_getElem? (i := 8) (by decide +kernel)) (by decide +kernel)
theorem mv_Mod_put : Cond.instanceMethod md_Mod_put.1 ∈ WA ∧ Cond.selects md_Mod_put.1.cls md_Mod_put.1 md_Mod_put.1 ∈ WA := ⟨wa_4 (List.mem_of_getElem? (i := 210) (by decide +kernel)) (by decide +kernel), wa_0 (List.mem_of_getElem? (i := 12) (by decide +kernel)) (by decide +kernel)⟩
theorem ml_Mod_125 : MLk R_Mod 125 md_Mod_put 0 := ⟨wa_4 (List.mem_of_getElem? (i := 208) (by decide +kernel)) (by decide +kernel), wn_Mod_put, wk_Mod_put, by decide +kernel⟩
theorem wk_Mod_clock : Cond.code md_Mod_clock.1 md_Mod_clock.2.1 md_Mod_clock.2.2.1 md_Mod_clock.2.2.2 ∈ WA := wa_4 (List.mem_of_getElem? (i := 223) (by decide +kernel)) (by decide +kernel)
theorem wn_Mod_clock : Cond.initialized md_Mod_clock.1.cls ∈ WA := wa_1 (List.mem_of_getElem? (i := 8) (by decide +kernel)) (by decide +kernel)
theorem mv_Mod_clock : Cond.instanceMethod md_Mod_clock.1 ∈ WA ∧ Cond.selects md_Mod_clock.1.cls md_Mod_clock.1 md_Mod_clock.1 ∈ WA := ⟨wa_4 (List.mem_of_getElem? (i := 222) (by decide +kernel)) (by decide +kernel), wa_0 (List.mem_of_getElem? (i := 14) (by decide +kernel)) (by decide +kernel)⟩
theorem ml_Mod_128 : MLk R_Mod 128 md_Mod_clock 1 := ⟨wa_4 (List.mem_of_getElem? (i := 220) (by decide +kernel)) (by decide +kernel), wn_Mod_clock, wk_Mod_clock, by decide +kernel⟩
theorem wk_Mod_hearRenew : Cond.code md_Mod_hearRenew.1 md_Mod_hearRenew.2.1 md_Mod_hearRenew.2.2.1 md_Mod_hearRenew.2.2.2 ∈ WA := wa_5 (List.mem_of_getElem? (i := 78) (by decide +kernel)) (by decide +kernel)
theorem wn_Mod_hearRenew : Cond.initialized md_Mod_hearRenew.1.cls ∈ WA := wa_1 (List.mem_of_getElem? (i := 8) (by decide +kernel)) (by decide +kernel)
theorem mv_Mod_hearRenew : Cond.instanceMethod md_Mod_hearRenew.1 ∈ WA ∧ Cond.selects md_Mod_hearRenew.1.cls md_Mod_hearRenew.1 md_Mod_hearRenew.1 ∈ WA := ⟨wa_5 (List.mem_of_getElem? (i := 77) (by decide +kernel)) (by decide +kernel), wa_0 (List.mem_of_getElem? (i := 32) (by decide +kernel)) (by decide +kernel)⟩
theorem ml_Mod_132 : MLk R_Mod 132 md_Mod_hearRenew 5 := ⟨wa_5 (List.mem_of_getElem? (i := 75) (by decide +kernel)) (by decide +kernel), wn_Mod_hearRenew, wk_Mod_hearRenew, by decide +kernel⟩
theorem wk_Mod_answer : Cond.code md_Mod_answer.1 md_Mod_answer.2.1 md_Mod_answer.2.2.1 md_Mod_answer.2.2.2 ∈ WA := wa_5 (List.mem_of_getElem? (i := 82) (by decide +kernel)) (by decide +kernel)
theorem wn_Mod_answer : Cond.initialized md_Mod_answer.1.cls ∈ WA := wa_1 (List.mem_of_getElem? (i := 8) (by decide +kernel)) (by decide +kernel)
theorem mv_Mod_answer : Cond.instanceMethod md_Mod_answer.1 ∈ WA ∧ Cond.selects md_Mod_answer.1.cls md_Mod_answer.1 md_Mod_answer.1 ∈ WA := ⟨wa_5 (List.mem_of_getElem? (i := 81) (by decide +kernel)) (by decide +kernel), wa_0 (List.mem_of_getElem? (i := 33) (by decide +kernel)) (by decide +kernel)⟩
theorem ml_Mod_136 : MLk R_Mod 136 md_Mod_answer 6 := ⟨wa_5 (List.mem_of_getElem? (i := 79) (by decide +kernel)) (by decide +kernel), wn_Mod_answer, wk_Mod_answer, by decide +kernel⟩
theorem wk_Mod_change : Cond.code md_Mod_change.1 md_Mod_change.2.1 md_Mod_change.2.2.1 md_Mod_change.2.2.2 ∈ WA := wa_5 (List.mem_of_getElem? (i := 10) (by decide +kernel)) (by decide +kernel)
theorem wn_Mod_change : Cond.initialized md_Mod_change.1.cls ∈ WA := wa_1 (List.mem_of_getElem? (i := 8) (by decide +kernel)) (by decide +kernel)
theorem mv_Mod_change : Cond.instanceMethod md_Mod_change.1 ∈ WA ∧ Cond.selects md_Mod_change.1.cls md_Mod_change.1 md_Mod_change.1 ∈ WA := ⟨wa_5 (List.mem_of_getElem? (i := 9) (by decide +kernel)) (by decide +kernel), wa_0 (List.mem_of_getElem? (i := 17) (by decide +kernel)) (by decide +kernel)⟩
theorem ml_Mod_140 : MLk R_Mod 140 md_Mod_change 1 := ⟨wa_5 (List.mem_of_getElem? (i := 7) (by decide +kernel)) (by decide +kernel), wn_Mod_change, wk_Mod_change, by decide +kernel⟩
theorem wk_Mod_bind : Cond.code md_Mod_bind.1 md_Mod_bind.2.1 md_Mod_bind.2.2.1 md_Mod_bind.2.2.2 ∈ WA := wa_5 (List.mem_of_getElem? (i := 58) (by decide +kernel)) (by decide +kernel)
theorem wn_Mod_bind : Cond.initialized md_Mod_bind.1.cls ∈ WA := wa_1 (List.mem_of_getElem? (i := 8) (by decide +kernel)) (by decide +kernel)
theorem mv_Mod_bind : Cond.instanceMethod md_Mod_bind.1 ∈ WA ∧ Cond.selects md_Mod_bind.1.cls md_Mod_bind.1 md_Mod_bind.1 ∈ WA := ⟨wa_5 (List.mem_of_getElem? (i := 57) (by decide +kernel)) (by decide +kernel), wa_0 (List.mem_of_getElem? (i := 27) (by decide +kernel)) (by decide +kernel)⟩
theorem ml_Mod_143 : MLk R_Mod 143 md_Mod_bind 4 := ⟨wa_5 (List.mem_of_getElem? (i := 55) (by decide +kernel)) (by decide +kernel), wn_Mod_bind, wk_Mod_bind, by decide +kernel⟩
theorem wk_Mod_writes : Cond.code md_Mod_writes.1 md_Mod_writes.2.1 md_Mod_writes.2.2.1 md_Mod_writes.2.2.2 ∈ WA := wa_4 (List.mem_of_getElem? (i := 199) (by decide +kernel)) (by decide +kernel)
theorem wn_Mod_writes : Cond.initialized md_Mod_writes.1.cls ∈ WA := wa_1 (List.mem_of_getElem? (i := 8) (by decide +kernel)) (by decide +kernel)
theorem mv_Mod_writes : Cond.instanceMethod md_Mod_writes.1 ∈ WA ∧ Cond.selects md_Mod_writes.1.cls md_Mod_writes.1 md_Mod_writes.1 ∈ WA := ⟨wa_4 (List.mem_of_getElem? (i := 198) (by decide +kernel)) (by decide +kernel), wa_0 (List.mem_of_getElem? (i := 9) (by decide +kernel)) (by decide +kernel)⟩
theorem ml_Mod_147 : MLk R_Mod 147 md_Mod_writes 1 := ⟨wa_4 (List.mem_of_getElem? (i := 196) (by decide +kernel)) (by decide +kernel), wn_Mod_writes, wk_Mod_writes, by decide +kernel⟩
theorem wk_Mod_greater : Cond.code md_Mod_greater.1 md_Mod_greater.2.1 md_Mod_greater.2.2.1 md_Mod_greater.2.2.2 ∈ WA := wa_5 (List.mem_of_getElem? (i := 6) (by decide +kernel)) (by decide +kernel)
theorem wn_Mod_greater : Cond.initialized md_Mod_greater.1.cls ∈ WA := wa_1 (List.mem_of_getElem? (i := 8) (by decide +kernel)) (by decide +kernel)
theorem ms_Mod_greater : Cond.static md_Mod_greater.1 ∈ WA := wa_5 (List.mem_of_getElem? (i := 5) (by decide +kernel)) (by decide +kernel)
theorem ml_Mod_150 : MLk R_Mod 150 md_Mod_greater 2 := ⟨wa_5 (List.mem_of_getElem? (i := 4) (by decide +kernel)) (by decide +kernel), wn_Mod_greater, wk_Mod_greater, by decide +kernel⟩
theorem wk_Mod_sendUpdate : Cond.code md_Mod_sendUpdate.1 md_Mod_sendUpdate.2.1 md_Mod_sendUpdate.2.2.1 md_Mod_sendUpdate.2.2.2 ∈ WA := wa_4 (List.mem_of_getElem? (i := 235) (by decide +kernel)) (by decide +kernel)
theorem wn_Mod_sendUpdate : Cond.initialized md_Mod_sendUpdate.1.cls ∈ WA := wa_1 (List.mem_of_getElem? (i := 8) (by decide +kernel)) (by decide +kernel)
theorem mv_Mod_sendUpdate : Cond.instanceMethod md_Mod_sendUpdate.1 ∈ WA ∧ Cond.selects md_Mod_sendUpdate.1.cls md_Mod_sendUpdate.1 md_Mod_sendUpdate.1 ∈ WA := ⟨wa_4 (List.mem_of_getElem? (i := 234) (by decide +kernel)) (by decide +kernel), wa_0 (List.mem_of_getElem? (i := 15) (by decide +kernel)) (by decide +kernel)⟩
theorem ml_Mod_154 : MLk R_Mod 154 md_Mod_sendUpdate 2 := ⟨wa_4 (List.mem_of_getElem? (i := 232) (by decide +kernel)) (by decide +kernel), wn_Mod_sendUpdate, wk_Mod_sendUpdate, by decide +kernel⟩
theorem wk_Mod_turns : Cond.code md_Mod_turns.1 md_Mod_turns.2.1 md_Mod_turns.2.2.1 md_Mod_turns.2.2.2 ∈ WA := wa_5 (List.mem_of_getElem? (i := 50) (by decide +kernel)) (by decide +kernel)
theorem wn_Mod_turns : Cond.initialized md_Mod_turns.1.cls ∈ WA := wa_1 (List.mem_of_getElem? (i := 8) (by decide +kernel)) (by decide +kernel)
theorem mv_Mod_turns : Cond.instanceMethod md_Mod_turns.1 ∈ WA ∧ Cond.selects md_Mod_turns.1.cls md_Mod_turns.1 md_Mod_turns.1 ∈ WA := ⟨wa_5 (List.mem_of_getElem? (i := 49) (by decide +kernel)) (by decide +kernel), wa_0 (List.mem_of_getElem? (i := 25) (by decide +kernel)) (by decide +kernel)⟩
theorem ml_Mod_158 : MLk R_Mod 158 md_Mod_turns 2 := ⟨wa_5 (List.mem_of_getElem? (i := 47) (by decide +kernel)) (by decide +kernel), wn_Mod_turns, wk_Mod_turns, by decide +kernel⟩
theorem wk_Mod_takesBound : Cond.code md_Mod_takesBound.1 md_Mod_takesBound.2.1 md_Mod_takesBound.2.2.1 md_Mod_takesBound.2.2.2 ∈ WA := wa_5 (List.mem_of_getElem? (i := 54) (by decide +kernel)) (by decide +kernel)
theorem wn_Mod_takesBound : Cond.initialized md_Mod_takesBound.1.cls ∈ WA := wa_1 (List.mem_of_getElem? (i := 8) (by decide +kernel)) (by decide +kernel)
theorem mv_Mod_takesBound : Cond.instanceMethod md_Mod_takesBound.1 ∈ WA ∧ Cond.selects md_Mod_takesBound.1.cls md_Mod_takesBound.1 md_Mod_takesBound.1 ∈ WA := ⟨wa_5 (List.mem_of_getElem? (i := 53) (by decide +kernel)) (by decide +kernel), wa_0 (List.mem_of_getElem? (i := 26) (by decide +kernel)) (by decide +kernel)⟩
theorem ml_Mod_161 : MLk R_Mod 161 md_Mod_takesBound 3 := ⟨wa_5 (List.mem_of_getElem? (i := 51) (by decide +kernel)) (by decide +kernel), wn_Mod_takesBound, wk_Mod_takesBound, by decide +kernel⟩
theorem wk_Mod_takes : Cond.code md_Mod_takes.1 md_Mod_takes.2.1 md_Mod_takes.2.2.1 md_Mod_takes.2.2.2 ∈ WA := wa_5 (List.mem_of_getElem? (i := 46) (by decide +kernel)) (by decide +kernel)
theorem wn_Mod_takes : Cond.initialized md_Mod_takes.1.cls ∈ WA := wa_1 (List.mem_of_getElem? (i := 8) (by decide +kernel)) (by decide +kernel)
theorem mv_Mod_takes : Cond.instanceMethod md_Mod_takes.1 ∈ WA ∧ Cond.selects md_Mod_takes.1.cls md_Mod_takes.1 md_Mod_takes.1 ∈ WA := ⟨wa_5 (List.mem_of_getElem? (i := 45) (by decide +kernel)) (by decide +kernel), wa_0 (List.mem_of_getElem? (i := 24) (by decide +kernel)) (by decide +kernel)⟩
theorem ml_Mod_165 : MLk R_Mod 165 md_Mod_takes 3 := ⟨wa_5 (List.mem_of_getElem? (i := 43) (by decide +kernel)) (by decide +kernel), wn_Mod_takes, wk_Mod_takes, by decide +kernel⟩
theorem wk_Mod_areFresh : Cond.code md_Mod_areFresh.1 md_Mod_areFresh.2.1 md_Mod_areFresh.2.2.1 md_Mod_areFresh.2.2.2 ∈ WA := wa_5 (List.mem_of_getElem? (i := 62) (by decide +kernel)) (by decide +kernel)
theorem wn_Mod_areFresh : Cond.initialized md_Mod_areFresh.1.cls ∈ WA := wa_1 (List.mem_of_getElem? (i := 8) (by decide +kernel)) (by decide +kernel)
theorem mv_Mod_areFresh : Cond.instanceMethod md_Mod_areFresh.1 ∈ WA ∧ Cond.selects md_Mod_areFresh.1.cls md_Mod_areFresh.1 md_Mod_areFresh.1 ∈ WA := ⟨wa_5 (List.mem_of_getElem? (i := 61) (by decide +kernel)) (by decide +kernel), wa_0 (List.mem_of_getElem? (i := 28) (by decide +kernel)) (by decide +kernel)⟩
theorem ml_Mod_169 : MLk R_Mod 169 md_Mod_areFresh 1 := ⟨wa_5 (List.mem_of_getElem? (i := 59) (by decide +kernel)) (by decide +kernel), wn_Mod_areFresh, wk_Mod_areFresh, by decide +kernel⟩
theorem wk_Mod_sendAck : Cond.code md_Mod_sendAck.1 md_Mod_sendAck.2.1 md_Mod_sendAck.2.2.1 md_Mod_sendAck.2.2.2 ∈ WA := wa_5 (List.mem_of_getElem? (i := 66) (by decide +kernel)) (by decide +kernel)
theorem wn_Mod_sendAck : Cond.initialized md_Mod_sendAck.1.cls ∈ WA := wa_1 (List.mem_of_getElem? (i := 8) (by decide +kernel)) (by decide +kernel)
theorem mv_Mod_sendAck : Cond.instanceMethod md_Mod_sendAck.1 ∈ WA ∧ Cond.selects md_Mod_sendAck.1.cls md_Mod_sendAck.1 md_Mod_sendAck.1 ∈ WA := ⟨wa_5 (List.mem_of_getElem? (i := 65) (by decide +kernel)) (by decide +kernel), wa_0 (List.mem_of_getElem? (i := 29) (by decide +kernel)) (by decide +kernel)⟩
theorem ml_Mod_172 : MLk R_Mod 172 md_Mod_sendAck 4 := ⟨wa_5 (List.mem_of_getElem? (i := 63) (by decide +kernel)) (by decide +kernel), wn_Mod_sendAck, wk_Mod_sendAck, by decide +kernel⟩
theorem wk_Mod_count : Cond.code md_Mod_count.1 md_Mod_count.2.1 md_Mod_count.2.2.1 md_Mod_count.2.2.2 ∈ WA := wa_5 (List.mem_of_getElem? (i := 30) (by decide +kernel)) (by decide +kernel)
theorem wn_Mod_count : Cond.initialized md_Mod_count.1.cls ∈ WA := wa_1 (List.mem_of_getElem? (i := 8) (by decide +kernel)) (by decide +kernel)
theorem mv_Mod_count : Cond.instanceMethod md_Mod_count.1 ∈ WA ∧ Cond.selects md_Mod_count.1.cls md_Mod_count.1 md_Mod_count.1 ∈ WA := ⟨wa_5 (List.mem_of_getElem? (i := 29) (by decide +kernel)) (by decide +kernel), wa_0 (List.mem_of_getElem? (i := 20) (by decide +kernel)) (by decide +kernel)⟩
theorem ml_Mod_175 : MLk R_Mod 175 md_Mod_count 1 := ⟨wa_5 (List.mem_of_getElem? (i := 27) (by decide +kernel)) (by decide +kernel), wn_Mod_count, wk_Mod_count, by decide +kernel⟩
theorem wk_Mod_hearHello : Cond.code md_Mod_hearHello.1 md_Mod_hearHello.2.1 md_Mod_hearHello.2.2.1 md_Mod_hearHello.2.2.2 ∈ WA := wa_5 (List.mem_of_getElem? (i := 38) (by decide +kernel)) (by decide +kernel)
theorem wn_Mod_hearHello : Cond.initialized md_Mod_hearHello.1.cls ∈ WA := wa_1 (List.mem_of_getElem? (i := 8) (by decide +kernel)) (by decide +kernel)
theorem mv_Mod_hearHello : Cond.instanceMethod md_Mod_hearHello.1 ∈ WA ∧ Cond.selects md_Mod_hearHello.1.cls md_Mod_hearHello.1 md_Mod_hearHello.1 ∈ WA := ⟨wa_5 (List.mem_of_getElem? (i := 37) (by decide +kernel)) (by decide +kernel), wa_0 (List.mem_of_getElem? (i := 22) (by decide +kernel)) (by decide +kernel)⟩
theorem ml_Mod_178 : MLk R_Mod 178 md_Mod_hearHello 2 := ⟨wa_5 (List.mem_of_getElem? (i := 35) (by decide +kernel)) (by decide +kernel), wn_Mod_hearHello, wk_Mod_hearHello, by decide +kernel⟩
theorem wk_Mod_hearUpdate : Cond.code md_Mod_hearUpdate.1 md_Mod_hearUpdate.2.1 md_Mod_hearUpdate.2.2.1 md_Mod_hearUpdate.2.2.2 ∈ WA := wa_5 (List.mem_of_getElem? (i := 42) (by decide +kernel)) (by decide +kernel)
theorem wn_Mod_hearUpdate : Cond.initialized md_Mod_hearUpdate.1.cls ∈ WA := wa_1 (List.mem_of_getElem? (i := 8) (by decide +kernel)) (by decide +kernel)
theorem mv_Mod_hearUpdate : Cond.instanceMethod md_Mod_hearUpdate.1 ∈ WA ∧ Cond.selects md_Mod_hearUpdate.1.cls md_Mod_hearUpdate.1 md_Mod_hearUpdate.1 ∈ WA := ⟨wa_5 (List.mem_of_getElem? (i := 41) (by decide +kernel)) (by decide +kernel), wa_0 (List.mem_of_getElem? (i := 23) (by decide +kernel)) (by decide +kernel)⟩
theorem ml_Mod_181 : MLk R_Mod 181 md_Mod_hearUpdate 2 := ⟨wa_5 (List.mem_of_getElem? (i := 39) (by decide +kernel)) (by decide +kernel), wn_Mod_hearUpdate, wk_Mod_hearUpdate, by decide +kernel⟩
theorem wk_Mod_hearAck : Cond.code md_Mod_hearAck.1 md_Mod_hearAck.2.1 md_Mod_hearAck.2.2.1 md_Mod_hearAck.2.2.2 ∈ WA := wa_5 (List.mem_of_getElem? (i := 70) (by decide +kernel)) (by decide +kernel)
theorem wn_Mod_hearAck : Cond.initialized md_Mod_hearAck.1.cls ∈ WA := wa_1 (List.mem_of_getElem? (i := 8) (by decide +kernel)) (by decide +kernel)
theorem mv_Mod_hearAck : Cond.instanceMethod md_Mod_hearAck.1 ∈ WA ∧ Cond.selects md_Mod_hearAck.1.cls md_Mod_hearAck.1 md_Mod_hearAck.1 ∈ WA := ⟨wa_5 (List.mem_of_getElem? (i := 69) (by decide +kernel)) (by decide +kernel), wa_0 (List.mem_of_getElem? (i := 30) (by decide +kernel)) (by decide +kernel)⟩
theorem ml_Mod_185 : MLk R_Mod 185 md_Mod_hearAck 2 := ⟨wa_5 (List.mem_of_getElem? (i := 67) (by decide +kernel)) (by decide +kernel), wn_Mod_hearAck, wk_Mod_hearAck, by decide +kernel⟩
theorem wk_Mod_hearNew : Cond.code md_Mod_hearNew.1 md_Mod_hearNew.2.1 md_Mod_hearNew.2.2.1 md_Mod_hearNew.2.2.2 ∈ WA := wa_5 (List.mem_of_getElem? (i := 74) (by decide +kernel)) (by decide +kernel)
theorem wn_Mod_hearNew : Cond.initialized md_Mod_hearNew.1.cls ∈ WA := wa_1 (List.mem_of_getElem? (i := 8) (by decide +kernel)) (by decide +kernel)
theorem mv_Mod_hearNew : Cond.instanceMethod md_Mod_hearNew.1 ∈ WA ∧ Cond.selects md_Mod_hearNew.1.cls md_Mod_hearNew.1 md_Mod_hearNew.1 ∈ WA := ⟨wa_5 (List.mem_of_getElem? (i := 73) (by decide +kernel)) (by decide +kernel), wa_0 (List.mem_of_getElem? (i := 31) (by decide +kernel)) (by decide +kernel)⟩
theorem ml_Mod_188 : MLk R_Mod 188 md_Mod_hearNew 4 := ⟨wa_5 (List.mem_of_getElem? (i := 71) (by decide +kernel)) (by decide +kernel), wn_Mod_hearNew, wk_Mod_hearNew, by decide +kernel⟩
theorem wk_Mod_hearRelease : Cond.code md_Mod_hearRelease.1 md_Mod_hearRelease.2.1 md_Mod_hearRelease.2.2.1 md_Mod_hearRelease.2.2.2 ∈ WA := wa_5 (List.mem_of_getElem? (i := 86) (by decide +kernel)) (by decide +kernel)
theorem wn_Mod_hearRelease : Cond.initialized md_Mod_hearRelease.1.cls ∈ WA := wa_1 (List.mem_of_getElem? (i := 8) (by decide +kernel)) (by decide +kernel)
theorem mv_Mod_hearRelease : Cond.instanceMethod md_Mod_hearRelease.1 ∈ WA ∧ Cond.selects md_Mod_hearRelease.1.cls md_Mod_hearRelease.1 md_Mod_hearRelease.1 ∈ WA := ⟨wa_5 (List.mem_of_getElem? (i := 85) (by decide +kernel)) (by decide +kernel), wa_0 (List.mem_of_getElem? (i := 34) (by decide +kernel)) (by decide +kernel)⟩
theorem ml_Mod_191 : MLk R_Mod 191 md_Mod_hearRelease 4 := ⟨wa_5 (List.mem_of_getElem? (i := 83) (by decide +kernel)) (by decide +kernel), wn_Mod_hearRelease, wk_Mod_hearRelease, by decide +kernel⟩
theorem wk_Mod_holds : Cond.code md_Mod_holds.1 md_Mod_holds.2.1 md_Mod_holds.2.2.1 md_Mod_holds.2.2.2 ∈ WA := wa_5 (List.mem_of_getElem? (i := 34) (by decide +kernel)) (by decide +kernel)
theorem wn_Mod_holds : Cond.initialized md_Mod_holds.1.cls ∈ WA := wa_1 (List.mem_of_getElem? (i := 8) (by decide +kernel)) (by decide +kernel)
theorem mv_Mod_holds : Cond.instanceMethod md_Mod_holds.1 ∈ WA ∧ Cond.selects md_Mod_holds.1.cls md_Mod_holds.1 md_Mod_holds.1 ∈ WA := ⟨wa_5 (List.mem_of_getElem? (i := 33) (by decide +kernel)) (by decide +kernel), wa_0 (List.mem_of_getElem? (i := 21) (by decide +kernel)) (by decide +kernel)⟩
theorem ml_Mod_194 : MLk R_Mod 194 md_Mod_holds 1 := ⟨wa_5 (List.mem_of_getElem? (i := 31) (by decide +kernel)) (by decide +kernel), wn_Mod_holds, wk_Mod_holds, by decide +kernel⟩
theorem wk_Mod_isRight : Cond.code md_Mod_isRight.1 md_Mod_isRight.2.1 md_Mod_isRight.2.2.1 md_Mod_isRight.2.2.2 ∈ WA := wa_4 (List.mem_of_getElem? (i := 175) (by decide +kernel)) (by decide +kernel)
theorem wn_Mod_isRight : Cond.initialized md_Mod_isRight.1.cls ∈ WA := wa_1 (List.mem_of_getElem? (i := 8) (by decide +kernel)) (by decide +kernel)
theorem mv_Mod_isRight : Cond.instanceMethod md_Mod_isRight.1 ∈ WA ∧ Cond.selects md_Mod_isRight.1.cls md_Mod_isRight.1 md_Mod_isRight.1 ∈ WA := ⟨wa_4 (List.mem_of_getElem? (i := 174) (by decide +kernel)) (by decide +kernel), wa_0 (List.mem_of_getElem? (i := 7) (by decide +kernel)) (by decide +kernel)⟩
theorem ml_Mod_202 : MLk R_Mod 202 md_Mod_isRight 1 := ⟨wa_4 (List.mem_of_getElem? (i := 172) (by decide +kernel)) (by decide +kernel), wn_Mod_isRight, wk_Mod_isRight, by decide +kernel⟩
theorem wk_Mod_isServer : Cond.code md_Mod_isServer.1 md_Mod_isServer.2.1 md_Mod_isServer.2.2.1 md_Mod_isServer.2.2.2 ∈ WA := wa_4 (List.mem_of_getElem? (i := 183) (by decide +kernel)) (by decide +kernel)
theorem wn_Mod_isServer : Cond.initialized md_Mod_isServer.1.cls ∈ WA := wa_1 (List.mem_of_getElem? (i := 8) (by decide +kernel)) (by decide +kernel)
theorem mv_Mod_isServer : Cond.instanceMethod md_Mod_isServer.1 ∈ WA ∧ Cond.selects md_Mod_isServer.1.cls md_Mod_isServer.1 md_Mod_isServer.1 ∈ WA := ⟨wa_4 (List.mem_of_getElem? (i := 182) (by decide +kernel)) (by decide +kernel), wa_0 (List.mem_of_getElem? (i := 8) (by decide +kernel)) (by decide +kernel)⟩
theorem ml_Mod_206 : MLk R_Mod 206 md_Mod_isServer 1 := ⟨wa_4 (List.mem_of_getElem? (i := 180) (by decide +kernel)) (by decide +kernel), wn_Mod_isServer, wk_Mod_isServer, by decide +kernel⟩
theorem wk_Mod_sendHello : Cond.code md_Mod_sendHello.1 md_Mod_sendHello.2.1 md_Mod_sendHello.2.2.1 md_Mod_sendHello.2.2.2 ∈ WA := wa_4 (List.mem_of_getElem? (i := 203) (by decide +kernel)) (by decide +kernel)
theorem wn_Mod_sendHello : Cond.initialized md_Mod_sendHello.1.cls ∈ WA := wa_1 (List.mem_of_getElem? (i := 8) (by decide +kernel)) (by decide +kernel)
theorem mv_Mod_sendHello : Cond.instanceMethod md_Mod_sendHello.1 ∈ WA ∧ Cond.selects md_Mod_sendHello.1.cls md_Mod_sendHello.1 md_Mod_sendHello.1 ∈ WA := ⟨wa_4 (List.mem_of_getElem? (i := 202) (by decide +kernel)) (by decide +kernel), wa_0 (List.mem_of_getElem? (i := 10) (by decide +kernel)) (by decide +kernel)⟩
theorem ml_Mod_209 : MLk R_Mod 209 md_Mod_sendHello 1 := ⟨wa_4 (List.mem_of_getElem? (i := 200) (by decide +kernel)) (by decide +kernel), wn_Mod_sendHello, wk_Mod_sendHello, by decide +kernel⟩
theorem wk_Mod_ends : Cond.code md_Mod_ends.1 md_Mod_ends.2.1 md_Mod_ends.2.2.1 md_Mod_ends.2.2.2 ∈ WA := wa_5 (List.mem_of_getElem? (i := 3) (by decide +kernel)) (by decide +kernel)
theorem wn_Mod_ends : Cond.initialized md_Mod_ends.1.cls ∈ WA := wa_1 (List.mem_of_getElem? (i := 8) (by decide +kernel)) (by decide +kernel)
theorem mv_Mod_ends : Cond.instanceMethod md_Mod_ends.1 ∈ WA ∧ Cond.selects md_Mod_ends.1.cls md_Mod_ends.1 md_Mod_ends.1 ∈ WA := ⟨wa_5 (List.mem_of_getElem? (i := 2) (by decide +kernel)) (by decide +kernel), wa_0 (List.mem_of_getElem? (i := 16) (by decide +kernel)) (by decide +kernel)⟩
theorem ml_Mod_212 : MLk R_Mod 212 md_Mod_ends 2 := ⟨wa_5 (List.mem_of_getElem? (i := 0) (by decide +kernel)) (by decide +kernel), wn_Mod_ends, wk_Mod_ends, by decide +kernel⟩
theorem wk_Mod_isPlace : Cond.code md_Mod_isPlace.1 md_Mod_isPlace.2.1 md_Mod_isPlace.2.2.1 md_Mod_isPlace.2.2.2 ∈ WA := wa_5 (List.mem_of_getElem? (i := 22) (by decide +kernel)) (by decide +kernel)
theorem wn_Mod_isPlace : Cond.initialized md_Mod_isPlace.1.cls ∈ WA := wa_1 (List.mem_of_getElem? (i := 8) (by decide +kernel)) (by decide +kernel)
theorem mv_Mod_isPlace : Cond.instanceMethod md_Mod_isPlace.1 ∈ WA ∧ Cond.selects md_Mod_isPlace.1.cls md_Mod_isPlace.1 md_Mod_isPlace.1 ∈ WA := ⟨wa_5 (List.mem_of_getElem? (i := 21) (by decide +kernel)) (by decide +kernel), wa_0 (List.mem_of_getElem? (i := 18) (by decide +kernel)) (by decide +kernel)⟩
theorem ml_Mod_216 : MLk R_Mod 216 md_Mod_isPlace 1 := ⟨wa_5 (List.mem_of_getElem? (i := 19) (by decide +kernel)) (by decide +kernel), wn_Mod_isPlace, wk_Mod_isPlace, by decide +kernel⟩
theorem wk_Mod_hears : Cond.code md_Mod_hears.1 md_Mod_hears.2.1 md_Mod_hears.2.2.1 md_Mod_hears.2.2.2 ∈ WA := wa_5 (List.mem_of_getElem? (i := 26) (by decide +kernel)) (by decide +kernel)
theorem wn_Mod_hears : Cond.initialized md_Mod_hears.1.cls ∈ WA := wa_1 (List.mem_of_getElem? (i := 8) (by decide +kernel)) (by decide +kernel)
theorem mv_Mod_hears : Cond.instanceMethod md_Mod_hears.1 ∈ WA ∧ Cond.selects md_Mod_hears.1.cls md_Mod_hears.1 md_Mod_hears.1 ∈ WA := ⟨wa_5 (List.mem_of_getElem? (i := 25) (by decide +kernel)) (by decide +kernel), wa_0 (List.mem_of_getElem? (i := 19) (by decide +kernel)) (by decide +kernel)⟩
theorem ml_Mod_219 : MLk R_Mod 219 md_Mod_hears 1 := ⟨wa_5 (List.mem_of_getElem? (i := 23) (by decide +kernel)) (by decide +kernel), wn_Mod_hears, wk_Mod_hears, by decide +kernel⟩
end
section
/-! what the operations do, on the columns: servers (index s): 0 state 1 offset 2 epoch 3 live 4 heard 5 declared 6 fuse 7 writes; records (index 32 s + a): 10 kind 11 client 12 end 13 request 14 released 15 version 16 since 17 pending 18 known 19 seen 20 void 21 sole 22 fresh; clients: 30 leased 31 until 32 last 33 lastKind; 40 time 41 most 42 addresses 43 lead 44 skew -/
def gr (x y : Int32) : Int32 := if x < y then y else x
def b01 (c : Prop) [Decidable c] : Int32 := if c then 1 else 0
theorem b01_t {c : Prop} [Decidable c] (h : c) : b01 c = 1 := if_pos h
theorem b01_f {c : Prop} [Decidable c] (h : ¬ c) : b01 c = 0 := if_neg h
theorem b01_0 {c : Prop} [Decidable c] : b01 c = 0 ↔ ¬ c := by unfold b01; split <;> simp_all
theorem b01_1 {c : Prop} [Decidable c] : b01 c = 1 ↔ c := by unfold b01; split <;> simp_all
theorem b01_z (c : Prop) [Decidable c] : b01 c = 0 ∨ b01 c = 1 := by unfold b01; split <;> simp
def wr (A : MI) (s : Nat) : MI :=
  if A 6 s = 1 then up (up (up A 7 s (A 7 s + 1)) 0 s 0) 6 s 0 else if 1 < A 6 s then up (up A 7 s (A 7 s + 1)) 6 s (A 6 s - 1) else up A 7 s (A 7 s + 1)
def chg (A : MI) (r : Nat) : MI := up (up A 15 r (A 15 r + 1)) 17 r 1
def chgTo (A : MI) (r : Nat) (k : Int32) : MI := chg (up A 10 r k) r
def bnd (A : MI) (r : Nat) (c e q sn : Int32) : MI := up (up (up (up (up (up (up A 10 r 2) 11 r c) 12 r e) 13 r q) 14 r 0) 16 r sn) 18 r 0
def settle (A : MI) (r : Nat) (k : Int32) : MI := up (up A 10 r k) 17 r 0
theorem d_Rec_change_0 : decode b_Rec_change 0 = .ok (.aload_n 0, 1) := by decide +kernel
theorem d_Rec_change_1 : decode b_Rec_change 1 = .ok (.dup, 1) := by decide +kernel
theorem d_Rec_change_2 : decode b_Rec_change 2 = .ok (.getfield 18, 3) := by decide +kernel
theorem d_Rec_change_5 : decode b_Rec_change 5 = .ok (.iconst 1, 1) := by decide +kernel
theorem d_Rec_change_6 : decode b_Rec_change 6 = .ok (.iadd, 1) := by decide +kernel
theorem d_Rec_change_7 : decode b_Rec_change 7 = .ok (.putfield 18, 3) := by decide +kernel
theorem d_Rec_change_10 : decode b_Rec_change 10 = .ok (.aload_n 0, 1) := by decide +kernel
theorem d_Rec_change_11 : decode b_Rec_change 11 = .ok (.iconst 1, 1) := by decide +kernel
theorem d_Rec_change_12 : decode b_Rec_change 12 = .ok (.putfield 21, 3) := by decide +kernel
theorem d_Rec_change_15 : decode b_Rec_change 15 = .ok (.return_, 1) := by decide +kernel
set_option maxRecDepth 100000 in
set_option maxHeartbeats 4000000 in
theorem c_Rec_change (l : Launch) (K : Kx) (V : Vx) (A B C D : MI) (P : MP) (r : Nat) (hr : V.1 2 r) : Ct l K md_Rec_change (0, 0) 0 0 [.ref (K.ad 2 r)] V (bk4 A B C D) P (EQ V (none) (bk4 (chg A r) B C D) P) := by
  refine ct_of [(0, .ref (K.ad 2 r))] (by decide) (Nat.le_of_ble_eq_true rfl) (ca_r ca_n) rfl ?_
  intro X hl hX
  have h : OkX X b_Rec_change R_Rec K := hX.1
  have hN : X.nL = 1 := hX.2.1
  refine j_aload_n h d_Rec_change_0 rfl ?_
  refine j_dup h d_Rec_change_1 rfl ?_
  refine j_get0 h d_Rec_change_2 fl_Rec_18 rfl (by assumption) ?_
  refine j_iconst (v := 1) h d_Rec_change_5 (by decide) ?_
  refine j_iadd h d_Rec_change_6 ?_
  refine j_put0 h d_Rec_change_7 fw_Rec_18 rfl rfl (by assumption) ?_
  refine j_aload_n h d_Rec_change_10 rfl ?_
  refine j_iconst (v := 1) h d_Rec_change_11 (by decide) ?_
  refine j_putZ0 h d_Rec_change_12 fw_Rec_21 rfl rfl (by assumption) (by first | exact Or.inl rfl | exact Or.inr rfl | assumption) ?_
  exact j_vret hX d_Rec_change_15 rfl (Nat.le_refl _) (Nat.le_refl _) ⟨rfl, rfl, rfl, rfl⟩
theorem d_Rec_changeTo_0 : decode b_Rec_changeTo 0 = .ok (.aload_n 0, 1) := by decide +kernel
theorem d_Rec_changeTo_1 : decode b_Rec_changeTo 1 = .ok (.iload_n 1, 1) := by decide +kernel
theorem d_Rec_changeTo_2 : decode b_Rec_changeTo 2 = .ok (.putfield 9, 3) := by decide +kernel
theorem d_Rec_changeTo_5 : decode b_Rec_changeTo 5 = .ok (.aload_n 0, 1) := by decide +kernel
theorem d_Rec_changeTo_6 : decode b_Rec_changeTo 6 = .ok (.invokevirtual 25, 3) := by decide +kernel
theorem d_Rec_changeTo_9 : decode b_Rec_changeTo 9 = .ok (.return_, 1) := by decide +kernel
set_option maxRecDepth 100000 in
set_option maxHeartbeats 4000000 in
theorem c_Rec_changeTo (l : Launch) (K : Kx) (V : Vx) (A B C D : MI) (P : MP) (r : Nat) (hr : V.1 2 r) (k : Int32) : Ct l K md_Rec_changeTo (1, 20) 0 0 [.ref (K.ad 2 r), .int k] V (bk4 A B C D) P (EQ V (none) (bk4 (chgTo A r k) B C D) P) := by
  refine ct_of [(0, .ref (K.ad 2 r)), (1, .int k)] (by decide) (Nat.le_of_ble_eq_true rfl) (ca_r (ca_i ca_n)) rfl ?_
  intro X hl hX
  have h : OkX X b_Rec_changeTo R_Rec K := hX.1
  have hN : X.nL = 2 := hX.2.1
  refine j_aload_n h d_Rec_changeTo_0 rfl ?_
  refine j_iload_n h d_Rec_changeTo_1 rfl ?_
  refine j_put0 h d_Rec_changeTo_2 fw_Rec_9 rfl rfl (by assumption) ?_
  refine j_aload_n h d_Rec_changeTo_5 rfl ?_
  refine j_callV h (c_Rec_change _ _ _ _ _ _ _ _ _ hr) d_Rec_changeTo_6 ml_Rec_25 mv_Rec_change (by assumption) ⟨rfl, rfl⟩ rfl rfl (Nat.le_of_ble_eq_true rfl) (hR_of hX (by decide) (by decide)) (hf_of hX (by decide) (by decide)) ?_
  rintro _ _ _ _ ⟨rfl, rfl, rfl, rfl⟩
  exact j_vret hX d_Rec_changeTo_9 rfl (Nat.le_refl _) (Nat.le_refl _) ⟨rfl, rfl, rfl, rfl⟩
theorem d_Rec_bind_0 : decode b_Rec_bind 0 = .ok (.aload_n 0, 1) := by decide +kernel
theorem d_Rec_bind_1 : decode b_Rec_bind 1 = .ok (.iconst 2, 1) := by decide +kernel
theorem d_Rec_bind_2 : decode b_Rec_bind 2 = .ok (.putfield 9, 3) := by decide +kernel
theorem d_Rec_bind_5 : decode b_Rec_bind 5 = .ok (.aload_n 0, 1) := by decide +kernel
theorem d_Rec_bind_6 : decode b_Rec_bind 6 = .ok (.iload_n 1, 1) := by decide +kernel
theorem d_Rec_bind_7 : decode b_Rec_bind 7 = .ok (.putfield 15, 3) := by decide +kernel
theorem d_Rec_bind_10 : decode b_Rec_bind 10 = .ok (.aload_n 0, 1) := by decide +kernel
theorem d_Rec_bind_11 : decode b_Rec_bind 11 = .ok (.iload_n 2, 1) := by decide +kernel
theorem d_Rec_bind_12 : decode b_Rec_bind 12 = .ok (.putfield 28, 3) := by decide +kernel
theorem d_Rec_bind_15 : decode b_Rec_bind 15 = .ok (.aload_n 0, 1) := by decide +kernel
theorem d_Rec_bind_16 : decode b_Rec_bind 16 = .ok (.iload_n 3, 1) := by decide +kernel
theorem d_Rec_bind_17 : decode b_Rec_bind 17 = .ok (.putfield 31, 3) := by decide +kernel
theorem d_Rec_bind_20 : decode b_Rec_bind 20 = .ok (.aload_n 0, 1) := by decide +kernel
theorem d_Rec_bind_21 : decode b_Rec_bind 21 = .ok (.iconst 0, 1) := by decide +kernel
theorem d_Rec_bind_22 : decode b_Rec_bind 22 = .ok (.putfield 34, 3) := by decide +kernel
theorem d_Rec_bind_25 : decode b_Rec_bind 25 = .ok (.aload_n 0, 1) := by decide +kernel
theorem d_Rec_bind_26 : decode b_Rec_bind 26 = .ok (.iload 4, 2) := by decide +kernel
theorem d_Rec_bind_28 : decode b_Rec_bind 28 = .ok (.putfield 37, 3) := by decide +kernel
theorem d_Rec_bind_31 : decode b_Rec_bind 31 = .ok (.aload_n 0, 1) := by decide +kernel
theorem d_Rec_bind_32 : decode b_Rec_bind 32 = .ok (.iconst 0, 1) := by decide +kernel
theorem d_Rec_bind_33 : decode b_Rec_bind 33 = .ok (.putfield 40, 3) := by decide +kernel
theorem d_Rec_bind_36 : decode b_Rec_bind 36 = .ok (.return_, 1) := by decide +kernel
set_option maxRecDepth 100000 in
set_option maxHeartbeats 4000000 in
theorem c_Rec_bind (l : Launch) (K : Kx) (V : Vx) (A B C D : MI) (P : MP) (r : Nat) (hr : V.1 2 r) (c e q sn : Int32) : Ct l K md_Rec_bind (0, 0) 0 0 [.ref (K.ad 2 r), .int c, .int e, .int q, .int sn] V (bk4 A B C D) P (EQ V (none) (bk4 (bnd A r c e q sn) B C D) P) := by
  refine ct_of [(0, .ref (K.ad 2 r)), (1, .int c), (2, .int e), (3, .int q), (4, .int sn)] (by decide) (Nat.le_of_ble_eq_true rfl) (ca_r (ca_i (ca_i (ca_i (ca_i ca_n))))) rfl ?_
  intro X hl hX
  have h : OkX X b_Rec_bind R_Rec K := hX.1
  have hN : X.nL = 5 := hX.2.1
  refine j_aload_n h d_Rec_bind_0 rfl ?_
  refine j_iconst (v := 2) h d_Rec_bind_1 (by decide) ?_
  refine j_put0 h d_Rec_bind_2 fw_Rec_9 rfl rfl (by assumption) ?_
  refine j_aload_n h d_Rec_bind_5 rfl ?_
  refine j_iload_n h d_Rec_bind_6 rfl ?_
  refine j_put0 h d_Rec_bind_7 fw_Rec_15 rfl rfl (by assumption) ?_
  refine j_aload_n h d_Rec_bind_10 rfl ?_
  refine j_iload_n h d_Rec_bind_11 rfl ?_
  refine j_put0 h d_Rec_bind_12 fw_Rec_28 rfl rfl (by assumption) ?_
  refine j_aload_n h d_Rec_bind_15 rfl ?_
  refine j_iload_n h d_Rec_bind_16 rfl ?_
  refine j_put0 h d_Rec_bind_17 fw_Rec_31 rfl rfl (by assumption) ?_
  refine j_aload_n h d_Rec_bind_20 rfl ?_
  refine j_iconst (v := 0) h d_Rec_bind_21 (by decide) ?_
  refine j_putZ0 h d_Rec_bind_22 fw_Rec_34 rfl rfl (by assumption) (by first | exact Or.inl rfl | exact Or.inr rfl | assumption) ?_
  refine j_aload_n h d_Rec_bind_25 rfl ?_
  refine j_iload h d_Rec_bind_26 rfl ?_
  refine j_put0 h d_Rec_bind_28 fw_Rec_37 rfl rfl (by assumption) ?_
  refine j_aload_n h d_Rec_bind_31 rfl ?_
  refine j_iconst (v := 0) h d_Rec_bind_32 (by decide) ?_
  refine j_put0 h d_Rec_bind_33 fw_Rec_40 rfl rfl (by assumption) ?_
  exact j_vret hX d_Rec_bind_36 rfl (Nat.le_refl _) (Nat.le_refl _) ⟨rfl, rfl, rfl, rfl⟩
theorem d_Rec_settle_0 : decode b_Rec_settle 0 = .ok (.aload_n 0, 1) := by decide +kernel
theorem d_Rec_settle_1 : decode b_Rec_settle 1 = .ok (.iload_n 1, 1) := by decide +kernel
theorem d_Rec_settle_2 : decode b_Rec_settle 2 = .ok (.putfield 9, 3) := by decide +kernel
theorem d_Rec_settle_5 : decode b_Rec_settle 5 = .ok (.aload_n 0, 1) := by decide +kernel
theorem d_Rec_settle_6 : decode b_Rec_settle 6 = .ok (.iconst 0, 1) := by decide +kernel
theorem d_Rec_settle_7 : decode b_Rec_settle 7 = .ok (.putfield 21, 3) := by decide +kernel
theorem d_Rec_settle_10 : decode b_Rec_settle 10 = .ok (.return_, 1) := by decide +kernel
set_option maxRecDepth 100000 in
set_option maxHeartbeats 4000000 in
theorem c_Rec_settle (l : Launch) (K : Kx) (V : Vx) (A B C D : MI) (P : MP) (r : Nat) (hr : V.1 2 r) (k : Int32) : Ct l K md_Rec_settle (0, 0) 0 0 [.ref (K.ad 2 r), .int k] V (bk4 A B C D) P (EQ V (none) (bk4 (settle A r k) B C D) P) := by
  refine ct_of [(0, .ref (K.ad 2 r)), (1, .int k)] (by decide) (Nat.le_of_ble_eq_true rfl) (ca_r (ca_i ca_n)) rfl ?_
  intro X hl hX
  have h : OkX X b_Rec_settle R_Rec K := hX.1
  have hN : X.nL = 2 := hX.2.1
  refine j_aload_n h d_Rec_settle_0 rfl ?_
  refine j_iload_n h d_Rec_settle_1 rfl ?_
  refine j_put0 h d_Rec_settle_2 fw_Rec_9 rfl rfl (by assumption) ?_
  refine j_aload_n h d_Rec_settle_5 rfl ?_
  refine j_iconst (v := 0) h d_Rec_settle_6 (by decide) ?_
  refine j_putZ0 h d_Rec_settle_7 fw_Rec_21 rfl rfl (by assumption) (by first | exact Or.inl rfl | exact Or.inr rfl | assumption) ?_
  exact j_vret hX d_Rec_settle_10 rfl (Nat.le_refl _) (Nat.le_refl _) ⟨rfl, rfl, rfl, rfl⟩
theorem d_Rec_isBoundTo_0 : decode b_Rec_isBoundTo 0 = .ok (.aload_n 0, 1) := by decide +kernel
theorem d_Rec_isBoundTo_1 : decode b_Rec_isBoundTo 1 = .ok (.getfield 9, 3) := by decide +kernel
theorem d_Rec_isBoundTo_4 : decode b_Rec_isBoundTo 4 = .ok (.iconst 2, 1) := by decide +kernel
theorem d_Rec_isBoundTo_5 : decode b_Rec_isBoundTo 5 = .ok (.if_icmp .ne 15, 3) := by decide +kernel
theorem d_Rec_isBoundTo_8 : decode b_Rec_isBoundTo 8 = .ok (.aload_n 0, 1) := by decide +kernel
theorem d_Rec_isBoundTo_9 : decode b_Rec_isBoundTo 9 = .ok (.getfield 15, 3) := by decide +kernel
theorem d_Rec_isBoundTo_12 : decode b_Rec_isBoundTo 12 = .ok (.iload_n 1, 1) := by decide +kernel
theorem d_Rec_isBoundTo_13 : decode b_Rec_isBoundTo 13 = .ok (.if_icmp .ne 7, 3) := by decide +kernel
theorem d_Rec_isBoundTo_16 : decode b_Rec_isBoundTo 16 = .ok (.iconst 1, 1) := by decide +kernel
theorem d_Rec_isBoundTo_17 : decode b_Rec_isBoundTo 17 = .ok (.goto 4, 3) := by decide +kernel
theorem d_Rec_isBoundTo_20 : decode b_Rec_isBoundTo 20 = .ok (.iconst 0, 1) := by decide +kernel
theorem d_Rec_isBoundTo_21 : decode b_Rec_isBoundTo 21 = .ok (.ireturn, 1) := by decide +kernel
set_option maxRecDepth 100000 in
set_option maxHeartbeats 4000000 in
theorem c_Rec_isBoundTo (l : Launch) (K : Kx) (V : Vx) (A B C D : MI) (P : MP) (r : Nat) (hr : V.1 2 r) (x : Int32) : Ct l K md_Rec_isBoundTo (0, 0) 0 0 [.ref (K.ad 2 r), .int x] V (bk4 A B C D) P (EQ V (some (.int (b01 (A 10 r = 2 ∧ A 11 r = x)))) (bk4 A B C D) P) := by
  refine ct_of [(0, .ref (K.ad 2 r)), (1, .int x)] (by decide) (Nat.le_of_ble_eq_true rfl) (ca_r (ca_i ca_n)) rfl ?_
  intro X hl hX
  have h : OkX X b_Rec_isBoundTo R_Rec K := hX.1
  have hN : X.nL = 2 := hX.2.1
  refine j_aload_n h d_Rec_isBoundTo_0 rfl ?_
  refine j_get0 h d_Rec_isBoundTo_1 fl_Rec_9 rfl (by assumption) ?_
  refine j_iconst (v := 2) h d_Rec_isBoundTo_4 (by decide) ?_
  refine j_ic_ne (tgt := 20) h d_Rec_isBoundTo_5 (by decide) (fun c1 => ?_) (fun c1 => ?_)
  · refine j_iconst (v := 0) h d_Rec_isBoundTo_20 (by decide) ?_
    exact j_zret hX d_Rec_isBoundTo_21 rfl (by first | exact Or.inl rfl | exact Or.inr rfl | exact b01_z _ | assumption) (Nat.le_refl _) (Nat.le_refl _) ⟨rfl, by simp_all [b01], rfl, rfl⟩
  · refine j_aload_n h d_Rec_isBoundTo_8 rfl ?_
    refine j_get0 h d_Rec_isBoundTo_9 fl_Rec_15 rfl (by assumption) ?_
    refine j_iload_n h d_Rec_isBoundTo_12 rfl ?_
    refine j_ic_ne (tgt := 20) h d_Rec_isBoundTo_13 (by decide) (fun c2 => ?_) (fun c2 => ?_)
    · refine j_iconst (v := 0) h d_Rec_isBoundTo_20 (by decide) ?_
      exact j_zret hX d_Rec_isBoundTo_21 rfl (by first | exact Or.inl rfl | exact Or.inr rfl | exact b01_z _ | assumption) (Nat.le_refl _) (Nat.le_refl _) ⟨rfl, by simp_all [b01], rfl, rfl⟩
    · refine j_iconst (v := 1) h d_Rec_isBoundTo_16 (by decide) ?_
      refine j_goto (tgt := 21) h d_Rec_isBoundTo_17 (by decide) ?_
      exact j_zret hX d_Rec_isBoundTo_21 rfl (by first | exact Or.inl rfl | exact Or.inr rfl | exact b01_z _ | assumption) (Nat.le_refl _) (Nat.le_refl _) ⟨rfl, by simp_all [b01], rfl, rfl⟩
end
section
/-! Math.max and Math.min; switches -/
section JM
variable {X : Jx} {cc : ByteArray} {own : String} {K : Kx} {V : Vx} {I : MI3} {P : MP} {cells slots pc : Nat} {lv : List (Nat × Value)} {st : List Value} {md : Mx} {d : Nat × Nat} {mc ms : Nat} {post : Px}
theorem wq_max : Cond.code Lib.Math.max.name Lib.Math.max.code 2 (some .int) ∈ WA := wa_1 (List.mem_of_getElem? (i := 26) (by decide +kernel)) (by decide +kernel)
theorem wr_max : Cond.static Lib.Math.max.name ∈ WA := wa_1 (List.mem_of_getElem? (i := 25) (by decide +kernel)) (by decide +kernel)
theorem wq_min : Cond.code Lib.Math.min.name Lib.Math.min.code 2 (some .int) ∈ WA := wa_1 (List.mem_of_getElem? (i := 29) (by decide +kernel)) (by decide +kernel)
theorem wr_min : Cond.static Lib.Math.min.name ∈ WA := wa_1 (List.mem_of_getElem? (i := 28) (by decide +kernel)) (by decide +kernel)
theorem wj_math : Cond.initialized "java/lang/Math" ∈ WA := wa_1 (List.mem_of_getElem? (i := 2) (by decide +kernel)) (by decide +kernel)
theorem wm_LP_191 : Cond.methodLink R_LP 191 Lib.Math.max.name ∈ WA := wa_1 (List.mem_of_getElem? (i := 24) (by decide +kernel)) (by decide +kernel)
theorem wm_LP_196 : Cond.methodLink R_LP 196 Lib.Math.min.name ∈ WA := wa_1 (List.mem_of_getElem? (i := 27) (by decide +kernel)) (by decide +kernel)
theorem wm_Rec_54 : Cond.methodLink R_Rec 54 Lib.Math.max.name ∈ WA := wa_2 (List.mem_of_getElem? (i := 202) (by decide +kernel)) (by decide +kernel)
theorem wm_Srv_117 : Cond.methodLink R_Srv 117 Lib.Math.min.name ∈ WA := wa_2 (List.mem_of_getElem? (i := 138) (by decide +kernel)) (by decide +kernel)
theorem wm_Srv_139 : Cond.methodLink R_Srv 139 Lib.Math.max.name ∈ WA := wa_2 (List.mem_of_getElem? (i := 148) (by decide +kernel)) (by decide +kernel)
theorem hM_of (h : HX X md K d mc ms post) {n : Nat} (h1 : 1 ≤ d.1) (h2 : n + 13 ≤ d.2) : 1 ≤ X.R.frames ∧ n + 13 ≤ X.R.locals := by
  rw [h.2.2.1]
  exact ⟨h1, h2⟩
theorem j_mmax (h : OkX X cc own K) {idx : Nat} {x y : Int32} (dd : decode cc pc = .ok (.invokestatic idx, 3)) (w : Cond.methodLink own idx Lib.Math.max.name ∈ WA) (hR : 1 ≤ X.R.frames ∧ (st.map fun v => v.category).sum + 13 ≤ X.R.locals) (hf : cells + 0 ≤ X.R.cells ∧ slots + 0 ≤ X.R.slots) (k : J X K V I P cells slots (pc + 3) lv (.int (gr x y) :: st)) : J X K V I P cells slots pc lv (.int y :: .int x :: st) := by
  intro H locs ls a b e f g
  have ht := h.2.2.2.2.1
  exact va_mmax h.1 h.2.1 (h.2.2.1.trans g.1.1.symm) h.2.2.2.1 (ht _ w) (ht _ wr_max) (ht _ wj_math) (ht _ wq_max) hR.1 hR.2 hf.1 hf.2 dd (k H locs ls a b e f g)
def ls_ (x y : Int32) : Int32 := if y < x then y else x
theorem j_mmin (h : OkX X cc own K) {idx : Nat} {x y : Int32} (dd : decode cc pc = .ok (.invokestatic idx, 3)) (w : Cond.methodLink own idx Lib.Math.min.name ∈ WA) (hR : 1 ≤ X.R.frames ∧ (st.map fun v => v.category).sum + 13 ≤ X.R.locals) (hf : cells + 0 ≤ X.R.cells ∧ slots + 0 ≤ X.R.slots) (k : J X K V I P cells slots (pc + 3) lv (.int (ls_ x y) :: st)) : J X K V I P cells slots pc lv (.int y :: .int x :: st) := by
  intro H locs ls a b e f g
  have ht := h.2.2.2.2.1
  exact va_mmin h.1 h.2.1 (h.2.2.1.trans g.1.1.symm) h.2.2.2.1 (ht _ w) (ht _ wr_min) (ht _ wj_math) (ht _ wq_min) hR.1 hR.2 hf.1 hf.2 dd (k H locs ls a b e f g)
theorem j_tabIn (h : OkX X cc own K) {dflt lo hi : Int} {offs : Array Int} {len : Nat} {x : Int32} {off : Int} {tgt : Nat} (dd : decode cc pc = .ok (.tableswitch dflt lo hi offs, len)) (h1 : ¬ x.toInt < lo) (h2 : ¬ hi < x.toInt) (ho : offs[(x.toInt - lo).toNat]? = some off) (ht : (pc : Int) + off = (tgt : Int)) (k : J X K V I P cells slots tgt lv st) : J X K V I P cells slots pc lv (.int x :: st) :=
  fun H locs ls a b e f g => lv_tableIn h.1 h.2.1 dd h1 h2 ho ht (k H locs ls a b e f g)
theorem j_tabOut (h : OkX X cc own K) {dflt lo hi : Int} {offs : Array Int} {len : Nat} {x : Int32} {tgt : Nat} (dd : decode cc pc = .ok (.tableswitch dflt lo hi offs, len)) (h1 : x.toInt < lo ∨ hi < x.toInt) (ht : (pc : Int) + dflt = (tgt : Int)) (k : J X K V I P cells slots tgt lv st) : J X K V I P cells slots pc lv (.int x :: st) :=
  fun H locs ls a b e f g => lv_tableOut h.1 h.2.1 dd h1 ht (k H locs ls a b e f g)
theorem j_look (h : OkX X cc own K) {dflt : Int} {ps : Array (Int × Int)} {len : Nat} {x : Int32} {off : Int} {tgt : Nat} (dd : decode cc pc = .ok (.lookupswitch dflt ps, len)) (hp : (ps.toList.zip (ps.toList.drop 1)).all (fun (a, next) => a.1 < next.1) = true) (ho : Op.lookupswitch.offset ps.toList dflt x.toInt = off) (ht : (pc : Int) + off = (tgt : Int)) (k : J X K V I P cells slots tgt lv st) : J X K V I P cells slots pc lv (.int x :: st) :=
  fun H locs ls a b e f g => lv_lookup h.1 h.2.1 dd hp ho ht (k H locs ls a b e f g)
end JM
theorem up_rd {α : Type} (f : Nat → Nat → α) (c i c' i' : Nat) (v : α) : up f c i v c' i' = if c' = c ∧ i' = i then v else f c' i' := rfl
end
section
theorem chg_rd (A : MI) (r c i : Nat) : chg A r c i = if c = 17 ∧ i = r then 1 else if c = 15 ∧ i = r then A 15 r + 1 else A c i := rfl
theorem chgTo_rd (A : MI) (r : Nat) (k : Int32) (c i : Nat) : chgTo A r k c i = if c = 17 ∧ i = r then 1 else if c = 15 ∧ i = r then A 15 r + 1 else if c = 10 ∧ i = r then k else A c i := by
  simp only [chgTo, chg_rd, up_rd]
  simp
theorem settle_rd (A : MI) (r : Nat) (k : Int32) (c i : Nat) : settle A r k c i = if c = 17 ∧ i = r then 0 else if c = 10 ∧ i = r then k else A c i := rfl
theorem bnd_rd (A : MI) (r : Nat) (x e q sn : Int32) (c i : Nat) : bnd A r x e q sn c i = if c = 18 ∧ i = r then 0 else if c = 16 ∧ i = r then sn else if c = 14 ∧ i = r then 0 else if c = 13 ∧ i = r then q else if c = 12 ∧ i = r then e else if c = 11 ∧ i = r then x else if c = 10 ∧ i = r then 2 else A c i := rfl
/-! records that hear updates; clients; messages; small methods of servers -/
def tkBound (A : MI) (r : Nat) (c e rq : Int32) : Int32 × MI :=
  if A 10 r = 0 then (1, up (bnd A r c e rq (A 15 r + 1)) 17 r 0)
  else if ¬ A 11 r = c ∨ (¬ A 10 r = 2 ∧ ¬ A 10 r = 3) then (0, A)
  else if A 10 r = 2 then (1, up (up A 13 r (gr (A 13 r) rq)) 12 r (gr (A 12 r) e))
  else if A 13 r < rq ∨ (¬ e ≤ A 12 r ∧ A 14 r = 0) then (1, up (chgTo (up (up A 13 r (gr (A 13 r) rq)) 14 r 0) r 2) 12 r (gr (A 12 r) e))
  else (1, up A 12 r (gr (A 12 r) e))
def mayEnd (A : MI) (r : Nat) (clk rel rq y : Int32) : Prop := (A 10 r = 2 ∧ (A 12 r ≤ clk ∨ (¬ rel = 0 ∧ A 13 r < rq))) ∨ (A 10 r = 3 ∧ ¬ y = 0)
theorem mayEnd_d (A : MI) (r : Nat) (clk rel rq y : Int32) : mayEnd A r clk rel rq y ∨ ¬ mayEnd A r clk rel rq y := Classical.em _
noncomputable def mayEnd1 (A : MI) (r : Nat) (clk rel rq y : Int32) : Int32 := @ite _ (mayEnd A r clk rel rq y) (Classical.propDecidable _) 1 0
noncomputable def tkEnding (A : MI) (r : Nat) (c e clk rel rq y : Int32) : Int32 × MI :=
  if A 10 r = 0 then (1, up A 12 r (gr (A 12 r) e))
  else if A 11 r = c ∧ ¬ mayEnd1 A r clk rel rq y = 0 then (1, settle (up A 12 r (gr (A 12 r) e)) r 0)
  else (0, A)
def tkGiven (A : MI) (r : Nat) : Int32 × MI := if A 10 r = 0 then (1, settle A r 1) else (0, A)
def lnKnown (A : MI) (r : Nat) (num amt : Int32) : Int32 × MI :=
  if (A 10 r = 2 ∨ A 10 r = 3) ∧ ¬ num < A 16 r ∧ A 18 r < amt then (1, up A 18 r amt) else (0, A)
def lnAck (A : MI) (r : Nat) (num ov : Int32) : Int32 × MI :=
  if A 17 r = 0 ∨ ¬ num = A 15 r then (0, A)
  else if A 10 r = 3 then (1, up (up (up A 17 r 0) 10 r 1) 19 r (gr (A 19 r) ov))
  else if A 10 r = 4 then (1, up (up (up A 17 r 0) 10 r 0) 19 r (gr (A 19 r) ov))
  else (1, up A 17 r 0)
theorem d_Rec_takeBound_0 : decode b_Rec_takeBound 0 = .ok (.aload_n 0, 1) := by decide +kernel
theorem d_Rec_takeBound_1 : decode b_Rec_takeBound 1 = .ok (.getfield 9, 3) := by decide +kernel
theorem d_Rec_takeBound_4 : decode b_Rec_takeBound 4 = .ok (.ifCond .ne 32, 3) := by decide +kernel
theorem d_Rec_takeBound_7 : decode b_Rec_takeBound 7 = .ok (.aload_n 0, 1) := by decide +kernel
theorem d_Rec_takeBound_8 : decode b_Rec_takeBound 8 = .ok (.aload_n 1, 1) := by decide +kernel
theorem d_Rec_takeBound_9 : decode b_Rec_takeBound 9 = .ok (.getfield 43, 3) := by decide +kernel
theorem d_Rec_takeBound_12 : decode b_Rec_takeBound 12 = .ok (.aload_n 1, 1) := by decide +kernel
theorem d_Rec_takeBound_13 : decode b_Rec_takeBound 13 = .ok (.getfield 46, 3) := by decide +kernel
theorem d_Rec_takeBound_16 : decode b_Rec_takeBound 16 = .ok (.aload_n 1, 1) := by decide +kernel
theorem d_Rec_takeBound_17 : decode b_Rec_takeBound 17 = .ok (.getfield 49, 3) := by decide +kernel
theorem d_Rec_takeBound_20 : decode b_Rec_takeBound 20 = .ok (.aload_n 0, 1) := by decide +kernel
theorem d_Rec_takeBound_21 : decode b_Rec_takeBound 21 = .ok (.getfield 18, 3) := by decide +kernel
theorem d_Rec_takeBound_24 : decode b_Rec_takeBound 24 = .ok (.iconst 1, 1) := by decide +kernel
theorem d_Rec_takeBound_25 : decode b_Rec_takeBound 25 = .ok (.iadd, 1) := by decide +kernel
theorem d_Rec_takeBound_26 : decode b_Rec_takeBound 26 = .ok (.invokevirtual 50, 3) := by decide +kernel
theorem d_Rec_takeBound_29 : decode b_Rec_takeBound 29 = .ok (.aload_n 0, 1) := by decide +kernel
theorem d_Rec_takeBound_30 : decode b_Rec_takeBound 30 = .ok (.iconst 0, 1) := by decide +kernel
theorem d_Rec_takeBound_31 : decode b_Rec_takeBound 31 = .ok (.putfield 21, 3) := by decide +kernel
theorem d_Rec_takeBound_34 : decode b_Rec_takeBound 34 = .ok (.iconst 1, 1) := by decide +kernel
theorem d_Rec_takeBound_35 : decode b_Rec_takeBound 35 = .ok (.ireturn, 1) := by decide +kernel
theorem d_Rec_takeBound_36 : decode b_Rec_takeBound 36 = .ok (.aload_n 0, 1) := by decide +kernel
theorem d_Rec_takeBound_37 : decode b_Rec_takeBound 37 = .ok (.getfield 15, 3) := by decide +kernel
theorem d_Rec_takeBound_40 : decode b_Rec_takeBound 40 = .ok (.aload_n 1, 1) := by decide +kernel
theorem d_Rec_takeBound_41 : decode b_Rec_takeBound 41 = .ok (.getfield 43, 3) := by decide +kernel
theorem d_Rec_takeBound_44 : decode b_Rec_takeBound 44 = .ok (.if_icmp .ne 19, 3) := by decide +kernel
theorem d_Rec_takeBound_47 : decode b_Rec_takeBound 47 = .ok (.aload_n 0, 1) := by decide +kernel
theorem d_Rec_takeBound_48 : decode b_Rec_takeBound 48 = .ok (.getfield 9, 3) := by decide +kernel
theorem d_Rec_takeBound_51 : decode b_Rec_takeBound 51 = .ok (.iconst 2, 1) := by decide +kernel
theorem d_Rec_takeBound_52 : decode b_Rec_takeBound 52 = .ok (.if_icmp .eq 13, 3) := by decide +kernel
theorem d_Rec_takeBound_55 : decode b_Rec_takeBound 55 = .ok (.aload_n 0, 1) := by decide +kernel
theorem d_Rec_takeBound_56 : decode b_Rec_takeBound 56 = .ok (.getfield 9, 3) := by decide +kernel
theorem d_Rec_takeBound_59 : decode b_Rec_takeBound 59 = .ok (.iconst 3, 1) := by decide +kernel
theorem d_Rec_takeBound_60 : decode b_Rec_takeBound 60 = .ok (.if_icmp .eq 5, 3) := by decide +kernel
theorem d_Rec_takeBound_63 : decode b_Rec_takeBound 63 = .ok (.iconst 0, 1) := by decide +kernel
theorem d_Rec_takeBound_64 : decode b_Rec_takeBound 64 = .ok (.ireturn, 1) := by decide +kernel
theorem d_Rec_takeBound_65 : decode b_Rec_takeBound 65 = .ok (.aload_n 0, 1) := by decide +kernel
theorem d_Rec_takeBound_66 : decode b_Rec_takeBound 66 = .ok (.getfield 9, 3) := by decide +kernel
theorem d_Rec_takeBound_69 : decode b_Rec_takeBound 69 = .ok (.iconst 2, 1) := by decide +kernel
theorem d_Rec_takeBound_70 : decode b_Rec_takeBound 70 = .ok (.if_icmp .ne 21, 3) := by decide +kernel
theorem d_Rec_takeBound_73 : decode b_Rec_takeBound 73 = .ok (.aload_n 0, 1) := by decide +kernel
theorem d_Rec_takeBound_74 : decode b_Rec_takeBound 74 = .ok (.aload_n 0, 1) := by decide +kernel
theorem d_Rec_takeBound_75 : decode b_Rec_takeBound 75 = .ok (.getfield 31, 3) := by decide +kernel
theorem d_Rec_takeBound_78 : decode b_Rec_takeBound 78 = .ok (.aload_n 1, 1) := by decide +kernel
theorem d_Rec_takeBound_79 : decode b_Rec_takeBound 79 = .ok (.getfield 49, 3) := by decide +kernel
theorem d_Rec_takeBound_82 : decode b_Rec_takeBound 82 = .ok (.invokestatic 54, 3) := by decide +kernel
theorem d_Rec_takeBound_85 : decode b_Rec_takeBound 85 = .ok (.putfield 31, 3) := by decide +kernel
theorem d_Rec_takeBound_88 : decode b_Rec_takeBound 88 = .ok (.goto 57, 3) := by decide +kernel
theorem d_Rec_takeBound_91 : decode b_Rec_takeBound 91 = .ok (.aload_n 1, 1) := by decide +kernel
theorem d_Rec_takeBound_92 : decode b_Rec_takeBound 92 = .ok (.getfield 49, 3) := by decide +kernel
theorem d_Rec_takeBound_95 : decode b_Rec_takeBound 95 = .ok (.aload_n 0, 1) := by decide +kernel
theorem d_Rec_takeBound_96 : decode b_Rec_takeBound 96 = .ok (.getfield 31, 3) := by decide +kernel
theorem d_Rec_takeBound_99 : decode b_Rec_takeBound 99 = .ok (.if_icmp .gt 21, 3) := by decide +kernel
theorem d_Rec_takeBound_102 : decode b_Rec_takeBound 102 = .ok (.aload_n 1, 1) := by decide +kernel
theorem d_Rec_takeBound_103 : decode b_Rec_takeBound 103 = .ok (.getfield 46, 3) := by decide +kernel
theorem d_Rec_takeBound_106 : decode b_Rec_takeBound 106 = .ok (.aload_n 0, 1) := by decide +kernel
theorem d_Rec_takeBound_107 : decode b_Rec_takeBound 107 = .ok (.getfield 28, 3) := by decide +kernel
theorem d_Rec_takeBound_110 : decode b_Rec_takeBound 110 = .ok (.if_icmp .le 35, 3) := by decide +kernel
theorem d_Rec_takeBound_113 : decode b_Rec_takeBound 113 = .ok (.aload_n 0, 1) := by decide +kernel
theorem d_Rec_takeBound_114 : decode b_Rec_takeBound 114 = .ok (.getfield 34, 3) := by decide +kernel
theorem d_Rec_takeBound_117 : decode b_Rec_takeBound 117 = .ok (.ifCond .ne 28, 3) := by decide +kernel
theorem d_Rec_takeBound_120 : decode b_Rec_takeBound 120 = .ok (.aload_n 0, 1) := by decide +kernel
theorem d_Rec_takeBound_121 : decode b_Rec_takeBound 121 = .ok (.aload_n 0, 1) := by decide +kernel
theorem d_Rec_takeBound_122 : decode b_Rec_takeBound 122 = .ok (.getfield 31, 3) := by decide +kernel
theorem d_Rec_takeBound_125 : decode b_Rec_takeBound 125 = .ok (.aload_n 1, 1) := by decide +kernel
theorem d_Rec_takeBound_126 : decode b_Rec_takeBound 126 = .ok (.getfield 49, 3) := by decide +kernel
theorem d_Rec_takeBound_129 : decode b_Rec_takeBound 129 = .ok (.invokestatic 54, 3) := by decide +kernel
theorem d_Rec_takeBound_132 : decode b_Rec_takeBound 132 = .ok (.putfield 31, 3) := by decide +kernel
theorem d_Rec_takeBound_135 : decode b_Rec_takeBound 135 = .ok (.aload_n 0, 1) := by decide +kernel
theorem d_Rec_takeBound_136 : decode b_Rec_takeBound 136 = .ok (.iconst 0, 1) := by decide +kernel
theorem d_Rec_takeBound_137 : decode b_Rec_takeBound 137 = .ok (.putfield 34, 3) := by decide +kernel
theorem d_Rec_takeBound_140 : decode b_Rec_takeBound 140 = .ok (.aload_n 0, 1) := by decide +kernel
theorem d_Rec_takeBound_141 : decode b_Rec_takeBound 141 = .ok (.iconst 2, 1) := by decide +kernel
theorem d_Rec_takeBound_142 : decode b_Rec_takeBound 142 = .ok (.invokevirtual 60, 3) := by decide +kernel
theorem d_Rec_takeBound_145 : decode b_Rec_takeBound 145 = .ok (.aload_n 0, 1) := by decide +kernel
theorem d_Rec_takeBound_146 : decode b_Rec_takeBound 146 = .ok (.aload_n 0, 1) := by decide +kernel
theorem d_Rec_takeBound_147 : decode b_Rec_takeBound 147 = .ok (.getfield 28, 3) := by decide +kernel
theorem d_Rec_takeBound_150 : decode b_Rec_takeBound 150 = .ok (.aload_n 1, 1) := by decide +kernel
theorem d_Rec_takeBound_151 : decode b_Rec_takeBound 151 = .ok (.getfield 46, 3) := by decide +kernel
theorem d_Rec_takeBound_154 : decode b_Rec_takeBound 154 = .ok (.invokestatic 54, 3) := by decide +kernel
theorem d_Rec_takeBound_157 : decode b_Rec_takeBound 157 = .ok (.putfield 28, 3) := by decide +kernel
theorem d_Rec_takeBound_160 : decode b_Rec_takeBound 160 = .ok (.iconst 1, 1) := by decide +kernel
theorem d_Rec_takeBound_161 : decode b_Rec_takeBound 161 = .ok (.ireturn, 1) := by decide +kernel
set_option maxRecDepth 100000 in
set_option maxHeartbeats 4000000 in
theorem c_Rec_takeBound (l : Launch) (K : Kx) (V : Vx) (A B C D : MI) (P : MP) (r : Nat) (hr : V.1 2 r) (q : Nat) (hq : V.1 5 q) : Ct l K md_Rec_takeBound (2, 41) 0 0 [.ref (K.ad 2 r), .ref (K.ad 5 q)] V (bk4 A B C D) P (EQ V (some (.int (tkBound A r (B 89 q) (B 86 q) (B 90 q)).1)) (bk4 (tkBound A r (B 89 q) (B 86 q) (B 90 q)).2 B C D) P) := by
  refine ct_of [(0, .ref (K.ad 2 r)), (1, .ref (K.ad 5 q))] (by decide) (Nat.le_of_ble_eq_true rfl) (ca_r (ca_r ca_n)) rfl ?_
  intro X hl hX
  have h : OkX X b_Rec_takeBound R_Rec K := hX.1
  have hN : X.nL = 2 := hX.2.1
  refine j_aload_n h d_Rec_takeBound_0 rfl ?_
  refine j_get0 h d_Rec_takeBound_1 fl_Rec_9 rfl (by assumption) ?_
  refine j_if_ne (tgt := 36) h d_Rec_takeBound_4 (by decide) (fun c1 => ?_) (fun c1 => ?_)
  · refine j_aload_n h d_Rec_takeBound_36 rfl ?_
    refine j_get0 h d_Rec_takeBound_37 fl_Rec_15 rfl (by assumption) ?_
    refine j_aload_n h d_Rec_takeBound_40 rfl ?_
    refine j_get1 h d_Rec_takeBound_41 fl_Rec_43 rfl (by assumption) ?_
    refine j_ic_ne (tgt := 63) h d_Rec_takeBound_44 (by decide) (fun c2 => ?_) (fun c2 => ?_)
    · refine j_iconst (v := 0) h d_Rec_takeBound_63 (by decide) ?_
      exact j_zret hX d_Rec_takeBound_64 rfl (by first | exact Or.inl rfl | exact Or.inr rfl | exact b01_z _ | assumption) (Nat.le_refl _) (Nat.le_refl _) ⟨rfl, by clear hX h hl; first | (simp_all [tkBound, up_rd]; done) | grind [tkBound], by clear hX h hl; first | (simp_all [tkBound, up_rd, chgTo_rd]; done) | grind [tkBound, up_rd, chgTo_rd, chg_rd, settle_rd, bnd_rd], rfl⟩
    · refine j_aload_n h d_Rec_takeBound_47 rfl ?_
      refine j_get0 h d_Rec_takeBound_48 fl_Rec_9 rfl (by assumption) ?_
      refine j_iconst (v := 2) h d_Rec_takeBound_51 (by decide) ?_
      refine j_ic_eq (tgt := 65) h d_Rec_takeBound_52 (by decide) (fun c3 => ?_) (fun c3 => ?_)
      · refine j_aload_n h d_Rec_takeBound_65 rfl ?_
        refine j_get0 h d_Rec_takeBound_66 fl_Rec_9 rfl (by assumption) ?_
        refine j_iconst (v := 2) h d_Rec_takeBound_69 (by decide) ?_
        refine j_ic_ne (tgt := 91) h d_Rec_takeBound_70 (by decide) (fun c4 => ?_) (fun c4 => ?_)
        · refine j_aload_n h d_Rec_takeBound_91 rfl ?_
          refine j_get1 h d_Rec_takeBound_92 fl_Rec_49 rfl (by assumption) ?_
          refine j_aload_n h d_Rec_takeBound_95 rfl ?_
          refine j_get0 h d_Rec_takeBound_96 fl_Rec_31 rfl (by assumption) ?_
          refine j_ic_gt (tgt := 120) h d_Rec_takeBound_99 (by decide) (fun c5 => ?_) (fun c5 => ?_)
          · refine j_aload_n h d_Rec_takeBound_120 rfl ?_
            refine j_aload_n h d_Rec_takeBound_121 rfl ?_
            refine j_get0 h d_Rec_takeBound_122 fl_Rec_31 rfl (by assumption) ?_
            refine j_aload_n h d_Rec_takeBound_125 rfl ?_
            refine j_get1 h d_Rec_takeBound_126 fl_Rec_49 rfl (by assumption) ?_
            refine j_mmax h d_Rec_takeBound_129 wm_Rec_54 (hM_of hX (by decide) (Nat.le_of_ble_eq_true rfl)) (hf_of (mc' := 0) (ms' := 0) hX (by decide) (by decide)) ?_
            refine j_put0 h d_Rec_takeBound_132 fw_Rec_31 rfl rfl (by assumption) ?_
            refine j_aload_n h d_Rec_takeBound_135 rfl ?_
            refine j_iconst (v := 0) h d_Rec_takeBound_136 (by decide) ?_
            refine j_putZ0 h d_Rec_takeBound_137 fw_Rec_34 rfl rfl (by assumption) (by first | exact Or.inl rfl | exact Or.inr rfl | assumption) ?_
            refine j_aload_n h d_Rec_takeBound_140 rfl ?_
            refine j_iconst (v := 2) h d_Rec_takeBound_141 (by decide) ?_
            refine j_callV h (c_Rec_changeTo _ _ _ _ _ _ _ _ _ hr _) d_Rec_takeBound_142 ml_Rec_60 mv_Rec_changeTo (by assumption) ⟨rfl, rfl⟩ rfl rfl (Nat.le_of_ble_eq_true rfl) (hR_of hX (by decide) (by decide)) (hf_of hX (by decide) (by decide)) ?_
            rintro _ _ _ _ ⟨rfl, rfl, rfl, rfl⟩
            refine j_aload_n h d_Rec_takeBound_145 rfl ?_
            refine j_aload_n h d_Rec_takeBound_146 rfl ?_
            refine j_get0 h d_Rec_takeBound_147 fl_Rec_28 rfl (by assumption) ?_
            refine j_aload_n h d_Rec_takeBound_150 rfl ?_
            refine j_get1 h d_Rec_takeBound_151 fl_Rec_46 rfl (by assumption) ?_
            refine j_mmax h d_Rec_takeBound_154 wm_Rec_54 (hM_of hX (by decide) (Nat.le_of_ble_eq_true rfl)) (hf_of (mc' := 0) (ms' := 0) hX (by decide) (by decide)) ?_
            refine j_put0 h d_Rec_takeBound_157 fw_Rec_28 rfl rfl (by assumption) ?_
            refine j_iconst (v := 1) h d_Rec_takeBound_160 (by decide) ?_
            exact j_zret hX d_Rec_takeBound_161 rfl (by first | exact Or.inl rfl | exact Or.inr rfl | exact b01_z _ | assumption) (Nat.le_refl _) (Nat.le_refl _) ⟨rfl, by clear hX h hl; first | (simp_all [tkBound, up_rd]; done) | grind [tkBound], by clear hX h hl; first | (simp_all [tkBound, up_rd, chgTo_rd]; done) | grind [tkBound, up_rd, chgTo_rd, chg_rd, settle_rd, bnd_rd], rfl⟩
          · refine j_aload_n h d_Rec_takeBound_102 rfl ?_
            refine j_get1 h d_Rec_takeBound_103 fl_Rec_46 rfl (by assumption) ?_
            refine j_aload_n h d_Rec_takeBound_106 rfl ?_
            refine j_get0 h d_Rec_takeBound_107 fl_Rec_28 rfl (by assumption) ?_
            refine j_ic_le (tgt := 145) h d_Rec_takeBound_110 (by decide) (fun c6 => ?_) (fun c6 => ?_)
            · refine j_aload_n h d_Rec_takeBound_145 rfl ?_
              refine j_aload_n h d_Rec_takeBound_146 rfl ?_
              refine j_get0 h d_Rec_takeBound_147 fl_Rec_28 rfl (by assumption) ?_
              refine j_aload_n h d_Rec_takeBound_150 rfl ?_
              refine j_get1 h d_Rec_takeBound_151 fl_Rec_46 rfl (by assumption) ?_
              refine j_mmax h d_Rec_takeBound_154 wm_Rec_54 (hM_of hX (by decide) (Nat.le_of_ble_eq_true rfl)) (hf_of (mc' := 0) (ms' := 0) hX (by decide) (by decide)) ?_
              refine j_put0 h d_Rec_takeBound_157 fw_Rec_28 rfl rfl (by assumption) ?_
              refine j_iconst (v := 1) h d_Rec_takeBound_160 (by decide) ?_
              exact j_zret hX d_Rec_takeBound_161 rfl (by first | exact Or.inl rfl | exact Or.inr rfl | exact b01_z _ | assumption) (Nat.le_refl _) (Nat.le_refl _) ⟨rfl, by clear hX h hl; first | (simp_all [tkBound, up_rd]; done) | grind [tkBound], by clear hX h hl; first | (simp_all [tkBound, up_rd, chgTo_rd]; done) | grind [tkBound, up_rd, chgTo_rd, chg_rd, settle_rd, bnd_rd], rfl⟩
            · refine j_aload_n h d_Rec_takeBound_113 rfl ?_
              refine j_get0 h d_Rec_takeBound_114 fl_Rec_34 rfl (by assumption) ?_
              refine j_if_ne (tgt := 145) h d_Rec_takeBound_117 (by decide) (fun c7 => ?_) (fun c7 => ?_)
              · refine j_aload_n h d_Rec_takeBound_145 rfl ?_
                refine j_aload_n h d_Rec_takeBound_146 rfl ?_
                refine j_get0 h d_Rec_takeBound_147 fl_Rec_28 rfl (by assumption) ?_
                refine j_aload_n h d_Rec_takeBound_150 rfl ?_
                refine j_get1 h d_Rec_takeBound_151 fl_Rec_46 rfl (by assumption) ?_
                refine j_mmax h d_Rec_takeBound_154 wm_Rec_54 (hM_of hX (by decide) (Nat.le_of_ble_eq_true rfl)) (hf_of (mc' := 0) (ms' := 0) hX (by decide) (by decide)) ?_
                refine j_put0 h d_Rec_takeBound_157 fw_Rec_28 rfl rfl (by assumption) ?_
                refine j_iconst (v := 1) h d_Rec_takeBound_160 (by decide) ?_
                exact j_zret hX d_Rec_takeBound_161 rfl (by first | exact Or.inl rfl | exact Or.inr rfl | exact b01_z _ | assumption) (Nat.le_refl _) (Nat.le_refl _) ⟨rfl, by clear hX h hl; first | (simp_all [tkBound, up_rd]; done) | grind [tkBound], by clear hX h hl; first | (simp_all [tkBound, up_rd, chgTo_rd]; done) | grind [tkBound, up_rd, chgTo_rd, chg_rd, settle_rd, bnd_rd], rfl⟩
              · refine j_aload_n h d_Rec_takeBound_120 rfl ?_
                refine j_aload_n h d_Rec_takeBound_121 rfl ?_
                refine j_get0 h d_Rec_takeBound_122 fl_Rec_31 rfl (by assumption) ?_
                refine j_aload_n h d_Rec_takeBound_125 rfl ?_
                refine j_get1 h d_Rec_takeBound_126 fl_Rec_49 rfl (by assumption) ?_
                refine j_mmax h d_Rec_takeBound_129 wm_Rec_54 (hM_of hX (by decide) (Nat.le_of_ble_eq_true rfl)) (hf_of (mc' := 0) (ms' := 0) hX (by decide) (by decide)) ?_
                refine j_put0 h d_Rec_takeBound_132 fw_Rec_31 rfl rfl (by assumption) ?_
                refine j_aload_n h d_Rec_takeBound_135 rfl ?_
                refine j_iconst (v := 0) h d_Rec_takeBound_136 (by decide) ?_
                refine j_putZ0 h d_Rec_takeBound_137 fw_Rec_34 rfl rfl (by assumption) (by first | exact Or.inl rfl | exact Or.inr rfl | assumption) ?_
                refine j_aload_n h d_Rec_takeBound_140 rfl ?_
                refine j_iconst (v := 2) h d_Rec_takeBound_141 (by decide) ?_
                refine j_callV h (c_Rec_changeTo _ _ _ _ _ _ _ _ _ hr _) d_Rec_takeBound_142 ml_Rec_60 mv_Rec_changeTo (by assumption) ⟨rfl, rfl⟩ rfl rfl (Nat.le_of_ble_eq_true rfl) (hR_of hX (by decide) (by decide)) (hf_of hX (by decide) (by decide)) ?_
                rintro _ _ _ _ ⟨rfl, rfl, rfl, rfl⟩
                refine j_aload_n h d_Rec_takeBound_145 rfl ?_
                refine j_aload_n h d_Rec_takeBound_146 rfl ?_
                refine j_get0 h d_Rec_takeBound_147 fl_Rec_28 rfl (by assumption) ?_
                refine j_aload_n h d_Rec_takeBound_150 rfl ?_
                refine j_get1 h d_Rec_takeBound_151 fl_Rec_46 rfl (by assumption) ?_
                refine j_mmax h d_Rec_takeBound_154 wm_Rec_54 (hM_of hX (by decide) (Nat.le_of_ble_eq_true rfl)) (hf_of (mc' := 0) (ms' := 0) hX (by decide) (by decide)) ?_
                refine j_put0 h d_Rec_takeBound_157 fw_Rec_28 rfl rfl (by assumption) ?_
                refine j_iconst (v := 1) h d_Rec_takeBound_160 (by decide) ?_
                exact j_zret hX d_Rec_takeBound_161 rfl (by first | exact Or.inl rfl | exact Or.inr rfl | exact b01_z _ | assumption) (Nat.le_refl _) (Nat.le_refl _) ⟨rfl, by clear hX h hl; first | (simp_all [tkBound, up_rd]; done) | grind [tkBound], by clear hX h hl; first | (simp_all [tkBound, up_rd, chgTo_rd]; done) | grind [tkBound, up_rd, chgTo_rd, chg_rd, settle_rd, bnd_rd], rfl⟩
        · refine j_aload_n h d_Rec_takeBound_73 rfl ?_
          refine j_aload_n h d_Rec_takeBound_74 rfl ?_
          refine j_get0 h d_Rec_takeBound_75 fl_Rec_31 rfl (by assumption) ?_
          refine j_aload_n h d_Rec_takeBound_78 rfl ?_
          refine j_get1 h d_Rec_takeBound_79 fl_Rec_49 rfl (by assumption) ?_
          refine j_mmax h d_Rec_takeBound_82 wm_Rec_54 (hM_of hX (by decide) (Nat.le_of_ble_eq_true rfl)) (hf_of (mc' := 0) (ms' := 0) hX (by decide) (by decide)) ?_
          refine j_put0 h d_Rec_takeBound_85 fw_Rec_31 rfl rfl (by assumption) ?_
          refine j_goto (tgt := 145) h d_Rec_takeBound_88 (by decide) ?_
          refine j_aload_n h d_Rec_takeBound_145 rfl ?_
          refine j_aload_n h d_Rec_takeBound_146 rfl ?_
          refine j_get0 h d_Rec_takeBound_147 fl_Rec_28 rfl (by assumption) ?_
          refine j_aload_n h d_Rec_takeBound_150 rfl ?_
          refine j_get1 h d_Rec_takeBound_151 fl_Rec_46 rfl (by assumption) ?_
          refine j_mmax h d_Rec_takeBound_154 wm_Rec_54 (hM_of hX (by decide) (Nat.le_of_ble_eq_true rfl)) (hf_of (mc' := 0) (ms' := 0) hX (by decide) (by decide)) ?_
          refine j_put0 h d_Rec_takeBound_157 fw_Rec_28 rfl rfl (by assumption) ?_
          refine j_iconst (v := 1) h d_Rec_takeBound_160 (by decide) ?_
          exact j_zret hX d_Rec_takeBound_161 rfl (by first | exact Or.inl rfl | exact Or.inr rfl | exact b01_z _ | assumption) (Nat.le_refl _) (Nat.le_refl _) ⟨rfl, by clear hX h hl; first | (simp_all [tkBound, up_rd]; done) | grind [tkBound], by clear hX h hl; first | (simp_all [tkBound, up_rd, chgTo_rd]; done) | grind [tkBound, up_rd, chgTo_rd, chg_rd, settle_rd, bnd_rd], rfl⟩
      · refine j_aload_n h d_Rec_takeBound_55 rfl ?_
        refine j_get0 h d_Rec_takeBound_56 fl_Rec_9 rfl (by assumption) ?_
        refine j_iconst (v := 3) h d_Rec_takeBound_59 (by decide) ?_
        refine j_ic_eq (tgt := 65) h d_Rec_takeBound_60 (by decide) (fun c8 => ?_) (fun c8 => ?_)
        · refine j_aload_n h d_Rec_takeBound_65 rfl ?_
          refine j_get0 h d_Rec_takeBound_66 fl_Rec_9 rfl (by assumption) ?_
          refine j_iconst (v := 2) h d_Rec_takeBound_69 (by decide) ?_
          refine j_ic_ne (tgt := 91) h d_Rec_takeBound_70 (by decide) (fun c9 => ?_) (fun c9 => ?_)
          · refine j_aload_n h d_Rec_takeBound_91 rfl ?_
            refine j_get1 h d_Rec_takeBound_92 fl_Rec_49 rfl (by assumption) ?_
            refine j_aload_n h d_Rec_takeBound_95 rfl ?_
            refine j_get0 h d_Rec_takeBound_96 fl_Rec_31 rfl (by assumption) ?_
            refine j_ic_gt (tgt := 120) h d_Rec_takeBound_99 (by decide) (fun c10 => ?_) (fun c10 => ?_)
            · refine j_aload_n h d_Rec_takeBound_120 rfl ?_
              refine j_aload_n h d_Rec_takeBound_121 rfl ?_
              refine j_get0 h d_Rec_takeBound_122 fl_Rec_31 rfl (by assumption) ?_
              refine j_aload_n h d_Rec_takeBound_125 rfl ?_
              refine j_get1 h d_Rec_takeBound_126 fl_Rec_49 rfl (by assumption) ?_
              refine j_mmax h d_Rec_takeBound_129 wm_Rec_54 (hM_of hX (by decide) (Nat.le_of_ble_eq_true rfl)) (hf_of (mc' := 0) (ms' := 0) hX (by decide) (by decide)) ?_
              refine j_put0 h d_Rec_takeBound_132 fw_Rec_31 rfl rfl (by assumption) ?_
              refine j_aload_n h d_Rec_takeBound_135 rfl ?_
              refine j_iconst (v := 0) h d_Rec_takeBound_136 (by decide) ?_
              refine j_putZ0 h d_Rec_takeBound_137 fw_Rec_34 rfl rfl (by assumption) (by first | exact Or.inl rfl | exact Or.inr rfl | assumption) ?_
              refine j_aload_n h d_Rec_takeBound_140 rfl ?_
              refine j_iconst (v := 2) h d_Rec_takeBound_141 (by decide) ?_
              refine j_callV h (c_Rec_changeTo _ _ _ _ _ _ _ _ _ hr _) d_Rec_takeBound_142 ml_Rec_60 mv_Rec_changeTo (by assumption) ⟨rfl, rfl⟩ rfl rfl (Nat.le_of_ble_eq_true rfl) (hR_of hX (by decide) (by decide)) (hf_of hX (by decide) (by decide)) ?_
              rintro _ _ _ _ ⟨rfl, rfl, rfl, rfl⟩
              refine j_aload_n h d_Rec_takeBound_145 rfl ?_
              refine j_aload_n h d_Rec_takeBound_146 rfl ?_
              refine j_get0 h d_Rec_takeBound_147 fl_Rec_28 rfl (by assumption) ?_
              refine j_aload_n h d_Rec_takeBound_150 rfl ?_
              refine j_get1 h d_Rec_takeBound_151 fl_Rec_46 rfl (by assumption) ?_
              refine j_mmax h d_Rec_takeBound_154 wm_Rec_54 (hM_of hX (by decide) (Nat.le_of_ble_eq_true rfl)) (hf_of (mc' := 0) (ms' := 0) hX (by decide) (by decide)) ?_
              refine j_put0 h d_Rec_takeBound_157 fw_Rec_28 rfl rfl (by assumption) ?_
              refine j_iconst (v := 1) h d_Rec_takeBound_160 (by decide) ?_
              exact j_zret hX d_Rec_takeBound_161 rfl (by first | exact Or.inl rfl | exact Or.inr rfl | exact b01_z _ | assumption) (Nat.le_refl _) (Nat.le_refl _) ⟨rfl, by clear hX h hl; first | (simp_all [tkBound, up_rd]; done) | grind [tkBound], by clear hX h hl; first | (simp_all [tkBound, up_rd, chgTo_rd]; done) | grind [tkBound, up_rd, chgTo_rd, chg_rd, settle_rd, bnd_rd], rfl⟩
            · refine j_aload_n h d_Rec_takeBound_102 rfl ?_
              refine j_get1 h d_Rec_takeBound_103 fl_Rec_46 rfl (by assumption) ?_
              refine j_aload_n h d_Rec_takeBound_106 rfl ?_
              refine j_get0 h d_Rec_takeBound_107 fl_Rec_28 rfl (by assumption) ?_
              refine j_ic_le (tgt := 145) h d_Rec_takeBound_110 (by decide) (fun c11 => ?_) (fun c11 => ?_)
              · refine j_aload_n h d_Rec_takeBound_145 rfl ?_
                refine j_aload_n h d_Rec_takeBound_146 rfl ?_
                refine j_get0 h d_Rec_takeBound_147 fl_Rec_28 rfl (by assumption) ?_
                refine j_aload_n h d_Rec_takeBound_150 rfl ?_
                refine j_get1 h d_Rec_takeBound_151 fl_Rec_46 rfl (by assumption) ?_
                refine j_mmax h d_Rec_takeBound_154 wm_Rec_54 (hM_of hX (by decide) (Nat.le_of_ble_eq_true rfl)) (hf_of (mc' := 0) (ms' := 0) hX (by decide) (by decide)) ?_
                refine j_put0 h d_Rec_takeBound_157 fw_Rec_28 rfl rfl (by assumption) ?_
                refine j_iconst (v := 1) h d_Rec_takeBound_160 (by decide) ?_
                exact j_zret hX d_Rec_takeBound_161 rfl (by first | exact Or.inl rfl | exact Or.inr rfl | exact b01_z _ | assumption) (Nat.le_refl _) (Nat.le_refl _) ⟨rfl, by clear hX h hl; first | (simp_all [tkBound, up_rd]; done) | grind [tkBound], by clear hX h hl; first | (simp_all [tkBound, up_rd, chgTo_rd]; done) | grind [tkBound, up_rd, chgTo_rd, chg_rd, settle_rd, bnd_rd], rfl⟩
              · refine j_aload_n h d_Rec_takeBound_113 rfl ?_
                refine j_get0 h d_Rec_takeBound_114 fl_Rec_34 rfl (by assumption) ?_
                refine j_if_ne (tgt := 145) h d_Rec_takeBound_117 (by decide) (fun c12 => ?_) (fun c12 => ?_)
                · refine j_aload_n h d_Rec_takeBound_145 rfl ?_
                  refine j_aload_n h d_Rec_takeBound_146 rfl ?_
                  refine j_get0 h d_Rec_takeBound_147 fl_Rec_28 rfl (by assumption) ?_
                  refine j_aload_n h d_Rec_takeBound_150 rfl ?_
                  refine j_get1 h d_Rec_takeBound_151 fl_Rec_46 rfl (by assumption) ?_
                  refine j_mmax h d_Rec_takeBound_154 wm_Rec_54 (hM_of hX (by decide) (Nat.le_of_ble_eq_true rfl)) (hf_of (mc' := 0) (ms' := 0) hX (by decide) (by decide)) ?_
                  refine j_put0 h d_Rec_takeBound_157 fw_Rec_28 rfl rfl (by assumption) ?_
                  refine j_iconst (v := 1) h d_Rec_takeBound_160 (by decide) ?_
                  exact j_zret hX d_Rec_takeBound_161 rfl (by first | exact Or.inl rfl | exact Or.inr rfl | exact b01_z _ | assumption) (Nat.le_refl _) (Nat.le_refl _) ⟨rfl, by clear hX h hl; first | (simp_all [tkBound, up_rd]; done) | grind [tkBound], by clear hX h hl; first | (simp_all [tkBound, up_rd, chgTo_rd]; done) | grind [tkBound, up_rd, chgTo_rd, chg_rd, settle_rd, bnd_rd], rfl⟩
                · refine j_aload_n h d_Rec_takeBound_120 rfl ?_
                  refine j_aload_n h d_Rec_takeBound_121 rfl ?_
                  refine j_get0 h d_Rec_takeBound_122 fl_Rec_31 rfl (by assumption) ?_
                  refine j_aload_n h d_Rec_takeBound_125 rfl ?_
                  refine j_get1 h d_Rec_takeBound_126 fl_Rec_49 rfl (by assumption) ?_
                  refine j_mmax h d_Rec_takeBound_129 wm_Rec_54 (hM_of hX (by decide) (Nat.le_of_ble_eq_true rfl)) (hf_of (mc' := 0) (ms' := 0) hX (by decide) (by decide)) ?_
                  refine j_put0 h d_Rec_takeBound_132 fw_Rec_31 rfl rfl (by assumption) ?_
                  refine j_aload_n h d_Rec_takeBound_135 rfl ?_
                  refine j_iconst (v := 0) h d_Rec_takeBound_136 (by decide) ?_
                  refine j_putZ0 h d_Rec_takeBound_137 fw_Rec_34 rfl rfl (by assumption) (by first | exact Or.inl rfl | exact Or.inr rfl | assumption) ?_
                  refine j_aload_n h d_Rec_takeBound_140 rfl ?_
                  refine j_iconst (v := 2) h d_Rec_takeBound_141 (by decide) ?_
                  refine j_callV h (c_Rec_changeTo _ _ _ _ _ _ _ _ _ hr _) d_Rec_takeBound_142 ml_Rec_60 mv_Rec_changeTo (by assumption) ⟨rfl, rfl⟩ rfl rfl (Nat.le_of_ble_eq_true rfl) (hR_of hX (by decide) (by decide)) (hf_of hX (by decide) (by decide)) ?_
                  rintro _ _ _ _ ⟨rfl, rfl, rfl, rfl⟩
                  refine j_aload_n h d_Rec_takeBound_145 rfl ?_
                  refine j_aload_n h d_Rec_takeBound_146 rfl ?_
                  refine j_get0 h d_Rec_takeBound_147 fl_Rec_28 rfl (by assumption) ?_
                  refine j_aload_n h d_Rec_takeBound_150 rfl ?_
                  refine j_get1 h d_Rec_takeBound_151 fl_Rec_46 rfl (by assumption) ?_
                  refine j_mmax h d_Rec_takeBound_154 wm_Rec_54 (hM_of hX (by decide) (Nat.le_of_ble_eq_true rfl)) (hf_of (mc' := 0) (ms' := 0) hX (by decide) (by decide)) ?_
                  refine j_put0 h d_Rec_takeBound_157 fw_Rec_28 rfl rfl (by assumption) ?_
                  refine j_iconst (v := 1) h d_Rec_takeBound_160 (by decide) ?_
                  exact j_zret hX d_Rec_takeBound_161 rfl (by first | exact Or.inl rfl | exact Or.inr rfl | exact b01_z _ | assumption) (Nat.le_refl _) (Nat.le_refl _) ⟨rfl, by clear hX h hl; first | (simp_all [tkBound, up_rd]; done) | grind [tkBound], by clear hX h hl; first | (simp_all [tkBound, up_rd, chgTo_rd]; done) | grind [tkBound, up_rd, chgTo_rd, chg_rd, settle_rd, bnd_rd], rfl⟩
          · refine j_aload_n h d_Rec_takeBound_73 rfl ?_
            refine j_aload_n h d_Rec_takeBound_74 rfl ?_
            refine j_get0 h d_Rec_takeBound_75 fl_Rec_31 rfl (by assumption) ?_
            refine j_aload_n h d_Rec_takeBound_78 rfl ?_
            refine j_get1 h d_Rec_takeBound_79 fl_Rec_49 rfl (by assumption) ?_
            refine j_mmax h d_Rec_takeBound_82 wm_Rec_54 (hM_of hX (by decide) (Nat.le_of_ble_eq_true rfl)) (hf_of (mc' := 0) (ms' := 0) hX (by decide) (by decide)) ?_
            refine j_put0 h d_Rec_takeBound_85 fw_Rec_31 rfl rfl (by assumption) ?_
            refine j_goto (tgt := 145) h d_Rec_takeBound_88 (by decide) ?_
            refine j_aload_n h d_Rec_takeBound_145 rfl ?_
            refine j_aload_n h d_Rec_takeBound_146 rfl ?_
            refine j_get0 h d_Rec_takeBound_147 fl_Rec_28 rfl (by assumption) ?_
            refine j_aload_n h d_Rec_takeBound_150 rfl ?_
            refine j_get1 h d_Rec_takeBound_151 fl_Rec_46 rfl (by assumption) ?_
            refine j_mmax h d_Rec_takeBound_154 wm_Rec_54 (hM_of hX (by decide) (Nat.le_of_ble_eq_true rfl)) (hf_of (mc' := 0) (ms' := 0) hX (by decide) (by decide)) ?_
            refine j_put0 h d_Rec_takeBound_157 fw_Rec_28 rfl rfl (by assumption) ?_
            refine j_iconst (v := 1) h d_Rec_takeBound_160 (by decide) ?_
            exact j_zret hX d_Rec_takeBound_161 rfl (by first | exact Or.inl rfl | exact Or.inr rfl | exact b01_z _ | assumption) (Nat.le_refl _) (Nat.le_refl _) ⟨rfl, by clear hX h hl; first | (simp_all [tkBound, up_rd]; done) | grind [tkBound], by clear hX h hl; first | (simp_all [tkBound, up_rd, chgTo_rd]; done) | grind [tkBound, up_rd, chgTo_rd, chg_rd, settle_rd, bnd_rd], rfl⟩
        · refine j_iconst (v := 0) h d_Rec_takeBound_63 (by decide) ?_
          exact j_zret hX d_Rec_takeBound_64 rfl (by first | exact Or.inl rfl | exact Or.inr rfl | exact b01_z _ | assumption) (Nat.le_refl _) (Nat.le_refl _) ⟨rfl, by clear hX h hl; first | (simp_all [tkBound, up_rd]; done) | grind [tkBound], by clear hX h hl; first | (simp_all [tkBound, up_rd, chgTo_rd]; done) | grind [tkBound, up_rd, chgTo_rd, chg_rd, settle_rd, bnd_rd], rfl⟩
  · refine j_aload_n h d_Rec_takeBound_7 rfl ?_
    refine j_aload_n h d_Rec_takeBound_8 rfl ?_
    refine j_get1 h d_Rec_takeBound_9 fl_Rec_43 rfl (by assumption) ?_
    refine j_aload_n h d_Rec_takeBound_12 rfl ?_
    refine j_get1 h d_Rec_takeBound_13 fl_Rec_46 rfl (by assumption) ?_
    refine j_aload_n h d_Rec_takeBound_16 rfl ?_
    refine j_get1 h d_Rec_takeBound_17 fl_Rec_49 rfl (by assumption) ?_
    refine j_aload_n h d_Rec_takeBound_20 rfl ?_
    refine j_get0 h d_Rec_takeBound_21 fl_Rec_18 rfl (by assumption) ?_
    refine j_iconst (v := 1) h d_Rec_takeBound_24 (by decide) ?_
    refine j_iadd h d_Rec_takeBound_25 ?_
    refine j_callV h (c_Rec_bind _ _ _ _ _ _ _ _ _ hr _ _ _ _) d_Rec_takeBound_26 ml_Rec_50 mv_Rec_bind (by assumption) ⟨rfl, rfl⟩ rfl rfl (Nat.le_of_ble_eq_true rfl) (hR_of hX (by decide) (by decide)) (hf_of hX (by decide) (by decide)) ?_
    rintro _ _ _ _ ⟨rfl, rfl, rfl, rfl⟩
    refine j_aload_n h d_Rec_takeBound_29 rfl ?_
    refine j_iconst (v := 0) h d_Rec_takeBound_30 (by decide) ?_
    refine j_putZ0 h d_Rec_takeBound_31 fw_Rec_21 rfl rfl (by assumption) (by first | exact Or.inl rfl | exact Or.inr rfl | assumption) ?_
    refine j_iconst (v := 1) h d_Rec_takeBound_34 (by decide) ?_
    exact j_zret hX d_Rec_takeBound_35 rfl (by first | exact Or.inl rfl | exact Or.inr rfl | exact b01_z _ | assumption) (Nat.le_refl _) (Nat.le_refl _) ⟨rfl, by clear hX h hl; first | (simp_all [tkBound, up_rd]; done) | grind [tkBound], by clear hX h hl; first | (simp_all [tkBound, up_rd, chgTo_rd]; done) | grind [tkBound, up_rd, chgTo_rd, chg_rd, settle_rd, bnd_rd], rfl⟩
theorem d_Rec_mayEnd_0 : decode b_Rec_mayEnd 0 = .ok (.aload_n 0, 1) := by decide +kernel
theorem d_Rec_mayEnd_1 : decode b_Rec_mayEnd 1 = .ok (.getfield 9, 3) := by decide +kernel
theorem d_Rec_mayEnd_4 : decode b_Rec_mayEnd 4 = .ok (.iconst 2, 1) := by decide +kernel
theorem d_Rec_mayEnd_5 : decode b_Rec_mayEnd 5 = .ok (.if_icmp .ne 35, 3) := by decide +kernel
theorem d_Rec_mayEnd_8 : decode b_Rec_mayEnd 8 = .ok (.aload_n 0, 1) := by decide +kernel
theorem d_Rec_mayEnd_9 : decode b_Rec_mayEnd 9 = .ok (.getfield 28, 3) := by decide +kernel
theorem d_Rec_mayEnd_12 : decode b_Rec_mayEnd 12 = .ok (.iload_n 2, 1) := by decide +kernel
theorem d_Rec_mayEnd_13 : decode b_Rec_mayEnd 13 = .ok (.if_icmp .le 21, 3) := by decide +kernel
theorem d_Rec_mayEnd_16 : decode b_Rec_mayEnd 16 = .ok (.aload_n 1, 1) := by decide +kernel
theorem d_Rec_mayEnd_17 : decode b_Rec_mayEnd 17 = .ok (.getfield 71, 3) := by decide +kernel
theorem d_Rec_mayEnd_20 : decode b_Rec_mayEnd 20 = .ok (.ifCond .eq 18, 3) := by decide +kernel
theorem d_Rec_mayEnd_23 : decode b_Rec_mayEnd 23 = .ok (.aload_n 1, 1) := by decide +kernel
theorem d_Rec_mayEnd_24 : decode b_Rec_mayEnd 24 = .ok (.getfield 49, 3) := by decide +kernel
theorem d_Rec_mayEnd_27 : decode b_Rec_mayEnd 27 = .ok (.aload_n 0, 1) := by decide +kernel
theorem d_Rec_mayEnd_28 : decode b_Rec_mayEnd 28 = .ok (.getfield 31, 3) := by decide +kernel
theorem d_Rec_mayEnd_31 : decode b_Rec_mayEnd 31 = .ok (.if_icmp .le 7, 3) := by decide +kernel
theorem d_Rec_mayEnd_34 : decode b_Rec_mayEnd 34 = .ok (.iconst 1, 1) := by decide +kernel
theorem d_Rec_mayEnd_35 : decode b_Rec_mayEnd 35 = .ok (.goto 4, 3) := by decide +kernel
theorem d_Rec_mayEnd_38 : decode b_Rec_mayEnd 38 = .ok (.iconst 0, 1) := by decide +kernel
theorem d_Rec_mayEnd_39 : decode b_Rec_mayEnd 39 = .ok (.ireturn, 1) := by decide +kernel
theorem d_Rec_mayEnd_40 : decode b_Rec_mayEnd 40 = .ok (.aload_n 0, 1) := by decide +kernel
theorem d_Rec_mayEnd_41 : decode b_Rec_mayEnd 41 = .ok (.getfield 9, 3) := by decide +kernel
theorem d_Rec_mayEnd_44 : decode b_Rec_mayEnd 44 = .ok (.iconst 3, 1) := by decide +kernel
theorem d_Rec_mayEnd_45 : decode b_Rec_mayEnd 45 = .ok (.if_icmp .ne 11, 3) := by decide +kernel
theorem d_Rec_mayEnd_48 : decode b_Rec_mayEnd 48 = .ok (.iload_n 3, 1) := by decide +kernel
theorem d_Rec_mayEnd_49 : decode b_Rec_mayEnd 49 = .ok (.ifCond .eq 7, 3) := by decide +kernel
theorem d_Rec_mayEnd_52 : decode b_Rec_mayEnd 52 = .ok (.iconst 1, 1) := by decide +kernel
theorem d_Rec_mayEnd_53 : decode b_Rec_mayEnd 53 = .ok (.goto 4, 3) := by decide +kernel
theorem d_Rec_mayEnd_56 : decode b_Rec_mayEnd 56 = .ok (.iconst 0, 1) := by decide +kernel
theorem d_Rec_mayEnd_57 : decode b_Rec_mayEnd 57 = .ok (.ireturn, 1) := by decide +kernel
set_option maxRecDepth 100000 in
set_option maxHeartbeats 4000000 in
theorem c_Rec_mayEnd (l : Launch) (K : Kx) (V : Vx) (A B C D : MI) (P : MP) (r : Nat) (hr : V.1 2 r) (q : Nat) (hq : V.1 5 q) (ck y : Int32) : Ct l K md_Rec_mayEnd (0, 0) 0 0 [.ref (K.ad 2 r), .ref (K.ad 5 q), .int ck, .int y] V (bk4 A B C D) P (EQ V (some (.int (mayEnd1 A r ck (B 91 q) (B 90 q) y))) (bk4 A B C D) P) := by
  refine ct_of [(0, .ref (K.ad 2 r)), (1, .ref (K.ad 5 q)), (2, .int ck), (3, .int y)] (by decide) (Nat.le_of_ble_eq_true rfl) (ca_r (ca_r (ca_i (ca_i ca_n)))) rfl ?_
  intro X hl hX
  have h : OkX X b_Rec_mayEnd R_Rec K := hX.1
  have hN : X.nL = 4 := hX.2.1
  refine j_aload_n h d_Rec_mayEnd_0 rfl ?_
  refine j_get0 h d_Rec_mayEnd_1 fl_Rec_9 rfl (by assumption) ?_
  refine j_iconst (v := 2) h d_Rec_mayEnd_4 (by decide) ?_
  refine j_ic_ne (tgt := 40) h d_Rec_mayEnd_5 (by decide) (fun c1 => ?_) (fun c1 => ?_)
  · refine j_aload_n h d_Rec_mayEnd_40 rfl ?_
    refine j_get0 h d_Rec_mayEnd_41 fl_Rec_9 rfl (by assumption) ?_
    refine j_iconst (v := 3) h d_Rec_mayEnd_44 (by decide) ?_
    refine j_ic_ne (tgt := 56) h d_Rec_mayEnd_45 (by decide) (fun c2 => ?_) (fun c2 => ?_)
    · refine j_iconst (v := 0) h d_Rec_mayEnd_56 (by decide) ?_
      exact j_zret hX d_Rec_mayEnd_57 rfl (by first | exact Or.inl rfl | exact Or.inr rfl | exact b01_z _ | assumption) (Nat.le_refl _) (Nat.le_refl _) ⟨rfl, by clear hX h hl; first | (simp_all [mayEnd1, mayEnd]; done) | grind [mayEnd1, mayEnd], rfl, rfl⟩
    · refine j_iload_n h d_Rec_mayEnd_48 rfl ?_
      refine j_if_eq (tgt := 56) h d_Rec_mayEnd_49 (by decide) (fun c3 => ?_) (fun c3 => ?_)
      · refine j_iconst (v := 0) h d_Rec_mayEnd_56 (by decide) ?_
        exact j_zret hX d_Rec_mayEnd_57 rfl (by first | exact Or.inl rfl | exact Or.inr rfl | exact b01_z _ | assumption) (Nat.le_refl _) (Nat.le_refl _) ⟨rfl, by clear hX h hl; first | (simp_all [mayEnd1, mayEnd]; done) | grind [mayEnd1, mayEnd], rfl, rfl⟩
      · refine j_iconst (v := 1) h d_Rec_mayEnd_52 (by decide) ?_
        refine j_goto (tgt := 57) h d_Rec_mayEnd_53 (by decide) ?_
        exact j_zret hX d_Rec_mayEnd_57 rfl (by first | exact Or.inl rfl | exact Or.inr rfl | exact b01_z _ | assumption) (Nat.le_refl _) (Nat.le_refl _) ⟨rfl, by clear hX h hl; first | (simp_all [mayEnd1, mayEnd]; done) | grind [mayEnd1, mayEnd], rfl, rfl⟩
  · refine j_aload_n h d_Rec_mayEnd_8 rfl ?_
    refine j_get0 h d_Rec_mayEnd_9 fl_Rec_28 rfl (by assumption) ?_
    refine j_iload_n h d_Rec_mayEnd_12 rfl ?_
    refine j_ic_le (tgt := 34) h d_Rec_mayEnd_13 (by decide) (fun c4 => ?_) (fun c4 => ?_)
    · refine j_iconst (v := 1) h d_Rec_mayEnd_34 (by decide) ?_
      refine j_goto (tgt := 39) h d_Rec_mayEnd_35 (by decide) ?_
      exact j_zret hX d_Rec_mayEnd_39 rfl (by first | exact Or.inl rfl | exact Or.inr rfl | exact b01_z _ | assumption) (Nat.le_refl _) (Nat.le_refl _) ⟨rfl, by clear hX h hl; first | (simp_all [mayEnd1, mayEnd]; done) | grind [mayEnd1, mayEnd], rfl, rfl⟩
    · refine j_aload_n h d_Rec_mayEnd_16 rfl ?_
      refine j_get1 h d_Rec_mayEnd_17 fl_Rec_71 rfl (by assumption) ?_
      refine j_if_eq (tgt := 38) h d_Rec_mayEnd_20 (by decide) (fun c5 => ?_) (fun c5 => ?_)
      · refine j_iconst (v := 0) h d_Rec_mayEnd_38 (by decide) ?_
        exact j_zret hX d_Rec_mayEnd_39 rfl (by first | exact Or.inl rfl | exact Or.inr rfl | exact b01_z _ | assumption) (Nat.le_refl _) (Nat.le_refl _) ⟨rfl, by clear hX h hl; first | (simp_all [mayEnd1, mayEnd]; done) | grind [mayEnd1, mayEnd], rfl, rfl⟩
      · refine j_aload_n h d_Rec_mayEnd_23 rfl ?_
        refine j_get1 h d_Rec_mayEnd_24 fl_Rec_49 rfl (by assumption) ?_
        refine j_aload_n h d_Rec_mayEnd_27 rfl ?_
        refine j_get0 h d_Rec_mayEnd_28 fl_Rec_31 rfl (by assumption) ?_
        refine j_ic_le (tgt := 38) h d_Rec_mayEnd_31 (by decide) (fun c6 => ?_) (fun c6 => ?_)
        · refine j_iconst (v := 0) h d_Rec_mayEnd_38 (by decide) ?_
          exact j_zret hX d_Rec_mayEnd_39 rfl (by first | exact Or.inl rfl | exact Or.inr rfl | exact b01_z _ | assumption) (Nat.le_refl _) (Nat.le_refl _) ⟨rfl, by clear hX h hl; first | (simp_all [mayEnd1, mayEnd]; done) | grind [mayEnd1, mayEnd], rfl, rfl⟩
        · refine j_iconst (v := 1) h d_Rec_mayEnd_34 (by decide) ?_
          refine j_goto (tgt := 39) h d_Rec_mayEnd_35 (by decide) ?_
          exact j_zret hX d_Rec_mayEnd_39 rfl (by first | exact Or.inl rfl | exact Or.inr rfl | exact b01_z _ | assumption) (Nat.le_refl _) (Nat.le_refl _) ⟨rfl, by clear hX h hl; first | (simp_all [mayEnd1, mayEnd]; done) | grind [mayEnd1, mayEnd], rfl, rfl⟩
theorem d_Rec_takeEnding_0 : decode b_Rec_takeEnding 0 = .ok (.aload_n 0, 1) := by decide +kernel
theorem d_Rec_takeEnding_1 : decode b_Rec_takeEnding 1 = .ok (.getfield 9, 3) := by decide +kernel
theorem d_Rec_takeEnding_4 : decode b_Rec_takeEnding 4 = .ok (.ifCond .ne 20, 3) := by decide +kernel
theorem d_Rec_takeEnding_7 : decode b_Rec_takeEnding 7 = .ok (.aload_n 0, 1) := by decide +kernel
theorem d_Rec_takeEnding_8 : decode b_Rec_takeEnding 8 = .ok (.aload_n 0, 1) := by decide +kernel
theorem d_Rec_takeEnding_9 : decode b_Rec_takeEnding 9 = .ok (.getfield 28, 3) := by decide +kernel
theorem d_Rec_takeEnding_12 : decode b_Rec_takeEnding 12 = .ok (.aload_n 1, 1) := by decide +kernel
theorem d_Rec_takeEnding_13 : decode b_Rec_takeEnding 13 = .ok (.getfield 46, 3) := by decide +kernel
theorem d_Rec_takeEnding_16 : decode b_Rec_takeEnding 16 = .ok (.invokestatic 54, 3) := by decide +kernel
theorem d_Rec_takeEnding_19 : decode b_Rec_takeEnding 19 = .ok (.putfield 28, 3) := by decide +kernel
theorem d_Rec_takeEnding_22 : decode b_Rec_takeEnding 22 = .ok (.iconst 1, 1) := by decide +kernel
theorem d_Rec_takeEnding_23 : decode b_Rec_takeEnding 23 = .ok (.ireturn, 1) := by decide +kernel
theorem d_Rec_takeEnding_24 : decode b_Rec_takeEnding 24 = .ok (.aload_n 0, 1) := by decide +kernel
theorem d_Rec_takeEnding_25 : decode b_Rec_takeEnding 25 = .ok (.getfield 15, 3) := by decide +kernel
theorem d_Rec_takeEnding_28 : decode b_Rec_takeEnding 28 = .ok (.aload_n 1, 1) := by decide +kernel
theorem d_Rec_takeEnding_29 : decode b_Rec_takeEnding 29 = .ok (.getfield 43, 3) := by decide +kernel
theorem d_Rec_takeEnding_32 : decode b_Rec_takeEnding 32 = .ok (.if_icmp .ne 13, 3) := by decide +kernel
theorem d_Rec_takeEnding_35 : decode b_Rec_takeEnding 35 = .ok (.aload_n 0, 1) := by decide +kernel
theorem d_Rec_takeEnding_36 : decode b_Rec_takeEnding 36 = .ok (.aload_n 1, 1) := by decide +kernel
theorem d_Rec_takeEnding_37 : decode b_Rec_takeEnding 37 = .ok (.iload_n 2, 1) := by decide +kernel
theorem d_Rec_takeEnding_38 : decode b_Rec_takeEnding 38 = .ok (.iload_n 3, 1) := by decide +kernel
theorem d_Rec_takeEnding_39 : decode b_Rec_takeEnding 39 = .ok (.invokevirtual 64, 3) := by decide +kernel
theorem d_Rec_takeEnding_42 : decode b_Rec_takeEnding 42 = .ok (.ifCond .ne 5, 3) := by decide +kernel
theorem d_Rec_takeEnding_45 : decode b_Rec_takeEnding 45 = .ok (.iconst 0, 1) := by decide +kernel
theorem d_Rec_takeEnding_46 : decode b_Rec_takeEnding 46 = .ok (.ireturn, 1) := by decide +kernel
theorem d_Rec_takeEnding_47 : decode b_Rec_takeEnding 47 = .ok (.aload_n 0, 1) := by decide +kernel
theorem d_Rec_takeEnding_48 : decode b_Rec_takeEnding 48 = .ok (.aload_n 0, 1) := by decide +kernel
theorem d_Rec_takeEnding_49 : decode b_Rec_takeEnding 49 = .ok (.getfield 28, 3) := by decide +kernel
theorem d_Rec_takeEnding_52 : decode b_Rec_takeEnding 52 = .ok (.aload_n 1, 1) := by decide +kernel
theorem d_Rec_takeEnding_53 : decode b_Rec_takeEnding 53 = .ok (.getfield 46, 3) := by decide +kernel
theorem d_Rec_takeEnding_56 : decode b_Rec_takeEnding 56 = .ok (.invokestatic 54, 3) := by decide +kernel
theorem d_Rec_takeEnding_59 : decode b_Rec_takeEnding 59 = .ok (.putfield 28, 3) := by decide +kernel
theorem d_Rec_takeEnding_62 : decode b_Rec_takeEnding 62 = .ok (.aload_n 0, 1) := by decide +kernel
theorem d_Rec_takeEnding_63 : decode b_Rec_takeEnding 63 = .ok (.iconst 0, 1) := by decide +kernel
theorem d_Rec_takeEnding_64 : decode b_Rec_takeEnding 64 = .ok (.invokevirtual 68, 3) := by decide +kernel
theorem d_Rec_takeEnding_67 : decode b_Rec_takeEnding 67 = .ok (.iconst 1, 1) := by decide +kernel
theorem d_Rec_takeEnding_68 : decode b_Rec_takeEnding 68 = .ok (.ireturn, 1) := by decide +kernel
set_option maxRecDepth 100000 in
set_option maxHeartbeats 4000000 in
theorem c_Rec_takeEnding (l : Launch) (K : Kx) (V : Vx) (A B C D : MI) (P : MP) (r : Nat) (hr : V.1 2 r) (q : Nat) (hq : V.1 5 q) (ck y : Int32) : Ct l K md_Rec_takeEnding (1, 23) 0 0 [.ref (K.ad 2 r), .ref (K.ad 5 q), .int ck, .int y] V (bk4 A B C D) P (EQ V (some (.int (tkEnding A r (B 89 q) (B 86 q) ck (B 91 q) (B 90 q) y).1)) (bk4 (tkEnding A r (B 89 q) (B 86 q) ck (B 91 q) (B 90 q) y).2 B C D) P) := by
  refine ct_of [(0, .ref (K.ad 2 r)), (1, .ref (K.ad 5 q)), (2, .int ck), (3, .int y)] (by decide) (Nat.le_of_ble_eq_true rfl) (ca_r (ca_r (ca_i (ca_i ca_n)))) rfl ?_
  intro X hl hX
  have h : OkX X b_Rec_takeEnding R_Rec K := hX.1
  have hN : X.nL = 4 := hX.2.1
  refine j_aload_n h d_Rec_takeEnding_0 rfl ?_
  refine j_get0 h d_Rec_takeEnding_1 fl_Rec_9 rfl (by assumption) ?_
  refine j_if_ne (tgt := 24) h d_Rec_takeEnding_4 (by decide) (fun c1 => ?_) (fun c1 => ?_)
  · refine j_aload_n h d_Rec_takeEnding_24 rfl ?_
    refine j_get0 h d_Rec_takeEnding_25 fl_Rec_15 rfl (by assumption) ?_
    refine j_aload_n h d_Rec_takeEnding_28 rfl ?_
    refine j_get1 h d_Rec_takeEnding_29 fl_Rec_43 rfl (by assumption) ?_
    refine j_ic_ne (tgt := 45) h d_Rec_takeEnding_32 (by decide) (fun c2 => ?_) (fun c2 => ?_)
    · refine j_iconst (v := 0) h d_Rec_takeEnding_45 (by decide) ?_
      exact j_zret hX d_Rec_takeEnding_46 rfl (by first | exact Or.inl rfl | exact Or.inr rfl | exact b01_z _ | assumption) (Nat.le_refl _) (Nat.le_refl _) ⟨rfl, by clear hX h hl; first | (simp_all [tkEnding, up_rd]; done) | grind [tkEnding], by clear hX h hl; first | (simp_all [tkEnding, up_rd, chgTo_rd]; done) | grind [tkEnding, up_rd, chgTo_rd, chg_rd, settle_rd, bnd_rd], rfl⟩
    · refine j_aload_n h d_Rec_takeEnding_35 rfl ?_
      refine j_aload_n h d_Rec_takeEnding_36 rfl ?_
      refine j_iload_n h d_Rec_takeEnding_37 rfl ?_
      refine j_iload_n h d_Rec_takeEnding_38 rfl ?_
      refine j_callV h (c_Rec_mayEnd _ _ _ _ _ _ _ _ _ hr _ hq _ _) d_Rec_takeEnding_39 ml_Rec_64 mv_Rec_mayEnd (by assumption) ⟨rfl, rfl⟩ rfl rfl (Nat.le_of_ble_eq_true rfl) (hR_of hX (by decide) (by decide)) (hf_of hX (by decide) (by decide)) ?_
      rintro _ _ _ _ ⟨rfl, rfl, rfl, rfl⟩
      refine j_if_ne (tgt := 47) h d_Rec_takeEnding_42 (by decide) (fun c3 => ?_) (fun c3 => ?_)
      · refine j_aload_n h d_Rec_takeEnding_47 rfl ?_
        refine j_aload_n h d_Rec_takeEnding_48 rfl ?_
        refine j_get0 h d_Rec_takeEnding_49 fl_Rec_28 rfl (by assumption) ?_
        refine j_aload_n h d_Rec_takeEnding_52 rfl ?_
        refine j_get1 h d_Rec_takeEnding_53 fl_Rec_46 rfl (by assumption) ?_
        refine j_mmax h d_Rec_takeEnding_56 wm_Rec_54 (hM_of hX (by decide) (Nat.le_of_ble_eq_true rfl)) (hf_of (mc' := 0) (ms' := 0) hX (by decide) (by decide)) ?_
        refine j_put0 h d_Rec_takeEnding_59 fw_Rec_28 rfl rfl (by assumption) ?_
        refine j_aload_n h d_Rec_takeEnding_62 rfl ?_
        refine j_iconst (v := 0) h d_Rec_takeEnding_63 (by decide) ?_
        refine j_callV h (c_Rec_settle _ _ _ _ _ _ _ _ _ hr _) d_Rec_takeEnding_64 ml_Rec_68 mv_Rec_settle (by assumption) ⟨rfl, rfl⟩ rfl rfl (Nat.le_of_ble_eq_true rfl) (hR_of hX (by decide) (by decide)) (hf_of hX (by decide) (by decide)) ?_
        rintro _ _ _ _ ⟨rfl, rfl, rfl, rfl⟩
        refine j_iconst (v := 1) h d_Rec_takeEnding_67 (by decide) ?_
        exact j_zret hX d_Rec_takeEnding_68 rfl (by first | exact Or.inl rfl | exact Or.inr rfl | exact b01_z _ | assumption) (Nat.le_refl _) (Nat.le_refl _) ⟨rfl, by clear hX h hl; first | (simp_all [tkEnding, up_rd]; done) | grind [tkEnding], by clear hX h hl; first | (simp_all [tkEnding, up_rd, chgTo_rd]; done) | grind [tkEnding, up_rd, chgTo_rd, chg_rd, settle_rd, bnd_rd], rfl⟩
      · refine j_iconst (v := 0) h d_Rec_takeEnding_45 (by decide) ?_
        exact j_zret hX d_Rec_takeEnding_46 rfl (by first | exact Or.inl rfl | exact Or.inr rfl | exact b01_z _ | assumption) (Nat.le_refl _) (Nat.le_refl _) ⟨rfl, by clear hX h hl; first | (simp_all [tkEnding, up_rd]; done) | grind [tkEnding], by clear hX h hl; first | (simp_all [tkEnding, up_rd, chgTo_rd]; done) | grind [tkEnding, up_rd, chgTo_rd, chg_rd, settle_rd, bnd_rd], rfl⟩
  · refine j_aload_n h d_Rec_takeEnding_7 rfl ?_
    refine j_aload_n h d_Rec_takeEnding_8 rfl ?_
    refine j_get0 h d_Rec_takeEnding_9 fl_Rec_28 rfl (by assumption) ?_
    refine j_aload_n h d_Rec_takeEnding_12 rfl ?_
    refine j_get1 h d_Rec_takeEnding_13 fl_Rec_46 rfl (by assumption) ?_
    refine j_mmax h d_Rec_takeEnding_16 wm_Rec_54 (hM_of hX (by decide) (Nat.le_of_ble_eq_true rfl)) (hf_of (mc' := 0) (ms' := 0) hX (by decide) (by decide)) ?_
    refine j_put0 h d_Rec_takeEnding_19 fw_Rec_28 rfl rfl (by assumption) ?_
    refine j_iconst (v := 1) h d_Rec_takeEnding_22 (by decide) ?_
    exact j_zret hX d_Rec_takeEnding_23 rfl (by first | exact Or.inl rfl | exact Or.inr rfl | exact b01_z _ | assumption) (Nat.le_refl _) (Nat.le_refl _) ⟨rfl, by clear hX h hl; first | (simp_all [tkEnding, up_rd]; done) | grind [tkEnding], by clear hX h hl; first | (simp_all [tkEnding, up_rd, chgTo_rd]; done) | grind [tkEnding, up_rd, chgTo_rd, chg_rd, settle_rd, bnd_rd], rfl⟩
theorem d_Rec_takeGiven_0 : decode b_Rec_takeGiven 0 = .ok (.aload_n 0, 1) := by decide +kernel
theorem d_Rec_takeGiven_1 : decode b_Rec_takeGiven 1 = .ok (.getfield 9, 3) := by decide +kernel
theorem d_Rec_takeGiven_4 : decode b_Rec_takeGiven 4 = .ok (.ifCond .eq 5, 3) := by decide +kernel
theorem d_Rec_takeGiven_7 : decode b_Rec_takeGiven 7 = .ok (.iconst 0, 1) := by decide +kernel
theorem d_Rec_takeGiven_8 : decode b_Rec_takeGiven 8 = .ok (.ireturn, 1) := by decide +kernel
theorem d_Rec_takeGiven_9 : decode b_Rec_takeGiven 9 = .ok (.aload_n 0, 1) := by decide +kernel
theorem d_Rec_takeGiven_10 : decode b_Rec_takeGiven 10 = .ok (.iconst 1, 1) := by decide +kernel
theorem d_Rec_takeGiven_11 : decode b_Rec_takeGiven 11 = .ok (.invokevirtual 68, 3) := by decide +kernel
theorem d_Rec_takeGiven_14 : decode b_Rec_takeGiven 14 = .ok (.iconst 1, 1) := by decide +kernel
theorem d_Rec_takeGiven_15 : decode b_Rec_takeGiven 15 = .ok (.ireturn, 1) := by decide +kernel
set_option maxRecDepth 100000 in
set_option maxHeartbeats 4000000 in
theorem c_Rec_takeGiven (l : Launch) (K : Kx) (V : Vx) (A B C D : MI) (P : MP) (r : Nat) (hr : V.1 2 r) : Ct l K md_Rec_takeGiven (1, 21) 0 0 [.ref (K.ad 2 r)] V (bk4 A B C D) P (EQ V (some (.int (tkGiven A r).1)) (bk4 (tkGiven A r).2 B C D) P) := by
  refine ct_of [(0, .ref (K.ad 2 r))] (by decide) (Nat.le_of_ble_eq_true rfl) (ca_r ca_n) rfl ?_
  intro X hl hX
  have h : OkX X b_Rec_takeGiven R_Rec K := hX.1
  have hN : X.nL = 1 := hX.2.1
  refine j_aload_n h d_Rec_takeGiven_0 rfl ?_
  refine j_get0 h d_Rec_takeGiven_1 fl_Rec_9 rfl (by assumption) ?_
  refine j_if_eq (tgt := 9) h d_Rec_takeGiven_4 (by decide) (fun c1 => ?_) (fun c1 => ?_)
  · refine j_aload_n h d_Rec_takeGiven_9 rfl ?_
    refine j_iconst (v := 1) h d_Rec_takeGiven_10 (by decide) ?_
    refine j_callV h (c_Rec_settle _ _ _ _ _ _ _ _ _ hr _) d_Rec_takeGiven_11 ml_Rec_68 mv_Rec_settle (by assumption) ⟨rfl, rfl⟩ rfl rfl (Nat.le_of_ble_eq_true rfl) (hR_of hX (by decide) (by decide)) (hf_of hX (by decide) (by decide)) ?_
    rintro _ _ _ _ ⟨rfl, rfl, rfl, rfl⟩
    refine j_iconst (v := 1) h d_Rec_takeGiven_14 (by decide) ?_
    exact j_zret hX d_Rec_takeGiven_15 rfl (by first | exact Or.inl rfl | exact Or.inr rfl | exact b01_z _ | assumption) (Nat.le_refl _) (Nat.le_refl _) ⟨rfl, by clear hX h hl; first | (simp_all [tkGiven, up_rd]; done) | grind [tkGiven], by clear hX h hl; first | (simp_all [tkGiven, up_rd, chgTo_rd]; done) | grind [tkGiven, up_rd, chgTo_rd, chg_rd, settle_rd, bnd_rd], rfl⟩
  · refine j_iconst (v := 0) h d_Rec_takeGiven_7 (by decide) ?_
    exact j_zret hX d_Rec_takeGiven_8 rfl (by first | exact Or.inl rfl | exact Or.inr rfl | exact b01_z _ | assumption) (Nat.le_refl _) (Nat.le_refl _) ⟨rfl, by clear hX h hl; first | (simp_all [tkGiven, up_rd]; done) | grind [tkGiven], by clear hX h hl; first | (simp_all [tkGiven, up_rd, chgTo_rd]; done) | grind [tkGiven, up_rd, chgTo_rd, chg_rd, settle_rd, bnd_rd], rfl⟩
theorem d_Rec_learnKnown_0 : decode b_Rec_learnKnown 0 = .ok (.aload_n 0, 1) := by decide +kernel
theorem d_Rec_learnKnown_1 : decode b_Rec_learnKnown 1 = .ok (.getfield 9, 3) := by decide +kernel
theorem d_Rec_learnKnown_4 : decode b_Rec_learnKnown 4 = .ok (.iconst 2, 1) := by decide +kernel
theorem d_Rec_learnKnown_5 : decode b_Rec_learnKnown 5 = .ok (.if_icmp .eq 11, 3) := by decide +kernel
theorem d_Rec_learnKnown_8 : decode b_Rec_learnKnown 8 = .ok (.aload_n 0, 1) := by decide +kernel
theorem d_Rec_learnKnown_9 : decode b_Rec_learnKnown 9 = .ok (.getfield 9, 3) := by decide +kernel
theorem d_Rec_learnKnown_12 : decode b_Rec_learnKnown 12 = .ok (.iconst 3, 1) := by decide +kernel
theorem d_Rec_learnKnown_13 : decode b_Rec_learnKnown 13 = .ok (.if_icmp .ne 18, 3) := by decide +kernel
theorem d_Rec_learnKnown_16 : decode b_Rec_learnKnown 16 = .ok (.aload_n 1, 1) := by decide +kernel
theorem d_Rec_learnKnown_17 : decode b_Rec_learnKnown 17 = .ok (.getfield 72, 3) := by decide +kernel
theorem d_Rec_learnKnown_20 : decode b_Rec_learnKnown 20 = .ok (.aload_n 0, 1) := by decide +kernel
theorem d_Rec_learnKnown_21 : decode b_Rec_learnKnown 21 = .ok (.getfield 37, 3) := by decide +kernel
theorem d_Rec_learnKnown_24 : decode b_Rec_learnKnown 24 = .ok (.if_icmp .lt 7, 3) := by decide +kernel
theorem d_Rec_learnKnown_27 : decode b_Rec_learnKnown 27 = .ok (.iconst 1, 1) := by decide +kernel
theorem d_Rec_learnKnown_28 : decode b_Rec_learnKnown 28 = .ok (.goto 4, 3) := by decide +kernel
theorem d_Rec_learnKnown_31 : decode b_Rec_learnKnown 31 = .ok (.iconst 0, 1) := by decide +kernel
theorem d_Rec_learnKnown_32 : decode b_Rec_learnKnown 32 = .ok (.istore_n 2, 1) := by decide +kernel
theorem d_Rec_learnKnown_33 : decode b_Rec_learnKnown 33 = .ok (.iload_n 2, 1) := by decide +kernel
theorem d_Rec_learnKnown_34 : decode b_Rec_learnKnown 34 = .ok (.ifCond .eq 14, 3) := by decide +kernel
theorem d_Rec_learnKnown_37 : decode b_Rec_learnKnown 37 = .ok (.aload_n 1, 1) := by decide +kernel
theorem d_Rec_learnKnown_38 : decode b_Rec_learnKnown 38 = .ok (.getfield 46, 3) := by decide +kernel
theorem d_Rec_learnKnown_41 : decode b_Rec_learnKnown 41 = .ok (.aload_n 0, 1) := by decide +kernel
theorem d_Rec_learnKnown_42 : decode b_Rec_learnKnown 42 = .ok (.getfield 40, 3) := by decide +kernel
theorem d_Rec_learnKnown_45 : decode b_Rec_learnKnown 45 = .ok (.if_icmp .gt 5, 3) := by decide +kernel
theorem d_Rec_learnKnown_48 : decode b_Rec_learnKnown 48 = .ok (.iconst 0, 1) := by decide +kernel
theorem d_Rec_learnKnown_49 : decode b_Rec_learnKnown 49 = .ok (.ireturn, 1) := by decide +kernel
theorem d_Rec_learnKnown_50 : decode b_Rec_learnKnown 50 = .ok (.aload_n 0, 1) := by decide +kernel
theorem d_Rec_learnKnown_51 : decode b_Rec_learnKnown 51 = .ok (.aload_n 1, 1) := by decide +kernel
theorem d_Rec_learnKnown_52 : decode b_Rec_learnKnown 52 = .ok (.getfield 46, 3) := by decide +kernel
theorem d_Rec_learnKnown_55 : decode b_Rec_learnKnown 55 = .ok (.putfield 40, 3) := by decide +kernel
theorem d_Rec_learnKnown_58 : decode b_Rec_learnKnown 58 = .ok (.iconst 1, 1) := by decide +kernel
theorem d_Rec_learnKnown_59 : decode b_Rec_learnKnown 59 = .ok (.ireturn, 1) := by decide +kernel
set_option maxRecDepth 100000 in
set_option maxHeartbeats 4000000 in
theorem c_Rec_learnKnown (l : Launch) (K : Kx) (V : Vx) (A B C D : MI) (P : MP) (r : Nat) (hr : V.1 2 r) (q : Nat) (hq : V.1 5 q) : Ct l K md_Rec_learnKnown (0, 0) 0 0 [.ref (K.ad 2 r), .ref (K.ad 5 q)] V (bk4 A B C D) P (EQ V (some (.int (lnKnown A r (B 85 q) (B 86 q)).1)) (bk4 (lnKnown A r (B 85 q) (B 86 q)).2 B C D) P) := by
  refine ct_of [(0, .ref (K.ad 2 r)), (1, .ref (K.ad 5 q))] (by decide) (Nat.le_of_ble_eq_true rfl) (ca_r (ca_r ca_n)) rfl ?_
  intro X hl hX
  have h : OkX X b_Rec_learnKnown R_Rec K := hX.1
  have hN : X.nL = 3 := hX.2.1
  refine j_aload_n h d_Rec_learnKnown_0 rfl ?_
  refine j_get0 h d_Rec_learnKnown_1 fl_Rec_9 rfl (by assumption) ?_
  refine j_iconst (v := 2) h d_Rec_learnKnown_4 (by decide) ?_
  refine j_ic_eq (tgt := 16) h d_Rec_learnKnown_5 (by decide) (fun c1 => ?_) (fun c1 => ?_)
  · refine j_aload_n h d_Rec_learnKnown_16 rfl ?_
    refine j_get1 h d_Rec_learnKnown_17 fl_Rec_72 rfl (by assumption) ?_
    refine j_aload_n h d_Rec_learnKnown_20 rfl ?_
    refine j_get0 h d_Rec_learnKnown_21 fl_Rec_37 rfl (by assumption) ?_
    refine j_ic_lt (tgt := 31) h d_Rec_learnKnown_24 (by decide) (fun c2 => ?_) (fun c2 => ?_)
    · refine j_iconst (v := 0) h d_Rec_learnKnown_31 (by decide) ?_
      refine j_istore_n h d_Rec_learnKnown_32 (Nat.lt_of_lt_of_eq (m := 3) (by decide) hN.symm) ?_
      refine j_iload_n h d_Rec_learnKnown_33 rfl ?_
      refine j_if_eq (tgt := 48) h d_Rec_learnKnown_34 (by decide) (fun c3 => ?_) (fun c3 => absurd c3 (by decide))
      refine j_iconst (v := 0) h d_Rec_learnKnown_48 (by decide) ?_
      exact j_zret hX d_Rec_learnKnown_49 rfl (by first | exact Or.inl rfl | exact Or.inr rfl | exact b01_z _ | assumption) (Nat.le_refl _) (Nat.le_refl _) ⟨rfl, by clear hX h hl; first | (simp_all [lnKnown, up_rd]; done) | grind [lnKnown], by clear hX h hl; first | (simp_all [lnKnown, up_rd, chgTo_rd]; done) | grind [lnKnown, up_rd, chgTo_rd, chg_rd, settle_rd, bnd_rd], rfl⟩
    · refine j_iconst (v := 1) h d_Rec_learnKnown_27 (by decide) ?_
      refine j_goto (tgt := 32) h d_Rec_learnKnown_28 (by decide) ?_
      refine j_istore_n h d_Rec_learnKnown_32 (Nat.lt_of_lt_of_eq (m := 3) (by decide) hN.symm) ?_
      refine j_iload_n h d_Rec_learnKnown_33 rfl ?_
      refine j_if_eq (tgt := 48) h d_Rec_learnKnown_34 (by decide) (fun c4 => absurd c4 (by decide)) (fun c4 => ?_)
      refine j_aload_n h d_Rec_learnKnown_37 rfl ?_
      refine j_get1 h d_Rec_learnKnown_38 fl_Rec_46 rfl (by assumption) ?_
      refine j_aload_n h d_Rec_learnKnown_41 rfl ?_
      refine j_get0 h d_Rec_learnKnown_42 fl_Rec_40 rfl (by assumption) ?_
      refine j_ic_gt (tgt := 50) h d_Rec_learnKnown_45 (by decide) (fun c5 => ?_) (fun c5 => ?_)
      · refine j_aload_n h d_Rec_learnKnown_50 rfl ?_
        refine j_aload_n h d_Rec_learnKnown_51 rfl ?_
        refine j_get1 h d_Rec_learnKnown_52 fl_Rec_46 rfl (by assumption) ?_
        refine j_put0 h d_Rec_learnKnown_55 fw_Rec_40 rfl rfl (by assumption) ?_
        refine j_iconst (v := 1) h d_Rec_learnKnown_58 (by decide) ?_
        exact j_zret hX d_Rec_learnKnown_59 rfl (by first | exact Or.inl rfl | exact Or.inr rfl | exact b01_z _ | assumption) (Nat.le_refl _) (Nat.le_refl _) ⟨rfl, by clear hX h hl; first | (simp_all [lnKnown, up_rd]; done) | grind [lnKnown], by clear hX h hl; first | (simp_all [lnKnown, up_rd, chgTo_rd]; done) | grind [lnKnown, up_rd, chgTo_rd, chg_rd, settle_rd, bnd_rd], rfl⟩
      · refine j_iconst (v := 0) h d_Rec_learnKnown_48 (by decide) ?_
        exact j_zret hX d_Rec_learnKnown_49 rfl (by first | exact Or.inl rfl | exact Or.inr rfl | exact b01_z _ | assumption) (Nat.le_refl _) (Nat.le_refl _) ⟨rfl, by clear hX h hl; first | (simp_all [lnKnown, up_rd]; done) | grind [lnKnown], by clear hX h hl; first | (simp_all [lnKnown, up_rd, chgTo_rd]; done) | grind [lnKnown, up_rd, chgTo_rd, chg_rd, settle_rd, bnd_rd], rfl⟩
  · refine j_aload_n h d_Rec_learnKnown_8 rfl ?_
    refine j_get0 h d_Rec_learnKnown_9 fl_Rec_9 rfl (by assumption) ?_
    refine j_iconst (v := 3) h d_Rec_learnKnown_12 (by decide) ?_
    refine j_ic_ne (tgt := 31) h d_Rec_learnKnown_13 (by decide) (fun c6 => ?_) (fun c6 => ?_)
    · refine j_iconst (v := 0) h d_Rec_learnKnown_31 (by decide) ?_
      refine j_istore_n h d_Rec_learnKnown_32 (Nat.lt_of_lt_of_eq (m := 3) (by decide) hN.symm) ?_
      refine j_iload_n h d_Rec_learnKnown_33 rfl ?_
      refine j_if_eq (tgt := 48) h d_Rec_learnKnown_34 (by decide) (fun c7 => ?_) (fun c7 => absurd c7 (by decide))
      refine j_iconst (v := 0) h d_Rec_learnKnown_48 (by decide) ?_
      exact j_zret hX d_Rec_learnKnown_49 rfl (by first | exact Or.inl rfl | exact Or.inr rfl | exact b01_z _ | assumption) (Nat.le_refl _) (Nat.le_refl _) ⟨rfl, by clear hX h hl; first | (simp_all [lnKnown, up_rd]; done) | grind [lnKnown], by clear hX h hl; first | (simp_all [lnKnown, up_rd, chgTo_rd]; done) | grind [lnKnown, up_rd, chgTo_rd, chg_rd, settle_rd, bnd_rd], rfl⟩
    · refine j_aload_n h d_Rec_learnKnown_16 rfl ?_
      refine j_get1 h d_Rec_learnKnown_17 fl_Rec_72 rfl (by assumption) ?_
      refine j_aload_n h d_Rec_learnKnown_20 rfl ?_
      refine j_get0 h d_Rec_learnKnown_21 fl_Rec_37 rfl (by assumption) ?_
      refine j_ic_lt (tgt := 31) h d_Rec_learnKnown_24 (by decide) (fun c8 => ?_) (fun c8 => ?_)
      · refine j_iconst (v := 0) h d_Rec_learnKnown_31 (by decide) ?_
        refine j_istore_n h d_Rec_learnKnown_32 (Nat.lt_of_lt_of_eq (m := 3) (by decide) hN.symm) ?_
        refine j_iload_n h d_Rec_learnKnown_33 rfl ?_
        refine j_if_eq (tgt := 48) h d_Rec_learnKnown_34 (by decide) (fun c9 => ?_) (fun c9 => absurd c9 (by decide))
        refine j_iconst (v := 0) h d_Rec_learnKnown_48 (by decide) ?_
        exact j_zret hX d_Rec_learnKnown_49 rfl (by first | exact Or.inl rfl | exact Or.inr rfl | exact b01_z _ | assumption) (Nat.le_refl _) (Nat.le_refl _) ⟨rfl, by clear hX h hl; first | (simp_all [lnKnown, up_rd]; done) | grind [lnKnown], by clear hX h hl; first | (simp_all [lnKnown, up_rd, chgTo_rd]; done) | grind [lnKnown, up_rd, chgTo_rd, chg_rd, settle_rd, bnd_rd], rfl⟩
      · refine j_iconst (v := 1) h d_Rec_learnKnown_27 (by decide) ?_
        refine j_goto (tgt := 32) h d_Rec_learnKnown_28 (by decide) ?_
        refine j_istore_n h d_Rec_learnKnown_32 (Nat.lt_of_lt_of_eq (m := 3) (by decide) hN.symm) ?_
        refine j_iload_n h d_Rec_learnKnown_33 rfl ?_
        refine j_if_eq (tgt := 48) h d_Rec_learnKnown_34 (by decide) (fun c10 => absurd c10 (by decide)) (fun c10 => ?_)
        refine j_aload_n h d_Rec_learnKnown_37 rfl ?_
        refine j_get1 h d_Rec_learnKnown_38 fl_Rec_46 rfl (by assumption) ?_
        refine j_aload_n h d_Rec_learnKnown_41 rfl ?_
        refine j_get0 h d_Rec_learnKnown_42 fl_Rec_40 rfl (by assumption) ?_
        refine j_ic_gt (tgt := 50) h d_Rec_learnKnown_45 (by decide) (fun c11 => ?_) (fun c11 => ?_)
        · refine j_aload_n h d_Rec_learnKnown_50 rfl ?_
          refine j_aload_n h d_Rec_learnKnown_51 rfl ?_
          refine j_get1 h d_Rec_learnKnown_52 fl_Rec_46 rfl (by assumption) ?_
          refine j_put0 h d_Rec_learnKnown_55 fw_Rec_40 rfl rfl (by assumption) ?_
          refine j_iconst (v := 1) h d_Rec_learnKnown_58 (by decide) ?_
          exact j_zret hX d_Rec_learnKnown_59 rfl (by first | exact Or.inl rfl | exact Or.inr rfl | exact b01_z _ | assumption) (Nat.le_refl _) (Nat.le_refl _) ⟨rfl, by clear hX h hl; first | (simp_all [lnKnown, up_rd]; done) | grind [lnKnown], by clear hX h hl; first | (simp_all [lnKnown, up_rd, chgTo_rd]; done) | grind [lnKnown, up_rd, chgTo_rd, chg_rd, settle_rd, bnd_rd], rfl⟩
        · refine j_iconst (v := 0) h d_Rec_learnKnown_48 (by decide) ?_
          exact j_zret hX d_Rec_learnKnown_49 rfl (by first | exact Or.inl rfl | exact Or.inr rfl | exact b01_z _ | assumption) (Nat.le_refl _) (Nat.le_refl _) ⟨rfl, by clear hX h hl; first | (simp_all [lnKnown, up_rd]; done) | grind [lnKnown], by clear hX h hl; first | (simp_all [lnKnown, up_rd, chgTo_rd]; done) | grind [lnKnown, up_rd, chgTo_rd, chg_rd, settle_rd, bnd_rd], rfl⟩
theorem d_Rec_learnAcknowledged_0 : decode b_Rec_learnAcknowledged 0 = .ok (.aload_n 0, 1) := by decide +kernel
theorem d_Rec_learnAcknowledged_1 : decode b_Rec_learnAcknowledged 1 = .ok (.getfield 21, 3) := by decide +kernel
theorem d_Rec_learnAcknowledged_4 : decode b_Rec_learnAcknowledged 4 = .ok (.ifCond .eq 14, 3) := by decide +kernel
theorem d_Rec_learnAcknowledged_7 : decode b_Rec_learnAcknowledged 7 = .ok (.aload_n 1, 1) := by decide +kernel
theorem d_Rec_learnAcknowledged_8 : decode b_Rec_learnAcknowledged 8 = .ok (.getfield 72, 3) := by decide +kernel
theorem d_Rec_learnAcknowledged_11 : decode b_Rec_learnAcknowledged 11 = .ok (.aload_n 0, 1) := by decide +kernel
theorem d_Rec_learnAcknowledged_12 : decode b_Rec_learnAcknowledged 12 = .ok (.getfield 18, 3) := by decide +kernel
theorem d_Rec_learnAcknowledged_15 : decode b_Rec_learnAcknowledged 15 = .ok (.if_icmp .eq 5, 3) := by decide +kernel
theorem d_Rec_learnAcknowledged_18 : decode b_Rec_learnAcknowledged 18 = .ok (.iconst 0, 1) := by decide +kernel
theorem d_Rec_learnAcknowledged_19 : decode b_Rec_learnAcknowledged 19 = .ok (.ireturn, 1) := by decide +kernel
theorem d_Rec_learnAcknowledged_20 : decode b_Rec_learnAcknowledged 20 = .ok (.aload_n 0, 1) := by decide +kernel
theorem d_Rec_learnAcknowledged_21 : decode b_Rec_learnAcknowledged 21 = .ok (.iconst 0, 1) := by decide +kernel
theorem d_Rec_learnAcknowledged_22 : decode b_Rec_learnAcknowledged 22 = .ok (.putfield 21, 3) := by decide +kernel
theorem d_Rec_learnAcknowledged_25 : decode b_Rec_learnAcknowledged 25 = .ok (.aload_n 0, 1) := by decide +kernel
theorem d_Rec_learnAcknowledged_26 : decode b_Rec_learnAcknowledged 26 = .ok (.getfield 9, 3) := by decide +kernel
theorem d_Rec_learnAcknowledged_29 : decode b_Rec_learnAcknowledged 29 = .ok (.iconst 3, 1) := by decide +kernel
theorem d_Rec_learnAcknowledged_30 : decode b_Rec_learnAcknowledged 30 = .ok (.if_icmp .eq 11, 3) := by decide +kernel
theorem d_Rec_learnAcknowledged_33 : decode b_Rec_learnAcknowledged 33 = .ok (.aload_n 0, 1) := by decide +kernel
theorem d_Rec_learnAcknowledged_34 : decode b_Rec_learnAcknowledged 34 = .ok (.getfield 9, 3) := by decide +kernel
theorem d_Rec_learnAcknowledged_37 : decode b_Rec_learnAcknowledged 37 = .ok (.iconst 4, 1) := by decide +kernel
theorem d_Rec_learnAcknowledged_38 : decode b_Rec_learnAcknowledged 38 = .ok (.if_icmp .ne 35, 3) := by decide +kernel
theorem d_Rec_learnAcknowledged_41 : decode b_Rec_learnAcknowledged 41 = .ok (.aload_n 0, 1) := by decide +kernel
theorem d_Rec_learnAcknowledged_42 : decode b_Rec_learnAcknowledged 42 = .ok (.aload_n 0, 1) := by decide +kernel
theorem d_Rec_learnAcknowledged_43 : decode b_Rec_learnAcknowledged 43 = .ok (.getfield 9, 3) := by decide +kernel
theorem d_Rec_learnAcknowledged_46 : decode b_Rec_learnAcknowledged 46 = .ok (.iconst 3, 1) := by decide +kernel
theorem d_Rec_learnAcknowledged_47 : decode b_Rec_learnAcknowledged 47 = .ok (.if_icmp .ne 7, 3) := by decide +kernel
theorem d_Rec_learnAcknowledged_50 : decode b_Rec_learnAcknowledged 50 = .ok (.iconst 1, 1) := by decide +kernel
theorem d_Rec_learnAcknowledged_51 : decode b_Rec_learnAcknowledged 51 = .ok (.goto 4, 3) := by decide +kernel
theorem d_Rec_learnAcknowledged_54 : decode b_Rec_learnAcknowledged 54 = .ok (.iconst 0, 1) := by decide +kernel
theorem d_Rec_learnAcknowledged_55 : decode b_Rec_learnAcknowledged 55 = .ok (.putfield 9, 3) := by decide +kernel
theorem d_Rec_learnAcknowledged_58 : decode b_Rec_learnAcknowledged 58 = .ok (.aload_n 0, 1) := by decide +kernel
theorem d_Rec_learnAcknowledged_59 : decode b_Rec_learnAcknowledged 59 = .ok (.aload_n 0, 1) := by decide +kernel
theorem d_Rec_learnAcknowledged_60 : decode b_Rec_learnAcknowledged 60 = .ok (.getfield 75, 3) := by decide +kernel
theorem d_Rec_learnAcknowledged_63 : decode b_Rec_learnAcknowledged 63 = .ok (.aload_n 1, 1) := by decide +kernel
theorem d_Rec_learnAcknowledged_64 : decode b_Rec_learnAcknowledged 64 = .ok (.getfield 78, 3) := by decide +kernel
theorem d_Rec_learnAcknowledged_67 : decode b_Rec_learnAcknowledged 67 = .ok (.invokestatic 54, 3) := by decide +kernel
theorem d_Rec_learnAcknowledged_70 : decode b_Rec_learnAcknowledged 70 = .ok (.putfield 75, 3) := by decide +kernel
theorem d_Rec_learnAcknowledged_73 : decode b_Rec_learnAcknowledged 73 = .ok (.iconst 1, 1) := by decide +kernel
theorem d_Rec_learnAcknowledged_74 : decode b_Rec_learnAcknowledged 74 = .ok (.ireturn, 1) := by decide +kernel
set_option maxRecDepth 100000 in
set_option maxHeartbeats 4000000 in
theorem c_Rec_learnAcknowledged (l : Launch) (K : Kx) (V : Vx) (A B C D : MI) (P : MP) (r : Nat) (hr : V.1 2 r) (q : Nat) (hq : V.1 5 q) : Ct l K md_Rec_learnAcknowledged (1, 20) 0 0 [.ref (K.ad 2 r), .ref (K.ad 5 q)] V (bk4 A B C D) P (EQ V (some (.int (lnAck A r (B 85 q) (B 94 q)).1)) (bk4 (lnAck A r (B 85 q) (B 94 q)).2 B C D) P) := by
  refine ct_of [(0, .ref (K.ad 2 r)), (1, .ref (K.ad 5 q))] (by decide) (Nat.le_of_ble_eq_true rfl) (ca_r (ca_r ca_n)) rfl ?_
  intro X hl hX
  have h : OkX X b_Rec_learnAcknowledged R_Rec K := hX.1
  have hN : X.nL = 2 := hX.2.1
  refine j_aload_n h d_Rec_learnAcknowledged_0 rfl ?_
  refine j_get0 h d_Rec_learnAcknowledged_1 fl_Rec_21 rfl (by assumption) ?_
  refine j_if_eq (tgt := 18) h d_Rec_learnAcknowledged_4 (by decide) (fun c1 => ?_) (fun c1 => ?_)
  · refine j_iconst (v := 0) h d_Rec_learnAcknowledged_18 (by decide) ?_
    exact j_zret hX d_Rec_learnAcknowledged_19 rfl (by first | exact Or.inl rfl | exact Or.inr rfl | exact b01_z _ | assumption) (Nat.le_refl _) (Nat.le_refl _) ⟨rfl, by clear hX h hl; first | (simp_all [lnAck, up_rd]; done) | grind [lnAck], by clear hX h hl; first | (simp_all [lnAck, up_rd, chgTo_rd]; done) | grind [lnAck, up_rd, chgTo_rd, chg_rd, settle_rd, bnd_rd], rfl⟩
  · refine j_aload_n h d_Rec_learnAcknowledged_7 rfl ?_
    refine j_get1 h d_Rec_learnAcknowledged_8 fl_Rec_72 rfl (by assumption) ?_
    refine j_aload_n h d_Rec_learnAcknowledged_11 rfl ?_
    refine j_get0 h d_Rec_learnAcknowledged_12 fl_Rec_18 rfl (by assumption) ?_
    refine j_ic_eq (tgt := 20) h d_Rec_learnAcknowledged_15 (by decide) (fun c2 => ?_) (fun c2 => ?_)
    · refine j_aload_n h d_Rec_learnAcknowledged_20 rfl ?_
      refine j_iconst (v := 0) h d_Rec_learnAcknowledged_21 (by decide) ?_
      refine j_putZ0 h d_Rec_learnAcknowledged_22 fw_Rec_21 rfl rfl (by assumption) (by first | exact Or.inl rfl | exact Or.inr rfl | assumption) ?_
      refine j_aload_n h d_Rec_learnAcknowledged_25 rfl ?_
      refine j_get0 h d_Rec_learnAcknowledged_26 fl_Rec_9 rfl (by assumption) ?_
      refine j_iconst (v := 3) h d_Rec_learnAcknowledged_29 (by decide) ?_
      refine j_ic_eq (tgt := 41) h d_Rec_learnAcknowledged_30 (by decide) (fun c3 => ?_) (fun c3 => ?_)
      · refine j_aload_n h d_Rec_learnAcknowledged_41 rfl ?_
        refine j_aload_n h d_Rec_learnAcknowledged_42 rfl ?_
        refine j_get0 h d_Rec_learnAcknowledged_43 fl_Rec_9 rfl (by assumption) ?_
        refine j_iconst (v := 3) h d_Rec_learnAcknowledged_46 (by decide) ?_
        refine j_ic_ne (tgt := 54) h d_Rec_learnAcknowledged_47 (by decide) (fun c4 => ?_) (fun c4 => ?_)
        · refine j_iconst (v := 0) h d_Rec_learnAcknowledged_54 (by decide) ?_
          refine j_put0 h d_Rec_learnAcknowledged_55 fw_Rec_9 rfl rfl (by assumption) ?_
          refine j_aload_n h d_Rec_learnAcknowledged_58 rfl ?_
          refine j_aload_n h d_Rec_learnAcknowledged_59 rfl ?_
          refine j_get0 h d_Rec_learnAcknowledged_60 fl_Rec_75 rfl (by assumption) ?_
          refine j_aload_n h d_Rec_learnAcknowledged_63 rfl ?_
          refine j_get1 h d_Rec_learnAcknowledged_64 fl_Rec_78 rfl (by assumption) ?_
          refine j_mmax h d_Rec_learnAcknowledged_67 wm_Rec_54 (hM_of hX (by decide) (Nat.le_of_ble_eq_true rfl)) (hf_of (mc' := 0) (ms' := 0) hX (by decide) (by decide)) ?_
          refine j_put0 h d_Rec_learnAcknowledged_70 fw_Rec_75 rfl rfl (by assumption) ?_
          refine j_iconst (v := 1) h d_Rec_learnAcknowledged_73 (by decide) ?_
          exact j_zret hX d_Rec_learnAcknowledged_74 rfl (by first | exact Or.inl rfl | exact Or.inr rfl | exact b01_z _ | assumption) (Nat.le_refl _) (Nat.le_refl _) ⟨rfl, by clear hX h hl; first | (simp_all [lnAck, up_rd]; done) | grind [lnAck], by clear hX h hl; first | (simp_all [lnAck, up_rd, chgTo_rd]; done) | grind [lnAck, up_rd, chgTo_rd, chg_rd, settle_rd, bnd_rd], rfl⟩
        · refine j_iconst (v := 1) h d_Rec_learnAcknowledged_50 (by decide) ?_
          refine j_goto (tgt := 55) h d_Rec_learnAcknowledged_51 (by decide) ?_
          refine j_put0 h d_Rec_learnAcknowledged_55 fw_Rec_9 rfl rfl (by assumption) ?_
          refine j_aload_n h d_Rec_learnAcknowledged_58 rfl ?_
          refine j_aload_n h d_Rec_learnAcknowledged_59 rfl ?_
          refine j_get0 h d_Rec_learnAcknowledged_60 fl_Rec_75 rfl (by assumption) ?_
          refine j_aload_n h d_Rec_learnAcknowledged_63 rfl ?_
          refine j_get1 h d_Rec_learnAcknowledged_64 fl_Rec_78 rfl (by assumption) ?_
          refine j_mmax h d_Rec_learnAcknowledged_67 wm_Rec_54 (hM_of hX (by decide) (Nat.le_of_ble_eq_true rfl)) (hf_of (mc' := 0) (ms' := 0) hX (by decide) (by decide)) ?_
          refine j_put0 h d_Rec_learnAcknowledged_70 fw_Rec_75 rfl rfl (by assumption) ?_
          refine j_iconst (v := 1) h d_Rec_learnAcknowledged_73 (by decide) ?_
          exact j_zret hX d_Rec_learnAcknowledged_74 rfl (by first | exact Or.inl rfl | exact Or.inr rfl | exact b01_z _ | assumption) (Nat.le_refl _) (Nat.le_refl _) ⟨rfl, by clear hX h hl; first | (simp_all [lnAck, up_rd]; done) | grind [lnAck], by clear hX h hl; first | (simp_all [lnAck, up_rd, chgTo_rd]; done) | grind [lnAck, up_rd, chgTo_rd, chg_rd, settle_rd, bnd_rd], rfl⟩
      · refine j_aload_n h d_Rec_learnAcknowledged_33 rfl ?_
        refine j_get0 h d_Rec_learnAcknowledged_34 fl_Rec_9 rfl (by assumption) ?_
        refine j_iconst (v := 4) h d_Rec_learnAcknowledged_37 (by decide) ?_
        refine j_ic_ne (tgt := 73) h d_Rec_learnAcknowledged_38 (by decide) (fun c5 => ?_) (fun c5 => ?_)
        · refine j_iconst (v := 1) h d_Rec_learnAcknowledged_73 (by decide) ?_
          exact j_zret hX d_Rec_learnAcknowledged_74 rfl (by first | exact Or.inl rfl | exact Or.inr rfl | exact b01_z _ | assumption) (Nat.le_refl _) (Nat.le_refl _) ⟨rfl, by clear hX h hl; first | (simp_all [lnAck, up_rd]; done) | grind [lnAck], by clear hX h hl; first | (simp_all [lnAck, up_rd, chgTo_rd]; done) | grind [lnAck, up_rd, chgTo_rd, chg_rd, settle_rd, bnd_rd], rfl⟩
        · refine j_aload_n h d_Rec_learnAcknowledged_41 rfl ?_
          refine j_aload_n h d_Rec_learnAcknowledged_42 rfl ?_
          refine j_get0 h d_Rec_learnAcknowledged_43 fl_Rec_9 rfl (by assumption) ?_
          refine j_iconst (v := 3) h d_Rec_learnAcknowledged_46 (by decide) ?_
          refine j_ic_ne (tgt := 54) h d_Rec_learnAcknowledged_47 (by decide) (fun c6 => ?_) (fun c6 => ?_)
          · refine j_iconst (v := 0) h d_Rec_learnAcknowledged_54 (by decide) ?_
            refine j_put0 h d_Rec_learnAcknowledged_55 fw_Rec_9 rfl rfl (by assumption) ?_
            refine j_aload_n h d_Rec_learnAcknowledged_58 rfl ?_
            refine j_aload_n h d_Rec_learnAcknowledged_59 rfl ?_
            refine j_get0 h d_Rec_learnAcknowledged_60 fl_Rec_75 rfl (by assumption) ?_
            refine j_aload_n h d_Rec_learnAcknowledged_63 rfl ?_
            refine j_get1 h d_Rec_learnAcknowledged_64 fl_Rec_78 rfl (by assumption) ?_
            refine j_mmax h d_Rec_learnAcknowledged_67 wm_Rec_54 (hM_of hX (by decide) (Nat.le_of_ble_eq_true rfl)) (hf_of (mc' := 0) (ms' := 0) hX (by decide) (by decide)) ?_
            refine j_put0 h d_Rec_learnAcknowledged_70 fw_Rec_75 rfl rfl (by assumption) ?_
            refine j_iconst (v := 1) h d_Rec_learnAcknowledged_73 (by decide) ?_
            exact j_zret hX d_Rec_learnAcknowledged_74 rfl (by first | exact Or.inl rfl | exact Or.inr rfl | exact b01_z _ | assumption) (Nat.le_refl _) (Nat.le_refl _) ⟨rfl, by clear hX h hl; first | (simp_all [lnAck, up_rd]; done) | grind [lnAck], by clear hX h hl; first | (simp_all [lnAck, up_rd, chgTo_rd]; done) | grind [lnAck, up_rd, chgTo_rd, chg_rd, settle_rd, bnd_rd], rfl⟩
          · refine j_iconst (v := 1) h d_Rec_learnAcknowledged_50 (by decide) ?_
            refine j_goto (tgt := 55) h d_Rec_learnAcknowledged_51 (by decide) ?_
            refine j_put0 h d_Rec_learnAcknowledged_55 fw_Rec_9 rfl rfl (by assumption) ?_
            refine j_aload_n h d_Rec_learnAcknowledged_58 rfl ?_
            refine j_aload_n h d_Rec_learnAcknowledged_59 rfl ?_
            refine j_get0 h d_Rec_learnAcknowledged_60 fl_Rec_75 rfl (by assumption) ?_
            refine j_aload_n h d_Rec_learnAcknowledged_63 rfl ?_
            refine j_get1 h d_Rec_learnAcknowledged_64 fl_Rec_78 rfl (by assumption) ?_
            refine j_mmax h d_Rec_learnAcknowledged_67 wm_Rec_54 (hM_of hX (by decide) (Nat.le_of_ble_eq_true rfl)) (hf_of (mc' := 0) (ms' := 0) hX (by decide) (by decide)) ?_
            refine j_put0 h d_Rec_learnAcknowledged_70 fw_Rec_75 rfl rfl (by assumption) ?_
            refine j_iconst (v := 1) h d_Rec_learnAcknowledged_73 (by decide) ?_
            exact j_zret hX d_Rec_learnAcknowledged_74 rfl (by first | exact Or.inl rfl | exact Or.inr rfl | exact b01_z _ | assumption) (Nat.le_refl _) (Nat.le_refl _) ⟨rfl, by clear hX h hl; first | (simp_all [lnAck, up_rd]; done) | grind [lnAck], by clear hX h hl; first | (simp_all [lnAck, up_rd, chgTo_rd]; done) | grind [lnAck, up_rd, chgTo_rd, chg_rd, settle_rd, bnd_rd], rfl⟩
    · refine j_iconst (v := 0) h d_Rec_learnAcknowledged_18 (by decide) ?_
      exact j_zret hX d_Rec_learnAcknowledged_19 rfl (by first | exact Or.inl rfl | exact Or.inr rfl | exact b01_z _ | assumption) (Nat.le_refl _) (Nat.le_refl _) ⟨rfl, by clear hX h hl; first | (simp_all [lnAck, up_rd]; done) | grind [lnAck], by clear hX h hl; first | (simp_all [lnAck, up_rd, chgTo_rd]; done) | grind [lnAck, up_rd, chgTo_rd, chg_rd, settle_rd, bnd_rd], rfl⟩
end
section
section JE
variable {X : Jx} {cc : ByteArray} {own : String} {K : Kx} {V : Vx} {A B C D : MI} {P : MP} {cells slots pc : Nat} {lv : List (Nat × Value)} {st : List Value}
theorem j_get0e (h : OkX X cc own K) {idx ci k i col : Nat} {v : Int32} (d : decode cc pc = .ok (.getfield idx, 3)) (w : FL own idx ci k) (hc : cinf ci k = (false, 0, col)) (hv : V.1 ci i) (he : A col i = v) (kk : J X K V (bk4 A B C D) P cells slots (pc + 3) lv (.int v :: st)) : J X K V (bk4 A B C D) P cells slots pc lv (.ref (K.ad ci i) :: st) := j_get0 h d w hc hv (by rw [he]; exact kk)
theorem j_get1e (h : OkX X cc own K) {idx ci k i col : Nat} {v : Int32} (d : decode cc pc = .ok (.getfield idx, 3)) (w : FL own idx ci k) (hc : cinf ci k = (false, 1, col)) (hv : V.1 ci i) (he : B col i = v) (kk : J X K V (bk4 A B C D) P cells slots (pc + 3) lv (.int v :: st)) : J X K V (bk4 A B C D) P cells slots pc lv (.ref (K.ad ci i) :: st) := j_get1 h d w hc hv (by rw [he]; exact kk)
theorem j_get2e (h : OkX X cc own K) {idx ci k i col : Nat} {v : Int32} (d : decode cc pc = .ok (.getfield idx, 3)) (w : FL own idx ci k) (hc : cinf ci k = (false, 2, col)) (hv : V.1 ci i) (he : C col i = v) (kk : J X K V (bk4 A B C D) P cells slots (pc + 3) lv (.int v :: st)) : J X K V (bk4 A B C D) P cells slots pc lv (.ref (K.ad ci i) :: st) := j_get2 h d w hc hv (by rw [he]; exact kk)
theorem j_get3e (h : OkX X cc own K) {idx ci k i col : Nat} {v : Int32} (d : decode cc pc = .ok (.getfield idx, 3)) (w : FL own idx ci k) (hc : cinf ci k = (false, 3, col)) (hv : V.1 ci i) (he : D col i = v) (kk : J X K V (bk4 A B C D) P cells slots (pc + 3) lv (.int v :: st)) : J X K V (bk4 A B C D) P cells slots pc lv (.ref (K.ad ci i) :: st) := j_get3 h d w hc hv (by rw [he]; exact kk)
end JE
/-! what records, messages tell; clients; small methods of servers -/
def rtell (A : MI) (r w : Nat) : Int32 := match w with
  | 0 => A 10 r
  | 1 => A 11 r
  | 2 => A 12 r
  | 3 => A 13 r
  | 4 => A 15 r
  | 5 => A 18 r
  | 6 => A 19 r
  | 7 => A 20 r
  | 8 => A 16 r
  | _ => (if A 17 r = 0 then 0 else 1) + (if A 14 r = 0 then 0 else 2) + (if A 21 r = 0 then 0 else 4)
def clReq (A : MI) (c : Nat) (k : Int32) : MI := if k = 2 then up (up (up (up A 32 c (A 32 c + 1)) 33 c k) 30 c (-1)) 31 c 0 else up (up A 32 c (A 32 c + 1)) 33 c k
def mBegin (B : MI) (q : Nat) (t f g : Int32) : MI := up (up (up (up (up (up B 80 q t) 82 q f) 81 q g) 83 q 0) 84 q (-1)) 86 q 0
theorem d_Rec_tell_0 : decode b_Rec_tell 0 = .ok (.iload_n 1, 1) := by decide +kernel
theorem d_Rec_tell_1 : decode b_Rec_tell 1 = .ok (.tableswitch 96 0 8 #[51, 56, 61, 66, 71, 76, 81, 86, 91], 51) := by decide +kernel
theorem d_Rec_tell_52 : decode b_Rec_tell 52 = .ok (.aload_n 0, 1) := by decide +kernel
theorem d_Rec_tell_53 : decode b_Rec_tell 53 = .ok (.getfield 9, 3) := by decide +kernel
theorem d_Rec_tell_56 : decode b_Rec_tell 56 = .ok (.ireturn, 1) := by decide +kernel
theorem d_Rec_tell_57 : decode b_Rec_tell 57 = .ok (.aload_n 0, 1) := by decide +kernel
theorem d_Rec_tell_58 : decode b_Rec_tell 58 = .ok (.getfield 15, 3) := by decide +kernel
theorem d_Rec_tell_61 : decode b_Rec_tell 61 = .ok (.ireturn, 1) := by decide +kernel
theorem d_Rec_tell_62 : decode b_Rec_tell 62 = .ok (.aload_n 0, 1) := by decide +kernel
theorem d_Rec_tell_63 : decode b_Rec_tell 63 = .ok (.getfield 28, 3) := by decide +kernel
theorem d_Rec_tell_66 : decode b_Rec_tell 66 = .ok (.ireturn, 1) := by decide +kernel
theorem d_Rec_tell_67 : decode b_Rec_tell 67 = .ok (.aload_n 0, 1) := by decide +kernel
theorem d_Rec_tell_68 : decode b_Rec_tell 68 = .ok (.getfield 31, 3) := by decide +kernel
theorem d_Rec_tell_71 : decode b_Rec_tell 71 = .ok (.ireturn, 1) := by decide +kernel
theorem d_Rec_tell_72 : decode b_Rec_tell 72 = .ok (.aload_n 0, 1) := by decide +kernel
theorem d_Rec_tell_73 : decode b_Rec_tell 73 = .ok (.getfield 18, 3) := by decide +kernel
theorem d_Rec_tell_76 : decode b_Rec_tell 76 = .ok (.ireturn, 1) := by decide +kernel
theorem d_Rec_tell_77 : decode b_Rec_tell 77 = .ok (.aload_n 0, 1) := by decide +kernel
theorem d_Rec_tell_78 : decode b_Rec_tell 78 = .ok (.getfield 40, 3) := by decide +kernel
theorem d_Rec_tell_81 : decode b_Rec_tell 81 = .ok (.ireturn, 1) := by decide +kernel
theorem d_Rec_tell_82 : decode b_Rec_tell 82 = .ok (.aload_n 0, 1) := by decide +kernel
theorem d_Rec_tell_83 : decode b_Rec_tell 83 = .ok (.getfield 75, 3) := by decide +kernel
theorem d_Rec_tell_86 : decode b_Rec_tell 86 = .ok (.ireturn, 1) := by decide +kernel
theorem d_Rec_tell_87 : decode b_Rec_tell 87 = .ok (.aload_n 0, 1) := by decide +kernel
theorem d_Rec_tell_88 : decode b_Rec_tell 88 = .ok (.getfield 81, 3) := by decide +kernel
theorem d_Rec_tell_91 : decode b_Rec_tell 91 = .ok (.ireturn, 1) := by decide +kernel
theorem d_Rec_tell_92 : decode b_Rec_tell 92 = .ok (.aload_n 0, 1) := by decide +kernel
theorem d_Rec_tell_93 : decode b_Rec_tell 93 = .ok (.getfield 37, 3) := by decide +kernel
theorem d_Rec_tell_96 : decode b_Rec_tell 96 = .ok (.ireturn, 1) := by decide +kernel
theorem d_Rec_tell_97 : decode b_Rec_tell 97 = .ok (.aload_n 0, 1) := by decide +kernel
theorem d_Rec_tell_98 : decode b_Rec_tell 98 = .ok (.getfield 21, 3) := by decide +kernel
theorem d_Rec_tell_101 : decode b_Rec_tell 101 = .ok (.ifCond .eq 7, 3) := by decide +kernel
theorem d_Rec_tell_104 : decode b_Rec_tell 104 = .ok (.iconst 1, 1) := by decide +kernel
theorem d_Rec_tell_105 : decode b_Rec_tell 105 = .ok (.goto 4, 3) := by decide +kernel
theorem d_Rec_tell_108 : decode b_Rec_tell 108 = .ok (.iconst 0, 1) := by decide +kernel
theorem d_Rec_tell_109 : decode b_Rec_tell 109 = .ok (.aload_n 0, 1) := by decide +kernel
theorem d_Rec_tell_110 : decode b_Rec_tell 110 = .ok (.getfield 34, 3) := by decide +kernel
theorem d_Rec_tell_113 : decode b_Rec_tell 113 = .ok (.ifCond .eq 7, 3) := by decide +kernel
theorem d_Rec_tell_116 : decode b_Rec_tell 116 = .ok (.iconst 2, 1) := by decide +kernel
theorem d_Rec_tell_117 : decode b_Rec_tell 117 = .ok (.goto 4, 3) := by decide +kernel
theorem d_Rec_tell_120 : decode b_Rec_tell 120 = .ok (.iconst 0, 1) := by decide +kernel
theorem d_Rec_tell_121 : decode b_Rec_tell 121 = .ok (.iadd, 1) := by decide +kernel
theorem d_Rec_tell_122 : decode b_Rec_tell 122 = .ok (.aload_n 0, 1) := by decide +kernel
theorem d_Rec_tell_123 : decode b_Rec_tell 123 = .ok (.getfield 84, 3) := by decide +kernel
theorem d_Rec_tell_126 : decode b_Rec_tell 126 = .ok (.ifCond .eq 7, 3) := by decide +kernel
theorem d_Rec_tell_129 : decode b_Rec_tell 129 = .ok (.iconst 4, 1) := by decide +kernel
theorem d_Rec_tell_130 : decode b_Rec_tell 130 = .ok (.goto 4, 3) := by decide +kernel
theorem d_Rec_tell_133 : decode b_Rec_tell 133 = .ok (.iconst 0, 1) := by decide +kernel
theorem d_Rec_tell_134 : decode b_Rec_tell 134 = .ok (.iadd, 1) := by decide +kernel
theorem d_Rec_tell_135 : decode b_Rec_tell 135 = .ok (.ireturn, 1) := by decide +kernel
set_option maxRecDepth 100000 in
set_option maxHeartbeats 4000000 in
theorem c_Rec_tell (l : Launch) (K : Kx) (V : Vx) (A B C D : MI) (P : MP) (r : Nat) (hr : V.1 2 r) (w : Nat) (hw : w < 10) : Ct l K md_Rec_tell (0, 0) 0 0 [.ref (K.ad 2 r), .int (nI w)] V (bk4 A B C D) P (EQ V (some (.int (rtell A r w))) (bk4 A B C D) P) := by
  refine ct_of [(0, .ref (K.ad 2 r)), (1, .int (nI w))] (by decide) (Nat.le_of_ble_eq_true rfl) (ca_r (ca_i ca_n)) rfl ?_
  intro X hl hX
  have h : OkX X b_Rec_tell R_Rec K := hX.1
  have hN : X.nL = 2 := hX.2.1
  match w, hw with
  | 0, _ =>
    refine j_iload_n h d_Rec_tell_0 rfl ?_
    refine j_tabIn (off := 51) (tgt := 52) h d_Rec_tell_1 (by decide +kernel) (by decide +kernel) (by decide +kernel) (by decide) ?_
    refine j_aload_n h d_Rec_tell_52 rfl ?_
    refine j_get0 h d_Rec_tell_53 fl_Rec_9 rfl (by assumption) ?_
    exact j_iret hX d_Rec_tell_56 rfl (Nat.le_refl _) (Nat.le_refl _) ⟨rfl, by clear hX h hl; first | rfl | (simp_all [rtell]; done) | grind [rtell], by clear hX h hl; first | rfl | (simp_all [rtell, up_rd]; done) | grind [rtell, up_rd], rfl⟩
  | 1, _ =>
    refine j_iload_n h d_Rec_tell_0 rfl ?_
    refine j_tabIn (off := 56) (tgt := 57) h d_Rec_tell_1 (by decide +kernel) (by decide +kernel) (by decide +kernel) (by decide) ?_
    refine j_aload_n h d_Rec_tell_57 rfl ?_
    refine j_get0 h d_Rec_tell_58 fl_Rec_15 rfl (by assumption) ?_
    exact j_iret hX d_Rec_tell_61 rfl (Nat.le_refl _) (Nat.le_refl _) ⟨rfl, by clear hX h hl; first | rfl | (simp_all [rtell]; done) | grind [rtell], by clear hX h hl; first | rfl | (simp_all [rtell, up_rd]; done) | grind [rtell, up_rd], rfl⟩
  | 2, _ =>
    refine j_iload_n h d_Rec_tell_0 rfl ?_
    refine j_tabIn (off := 61) (tgt := 62) h d_Rec_tell_1 (by decide +kernel) (by decide +kernel) (by decide +kernel) (by decide) ?_
    refine j_aload_n h d_Rec_tell_62 rfl ?_
    refine j_get0 h d_Rec_tell_63 fl_Rec_28 rfl (by assumption) ?_
    exact j_iret hX d_Rec_tell_66 rfl (Nat.le_refl _) (Nat.le_refl _) ⟨rfl, by clear hX h hl; first | rfl | (simp_all [rtell]; done) | grind [rtell], by clear hX h hl; first | rfl | (simp_all [rtell, up_rd]; done) | grind [rtell, up_rd], rfl⟩
  | 3, _ =>
    refine j_iload_n h d_Rec_tell_0 rfl ?_
    refine j_tabIn (off := 66) (tgt := 67) h d_Rec_tell_1 (by decide +kernel) (by decide +kernel) (by decide +kernel) (by decide) ?_
    refine j_aload_n h d_Rec_tell_67 rfl ?_
    refine j_get0 h d_Rec_tell_68 fl_Rec_31 rfl (by assumption) ?_
    exact j_iret hX d_Rec_tell_71 rfl (Nat.le_refl _) (Nat.le_refl _) ⟨rfl, by clear hX h hl; first | rfl | (simp_all [rtell]; done) | grind [rtell], by clear hX h hl; first | rfl | (simp_all [rtell, up_rd]; done) | grind [rtell, up_rd], rfl⟩
  | 4, _ =>
    refine j_iload_n h d_Rec_tell_0 rfl ?_
    refine j_tabIn (off := 71) (tgt := 72) h d_Rec_tell_1 (by decide +kernel) (by decide +kernel) (by decide +kernel) (by decide) ?_
    refine j_aload_n h d_Rec_tell_72 rfl ?_
    refine j_get0 h d_Rec_tell_73 fl_Rec_18 rfl (by assumption) ?_
    exact j_iret hX d_Rec_tell_76 rfl (Nat.le_refl _) (Nat.le_refl _) ⟨rfl, by clear hX h hl; first | rfl | (simp_all [rtell]; done) | grind [rtell], by clear hX h hl; first | rfl | (simp_all [rtell, up_rd]; done) | grind [rtell, up_rd], rfl⟩
  | 5, _ =>
    refine j_iload_n h d_Rec_tell_0 rfl ?_
    refine j_tabIn (off := 76) (tgt := 77) h d_Rec_tell_1 (by decide +kernel) (by decide +kernel) (by decide +kernel) (by decide) ?_
    refine j_aload_n h d_Rec_tell_77 rfl ?_
    refine j_get0 h d_Rec_tell_78 fl_Rec_40 rfl (by assumption) ?_
    exact j_iret hX d_Rec_tell_81 rfl (Nat.le_refl _) (Nat.le_refl _) ⟨rfl, by clear hX h hl; first | rfl | (simp_all [rtell]; done) | grind [rtell], by clear hX h hl; first | rfl | (simp_all [rtell, up_rd]; done) | grind [rtell, up_rd], rfl⟩
  | 6, _ =>
    refine j_iload_n h d_Rec_tell_0 rfl ?_
    refine j_tabIn (off := 81) (tgt := 82) h d_Rec_tell_1 (by decide +kernel) (by decide +kernel) (by decide +kernel) (by decide) ?_
    refine j_aload_n h d_Rec_tell_82 rfl ?_
    refine j_get0 h d_Rec_tell_83 fl_Rec_75 rfl (by assumption) ?_
    exact j_iret hX d_Rec_tell_86 rfl (Nat.le_refl _) (Nat.le_refl _) ⟨rfl, by clear hX h hl; first | rfl | (simp_all [rtell]; done) | grind [rtell], by clear hX h hl; first | rfl | (simp_all [rtell, up_rd]; done) | grind [rtell, up_rd], rfl⟩
  | 7, _ =>
    refine j_iload_n h d_Rec_tell_0 rfl ?_
    refine j_tabIn (off := 86) (tgt := 87) h d_Rec_tell_1 (by decide +kernel) (by decide +kernel) (by decide +kernel) (by decide) ?_
    refine j_aload_n h d_Rec_tell_87 rfl ?_
    refine j_get0 h d_Rec_tell_88 fl_Rec_81 rfl (by assumption) ?_
    exact j_iret hX d_Rec_tell_91 rfl (Nat.le_refl _) (Nat.le_refl _) ⟨rfl, by clear hX h hl; first | rfl | (simp_all [rtell]; done) | grind [rtell], by clear hX h hl; first | rfl | (simp_all [rtell, up_rd]; done) | grind [rtell, up_rd], rfl⟩
  | 8, _ =>
    refine j_iload_n h d_Rec_tell_0 rfl ?_
    refine j_tabIn (off := 91) (tgt := 92) h d_Rec_tell_1 (by decide +kernel) (by decide +kernel) (by decide +kernel) (by decide) ?_
    refine j_aload_n h d_Rec_tell_92 rfl ?_
    refine j_get0 h d_Rec_tell_93 fl_Rec_37 rfl (by assumption) ?_
    exact j_iret hX d_Rec_tell_96 rfl (Nat.le_refl _) (Nat.le_refl _) ⟨rfl, by clear hX h hl; first | rfl | (simp_all [rtell]; done) | grind [rtell], by clear hX h hl; first | rfl | (simp_all [rtell, up_rd]; done) | grind [rtell, up_rd], rfl⟩
  | 9, _ =>
    refine j_iload_n h d_Rec_tell_0 rfl ?_
    refine j_tabOut (tgt := 97) h d_Rec_tell_1 (by decide +kernel) (by decide) ?_
    refine j_aload_n h d_Rec_tell_97 rfl ?_
    refine j_get0 h d_Rec_tell_98 fl_Rec_21 rfl (by assumption) ?_
    refine j_if_eq (tgt := 108) h d_Rec_tell_101 (by decide) (fun c1 => ?_) (fun c1 => ?_)
    · refine j_iconst (v := 0) h d_Rec_tell_108 (by decide) ?_
      refine j_aload_n h d_Rec_tell_109 rfl ?_
      refine j_get0 h d_Rec_tell_110 fl_Rec_34 rfl (by assumption) ?_
      refine j_if_eq (tgt := 120) h d_Rec_tell_113 (by decide) (fun c2 => ?_) (fun c2 => ?_)
      · refine j_iconst (v := 0) h d_Rec_tell_120 (by decide) ?_
        refine j_iadd h d_Rec_tell_121 ?_
        refine j_aload_n h d_Rec_tell_122 rfl ?_
        refine j_get0 h d_Rec_tell_123 fl_Rec_84 rfl (by assumption) ?_
        refine j_if_eq (tgt := 133) h d_Rec_tell_126 (by decide) (fun c3 => ?_) (fun c3 => ?_)
        · refine j_iconst (v := 0) h d_Rec_tell_133 (by decide) ?_
          refine j_iadd h d_Rec_tell_134 ?_
          exact j_iret hX d_Rec_tell_135 rfl (Nat.le_refl _) (Nat.le_refl _) ⟨rfl, by clear hX h hl; first | rfl | (simp_all [rtell]; done) | grind [rtell], by clear hX h hl; first | rfl | (simp_all [rtell, up_rd]; done) | grind [rtell, up_rd], rfl⟩
        · refine j_iconst (v := 4) h d_Rec_tell_129 (by decide) ?_
          refine j_goto (tgt := 134) h d_Rec_tell_130 (by decide) ?_
          refine j_iadd h d_Rec_tell_134 ?_
          exact j_iret hX d_Rec_tell_135 rfl (Nat.le_refl _) (Nat.le_refl _) ⟨rfl, by clear hX h hl; first | rfl | (simp_all [rtell]; done) | grind [rtell], by clear hX h hl; first | rfl | (simp_all [rtell, up_rd]; done) | grind [rtell, up_rd], rfl⟩
      · refine j_iconst (v := 2) h d_Rec_tell_116 (by decide) ?_
        refine j_goto (tgt := 121) h d_Rec_tell_117 (by decide) ?_
        refine j_iadd h d_Rec_tell_121 ?_
        refine j_aload_n h d_Rec_tell_122 rfl ?_
        refine j_get0 h d_Rec_tell_123 fl_Rec_84 rfl (by assumption) ?_
        refine j_if_eq (tgt := 133) h d_Rec_tell_126 (by decide) (fun c4 => ?_) (fun c4 => ?_)
        · refine j_iconst (v := 0) h d_Rec_tell_133 (by decide) ?_
          refine j_iadd h d_Rec_tell_134 ?_
          exact j_iret hX d_Rec_tell_135 rfl (Nat.le_refl _) (Nat.le_refl _) ⟨rfl, by clear hX h hl; first | rfl | (simp_all [rtell]; done) | grind [rtell], by clear hX h hl; first | rfl | (simp_all [rtell, up_rd]; done) | grind [rtell, up_rd], rfl⟩
        · refine j_iconst (v := 4) h d_Rec_tell_129 (by decide) ?_
          refine j_goto (tgt := 134) h d_Rec_tell_130 (by decide) ?_
          refine j_iadd h d_Rec_tell_134 ?_
          exact j_iret hX d_Rec_tell_135 rfl (Nat.le_refl _) (Nat.le_refl _) ⟨rfl, by clear hX h hl; first | rfl | (simp_all [rtell]; done) | grind [rtell], by clear hX h hl; first | rfl | (simp_all [rtell, up_rd]; done) | grind [rtell, up_rd], rfl⟩
    · refine j_iconst (v := 1) h d_Rec_tell_104 (by decide) ?_
      refine j_goto (tgt := 109) h d_Rec_tell_105 (by decide) ?_
      refine j_aload_n h d_Rec_tell_109 rfl ?_
      refine j_get0 h d_Rec_tell_110 fl_Rec_34 rfl (by assumption) ?_
      refine j_if_eq (tgt := 120) h d_Rec_tell_113 (by decide) (fun c5 => ?_) (fun c5 => ?_)
      · refine j_iconst (v := 0) h d_Rec_tell_120 (by decide) ?_
        refine j_iadd h d_Rec_tell_121 ?_
        refine j_aload_n h d_Rec_tell_122 rfl ?_
        refine j_get0 h d_Rec_tell_123 fl_Rec_84 rfl (by assumption) ?_
        refine j_if_eq (tgt := 133) h d_Rec_tell_126 (by decide) (fun c6 => ?_) (fun c6 => ?_)
        · refine j_iconst (v := 0) h d_Rec_tell_133 (by decide) ?_
          refine j_iadd h d_Rec_tell_134 ?_
          exact j_iret hX d_Rec_tell_135 rfl (Nat.le_refl _) (Nat.le_refl _) ⟨rfl, by clear hX h hl; first | rfl | (simp_all [rtell]; done) | grind [rtell], by clear hX h hl; first | rfl | (simp_all [rtell, up_rd]; done) | grind [rtell, up_rd], rfl⟩
        · refine j_iconst (v := 4) h d_Rec_tell_129 (by decide) ?_
          refine j_goto (tgt := 134) h d_Rec_tell_130 (by decide) ?_
          refine j_iadd h d_Rec_tell_134 ?_
          exact j_iret hX d_Rec_tell_135 rfl (Nat.le_refl _) (Nat.le_refl _) ⟨rfl, by clear hX h hl; first | rfl | (simp_all [rtell]; done) | grind [rtell], by clear hX h hl; first | rfl | (simp_all [rtell, up_rd]; done) | grind [rtell, up_rd], rfl⟩
      · refine j_iconst (v := 2) h d_Rec_tell_116 (by decide) ?_
        refine j_goto (tgt := 121) h d_Rec_tell_117 (by decide) ?_
        refine j_iadd h d_Rec_tell_121 ?_
        refine j_aload_n h d_Rec_tell_122 rfl ?_
        refine j_get0 h d_Rec_tell_123 fl_Rec_84 rfl (by assumption) ?_
        refine j_if_eq (tgt := 133) h d_Rec_tell_126 (by decide) (fun c7 => ?_) (fun c7 => ?_)
        · refine j_iconst (v := 0) h d_Rec_tell_133 (by decide) ?_
          refine j_iadd h d_Rec_tell_134 ?_
          exact j_iret hX d_Rec_tell_135 rfl (Nat.le_refl _) (Nat.le_refl _) ⟨rfl, by clear hX h hl; first | rfl | (simp_all [rtell]; done) | grind [rtell], by clear hX h hl; first | rfl | (simp_all [rtell, up_rd]; done) | grind [rtell, up_rd], rfl⟩
        · refine j_iconst (v := 4) h d_Rec_tell_129 (by decide) ?_
          refine j_goto (tgt := 134) h d_Rec_tell_130 (by decide) ?_
          refine j_iadd h d_Rec_tell_134 ?_
          exact j_iret hX d_Rec_tell_135 rfl (Nat.le_refl _) (Nat.le_refl _) ⟨rfl, by clear hX h hl; first | rfl | (simp_all [rtell]; done) | grind [rtell], by clear hX h hl; first | rfl | (simp_all [rtell, up_rd]; done) | grind [rtell, up_rd], rfl⟩
  | k + 10, hk => exact absurd hk (by omega)
theorem d_Cli_takeLease_0 : decode b_Cli_takeLease 0 = .ok (.aload_n 0, 1) := by decide +kernel
theorem d_Cli_takeLease_1 : decode b_Cli_takeLease 1 = .ok (.iload_n 1, 1) := by decide +kernel
theorem d_Cli_takeLease_2 : decode b_Cli_takeLease 2 = .ok (.putfield 9, 3) := by decide +kernel
theorem d_Cli_takeLease_5 : decode b_Cli_takeLease 5 = .ok (.aload_n 0, 1) := by decide +kernel
theorem d_Cli_takeLease_6 : decode b_Cli_takeLease 6 = .ok (.iload_n 2, 1) := by decide +kernel
theorem d_Cli_takeLease_7 : decode b_Cli_takeLease 7 = .ok (.putfield 25, 3) := by decide +kernel
theorem d_Cli_takeLease_10 : decode b_Cli_takeLease 10 = .ok (.return_, 1) := by decide +kernel
set_option maxRecDepth 100000 in
set_option maxHeartbeats 4000000 in
theorem c_Cli_takeLease (l : Launch) (K : Kx) (V : Vx) (A B C D : MI) (P : MP) (c : Nat) (hc : V.1 3 c) (a u : Int32) : Ct l K md_Cli_takeLease (0, 0) 0 0 [.ref (K.ad 3 c), .int a, .int u] V (bk4 A B C D) P (EQ V (none) (bk4 (up (up A 30 c a) 31 c u) B C D) P) := by
  refine ct_of [(0, .ref (K.ad 3 c)), (1, .int a), (2, .int u)] (by decide) (Nat.le_of_ble_eq_true rfl) (ca_r (ca_i (ca_i ca_n))) rfl ?_
  intro X hl hX
  have h : OkX X b_Cli_takeLease R_Cli K := hX.1
  have hN : X.nL = 3 := hX.2.1
  refine j_aload_n h d_Cli_takeLease_0 rfl ?_
  refine j_iload_n h d_Cli_takeLease_1 rfl ?_
  refine j_put0 h d_Cli_takeLease_2 fw_Cli_9 rfl rfl (by assumption) ?_
  refine j_aload_n h d_Cli_takeLease_5 rfl ?_
  refine j_iload_n h d_Cli_takeLease_6 rfl ?_
  refine j_put0 h d_Cli_takeLease_7 fw_Cli_25 rfl rfl (by assumption) ?_
  exact j_vret hX d_Cli_takeLease_10 rfl (Nat.le_refl _) (Nat.le_refl _) ⟨rfl, rfl, rfl, rfl⟩
theorem d_Cli_request_0 : decode b_Cli_request 0 = .ok (.aload_n 0, 1) := by decide +kernel
theorem d_Cli_request_1 : decode b_Cli_request 1 = .ok (.dup, 1) := by decide +kernel
theorem d_Cli_request_2 : decode b_Cli_request 2 = .ok (.getfield 15, 3) := by decide +kernel
theorem d_Cli_request_5 : decode b_Cli_request 5 = .ok (.iconst 1, 1) := by decide +kernel
theorem d_Cli_request_6 : decode b_Cli_request 6 = .ok (.iadd, 1) := by decide +kernel
theorem d_Cli_request_7 : decode b_Cli_request 7 = .ok (.putfield 15, 3) := by decide +kernel
theorem d_Cli_request_10 : decode b_Cli_request 10 = .ok (.aload_n 0, 1) := by decide +kernel
theorem d_Cli_request_11 : decode b_Cli_request 11 = .ok (.iload_n 1, 1) := by decide +kernel
theorem d_Cli_request_12 : decode b_Cli_request 12 = .ok (.putfield 18, 3) := by decide +kernel
theorem d_Cli_request_15 : decode b_Cli_request 15 = .ok (.iload_n 1, 1) := by decide +kernel
theorem d_Cli_request_16 : decode b_Cli_request 16 = .ok (.iconst 2, 1) := by decide +kernel
theorem d_Cli_request_17 : decode b_Cli_request 17 = .ok (.if_icmp .ne 9, 3) := by decide +kernel
theorem d_Cli_request_20 : decode b_Cli_request 20 = .ok (.aload_n 0, 1) := by decide +kernel
theorem d_Cli_request_21 : decode b_Cli_request 21 = .ok (.iconst (-1), 1) := by decide +kernel
theorem d_Cli_request_22 : decode b_Cli_request 22 = .ok (.iconst 0, 1) := by decide +kernel
theorem d_Cli_request_23 : decode b_Cli_request 23 = .ok (.invokevirtual 21, 3) := by decide +kernel
theorem d_Cli_request_26 : decode b_Cli_request 26 = .ok (.return_, 1) := by decide +kernel
set_option maxRecDepth 100000 in
set_option maxHeartbeats 4000000 in
theorem c_Cli_request (l : Launch) (K : Kx) (V : Vx) (A B C D : MI) (P : MP) (c : Nat) (hc : V.1 3 c) (k : Int32) : Ct l K md_Cli_request (1, 22) 0 0 [.ref (K.ad 3 c), .int k] V (bk4 A B C D) P (EQ V (none) (bk4 (clReq A c k) B C D) P) := by
  refine ct_of [(0, .ref (K.ad 3 c)), (1, .int k)] (by decide) (Nat.le_of_ble_eq_true rfl) (ca_r (ca_i ca_n)) rfl ?_
  intro X hl hX
  have h : OkX X b_Cli_request R_Cli K := hX.1
  have hN : X.nL = 2 := hX.2.1
  refine j_aload_n h d_Cli_request_0 rfl ?_
  refine j_dup h d_Cli_request_1 rfl ?_
  refine j_get0 h d_Cli_request_2 fl_Cli_15 rfl (by assumption) ?_
  refine j_iconst (v := 1) h d_Cli_request_5 (by decide) ?_
  refine j_iadd h d_Cli_request_6 ?_
  refine j_put0 h d_Cli_request_7 fw_Cli_15 rfl rfl (by assumption) ?_
  refine j_aload_n h d_Cli_request_10 rfl ?_
  refine j_iload_n h d_Cli_request_11 rfl ?_
  refine j_put0 h d_Cli_request_12 fw_Cli_18 rfl rfl (by assumption) ?_
  refine j_iload_n h d_Cli_request_15 rfl ?_
  refine j_iconst (v := 2) h d_Cli_request_16 (by decide) ?_
  refine j_ic_ne (tgt := 26) h d_Cli_request_17 (by decide) (fun c1 => ?_) (fun c1 => ?_)
  · exact j_vret hX d_Cli_request_26 rfl (Nat.le_refl _) (Nat.le_refl _) ⟨rfl, by clear hX h hl; first | rfl | (simp_all [clReq]; done) | grind [clReq], by clear hX h hl; first | rfl | (simp_all [clReq, up_rd]; done) | grind [clReq, up_rd], rfl⟩
  · refine j_aload_n h d_Cli_request_20 rfl ?_
    refine j_iconst (v := -1) h d_Cli_request_21 (by decide) ?_
    refine j_iconst (v := 0) h d_Cli_request_22 (by decide) ?_
    refine j_callV h (c_Cli_takeLease _ _ _ _ _ _ _ _ _ hc _ _) d_Cli_request_23 ml_Cli_21 mv_Cli_takeLease (by assumption) ⟨rfl, rfl⟩ rfl rfl (Nat.le_of_ble_eq_true rfl) (hR_of hX (by decide) (by decide)) (hf_of hX (by decide) (by decide)) ?_
    rintro _ _ _ _ ⟨rfl, rfl, rfl, rfl⟩
    exact j_vret hX d_Cli_request_26 rfl (Nat.le_refl _) (Nat.le_refl _) ⟨rfl, by clear hX h hl; first | rfl | (simp_all [clReq]; done) | grind [clReq], by clear hX h hl; first | rfl | (simp_all [clReq, up_rd]; done) | grind [clReq, up_rd], rfl⟩
theorem d_Cli_awaits_0 : decode b_Cli_awaits 0 = .ok (.iload_n 1, 1) := by decide +kernel
theorem d_Cli_awaits_1 : decode b_Cli_awaits 1 = .ok (.aload_n 0, 1) := by decide +kernel
theorem d_Cli_awaits_2 : decode b_Cli_awaits 2 = .ok (.getfield 15, 3) := by decide +kernel
theorem d_Cli_awaits_5 : decode b_Cli_awaits 5 = .ok (.if_icmp .ne 15, 3) := by decide +kernel
theorem d_Cli_awaits_8 : decode b_Cli_awaits 8 = .ok (.aload_n 0, 1) := by decide +kernel
theorem d_Cli_awaits_9 : decode b_Cli_awaits 9 = .ok (.getfield 18, 3) := by decide +kernel
theorem d_Cli_awaits_12 : decode b_Cli_awaits 12 = .ok (.iconst 2, 1) := by decide +kernel
theorem d_Cli_awaits_13 : decode b_Cli_awaits 13 = .ok (.if_icmp .eq 7, 3) := by decide +kernel
theorem d_Cli_awaits_16 : decode b_Cli_awaits 16 = .ok (.iconst 1, 1) := by decide +kernel
theorem d_Cli_awaits_17 : decode b_Cli_awaits 17 = .ok (.goto 4, 3) := by decide +kernel
theorem d_Cli_awaits_20 : decode b_Cli_awaits 20 = .ok (.iconst 0, 1) := by decide +kernel
theorem d_Cli_awaits_21 : decode b_Cli_awaits 21 = .ok (.ireturn, 1) := by decide +kernel
set_option maxRecDepth 100000 in
set_option maxHeartbeats 4000000 in
theorem c_Cli_awaits (l : Launch) (K : Kx) (V : Vx) (A B C D : MI) (P : MP) (c : Nat) (hc : V.1 3 c) (k : Int32) : Ct l K md_Cli_awaits (0, 0) 0 0 [.ref (K.ad 3 c), .int k] V (bk4 A B C D) P (EQ V (some (.int (b01 (k = A 32 c ∧ ¬ A 33 c = 2)))) (bk4 A B C D) P) := by
  refine ct_of [(0, .ref (K.ad 3 c)), (1, .int k)] (by decide) (Nat.le_of_ble_eq_true rfl) (ca_r (ca_i ca_n)) rfl ?_
  intro X hl hX
  have h : OkX X b_Cli_awaits R_Cli K := hX.1
  have hN : X.nL = 2 := hX.2.1
  refine j_iload_n h d_Cli_awaits_0 rfl ?_
  refine j_aload_n h d_Cli_awaits_1 rfl ?_
  refine j_get0 h d_Cli_awaits_2 fl_Cli_15 rfl (by assumption) ?_
  refine j_ic_ne (tgt := 20) h d_Cli_awaits_5 (by decide) (fun c1 => ?_) (fun c1 => ?_)
  · refine j_iconst (v := 0) h d_Cli_awaits_20 (by decide) ?_
    exact j_zret hX d_Cli_awaits_21 rfl (by first | exact Or.inl rfl | exact Or.inr rfl | exact b01_z _ | assumption) (Nat.le_refl _) (Nat.le_refl _) ⟨rfl, by clear hX h hl; first | rfl | (simp_all [b01]; done) | grind [b01], by clear hX h hl; first | rfl | (simp_all [b01, up_rd]; done) | grind [b01, up_rd], rfl⟩
  · refine j_aload_n h d_Cli_awaits_8 rfl ?_
    refine j_get0 h d_Cli_awaits_9 fl_Cli_18 rfl (by assumption) ?_
    refine j_iconst (v := 2) h d_Cli_awaits_12 (by decide) ?_
    refine j_ic_eq (tgt := 20) h d_Cli_awaits_13 (by decide) (fun c2 => ?_) (fun c2 => ?_)
    · refine j_iconst (v := 0) h d_Cli_awaits_20 (by decide) ?_
      exact j_zret hX d_Cli_awaits_21 rfl (by first | exact Or.inl rfl | exact Or.inr rfl | exact b01_z _ | assumption) (Nat.le_refl _) (Nat.le_refl _) ⟨rfl, by clear hX h hl; first | rfl | (simp_all [b01]; done) | grind [b01], by clear hX h hl; first | rfl | (simp_all [b01, up_rd]; done) | grind [b01, up_rd], rfl⟩
    · refine j_iconst (v := 1) h d_Cli_awaits_16 (by decide) ?_
      refine j_goto (tgt := 21) h d_Cli_awaits_17 (by decide) ?_
      exact j_zret hX d_Cli_awaits_21 rfl (by first | exact Or.inl rfl | exact Or.inr rfl | exact b01_z _ | assumption) (Nat.le_refl _) (Nat.le_refl _) ⟨rfl, by clear hX h hl; first | rfl | (simp_all [b01]; done) | grind [b01], by clear hX h hl; first | rfl | (simp_all [b01, up_rd]; done) | grind [b01, up_rd], rfl⟩
theorem d_Cli_holds_0 : decode b_Cli_holds 0 = .ok (.aload_n 0, 1) := by decide +kernel
theorem d_Cli_holds_1 : decode b_Cli_holds 1 = .ok (.getfield 9, 3) := by decide +kernel
theorem d_Cli_holds_4 : decode b_Cli_holds 4 = .ok (.iconst (-1), 1) := by decide +kernel
theorem d_Cli_holds_5 : decode b_Cli_holds 5 = .ok (.if_icmp .eq 17, 3) := by decide +kernel
theorem d_Cli_holds_8 : decode b_Cli_holds 8 = .ok (.iload_n 1, 1) := by decide +kernel
theorem d_Cli_holds_9 : decode b_Cli_holds 9 = .ok (.aload_n 0, 1) := by decide +kernel
theorem d_Cli_holds_10 : decode b_Cli_holds 10 = .ok (.getfield 25, 3) := by decide +kernel
theorem d_Cli_holds_13 : decode b_Cli_holds 13 = .ok (.iload_n 2, 1) := by decide +kernel
theorem d_Cli_holds_14 : decode b_Cli_holds 14 = .ok (.isub, 1) := by decide +kernel
theorem d_Cli_holds_15 : decode b_Cli_holds 15 = .ok (.if_icmp .ge 7, 3) := by decide +kernel
theorem d_Cli_holds_18 : decode b_Cli_holds 18 = .ok (.iconst 1, 1) := by decide +kernel
theorem d_Cli_holds_19 : decode b_Cli_holds 19 = .ok (.goto 4, 3) := by decide +kernel
theorem d_Cli_holds_22 : decode b_Cli_holds 22 = .ok (.iconst 0, 1) := by decide +kernel
theorem d_Cli_holds_23 : decode b_Cli_holds 23 = .ok (.ireturn, 1) := by decide +kernel
set_option maxRecDepth 100000 in
set_option maxHeartbeats 4000000 in
theorem c_Cli_holds (l : Launch) (K : Kx) (V : Vx) (A B C D : MI) (P : MP) (c : Nat) (hc : V.1 3 c) (t u : Int32) : Ct l K md_Cli_holds (0, 0) 0 0 [.ref (K.ad 3 c), .int t, .int u] V (bk4 A B C D) P (EQ V (some (.int (b01 (¬ A 30 c = -1 ∧ t < A 31 c - u)))) (bk4 A B C D) P) := by
  refine ct_of [(0, .ref (K.ad 3 c)), (1, .int t), (2, .int u)] (by decide) (Nat.le_of_ble_eq_true rfl) (ca_r (ca_i (ca_i ca_n))) rfl ?_
  intro X hl hX
  have h : OkX X b_Cli_holds R_Cli K := hX.1
  have hN : X.nL = 3 := hX.2.1
  refine j_aload_n h d_Cli_holds_0 rfl ?_
  refine j_get0 h d_Cli_holds_1 fl_Cli_9 rfl (by assumption) ?_
  refine j_iconst (v := -1) h d_Cli_holds_4 (by decide) ?_
  refine j_ic_eq (tgt := 22) h d_Cli_holds_5 (by decide) (fun c1 => ?_) (fun c1 => ?_)
  · refine j_iconst (v := 0) h d_Cli_holds_22 (by decide) ?_
    exact j_zret hX d_Cli_holds_23 rfl (by first | exact Or.inl rfl | exact Or.inr rfl | exact b01_z _ | assumption) (Nat.le_refl _) (Nat.le_refl _) ⟨rfl, by clear hX h hl; first | rfl | (simp_all [b01]; done) | grind [b01], by clear hX h hl; first | rfl | (simp_all [b01, up_rd]; done) | grind [b01, up_rd], rfl⟩
  · refine j_iload_n h d_Cli_holds_8 rfl ?_
    refine j_aload_n h d_Cli_holds_9 rfl ?_
    refine j_get0 h d_Cli_holds_10 fl_Cli_25 rfl (by assumption) ?_
    refine j_iload_n h d_Cli_holds_13 rfl ?_
    refine j_isub h d_Cli_holds_14 ?_
    refine j_ic_ge (tgt := 22) h d_Cli_holds_15 (by decide) (fun c2 => ?_) (fun c2 => ?_)
    · refine j_iconst (v := 0) h d_Cli_holds_22 (by decide) ?_
      exact j_zret hX d_Cli_holds_23 rfl (by first | exact Or.inl rfl | exact Or.inr rfl | exact b01_z _ | assumption) (Nat.le_refl _) (Nat.le_refl _) ⟨rfl, by clear hX h hl; first | rfl | (simp_all [b01]; done) | grind [b01], by clear hX h hl; first | rfl | (simp_all [b01, up_rd]; done) | grind [b01, up_rd], rfl⟩
    · refine j_iconst (v := 1) h d_Cli_holds_18 (by decide) ?_
      refine j_goto (tgt := 23) h d_Cli_holds_19 (by decide) ?_
      exact j_zret hX d_Cli_holds_23 rfl (by first | exact Or.inl rfl | exact Or.inr rfl | exact b01_z _ | assumption) (Nat.le_refl _) (Nat.le_refl _) ⟨rfl, by clear hX h hl; first | rfl | (simp_all [b01]; done) | grind [b01], by clear hX h hl; first | rfl | (simp_all [b01, up_rd]; done) | grind [b01, up_rd], rfl⟩
theorem d_Msg_begin_0 : decode b_Msg_begin 0 = .ok (.aload_n 0, 1) := by decide +kernel
theorem d_Msg_begin_1 : decode b_Msg_begin 1 = .ok (.iload_n 1, 1) := by decide +kernel
theorem d_Msg_begin_2 : decode b_Msg_begin 2 = .ok (.putfield 9, 3) := by decide +kernel
theorem d_Msg_begin_5 : decode b_Msg_begin 5 = .ok (.aload_n 0, 1) := by decide +kernel
theorem d_Msg_begin_6 : decode b_Msg_begin 6 = .ok (.iload_n 2, 1) := by decide +kernel
theorem d_Msg_begin_7 : decode b_Msg_begin 7 = .ok (.putfield 15, 3) := by decide +kernel
theorem d_Msg_begin_10 : decode b_Msg_begin 10 = .ok (.aload_n 0, 1) := by decide +kernel
theorem d_Msg_begin_11 : decode b_Msg_begin 11 = .ok (.iload_n 3, 1) := by decide +kernel
theorem d_Msg_begin_12 : decode b_Msg_begin 12 = .ok (.putfield 18, 3) := by decide +kernel
theorem d_Msg_begin_15 : decode b_Msg_begin 15 = .ok (.aload_n 0, 1) := by decide +kernel
theorem d_Msg_begin_16 : decode b_Msg_begin 16 = .ok (.iconst 0, 1) := by decide +kernel
theorem d_Msg_begin_17 : decode b_Msg_begin 17 = .ok (.putfield 21, 3) := by decide +kernel
theorem d_Msg_begin_20 : decode b_Msg_begin 20 = .ok (.aload_n 0, 1) := by decide +kernel
theorem d_Msg_begin_21 : decode b_Msg_begin 21 = .ok (.iconst (-1), 1) := by decide +kernel
theorem d_Msg_begin_22 : decode b_Msg_begin 22 = .ok (.putfield 24, 3) := by decide +kernel
theorem d_Msg_begin_25 : decode b_Msg_begin 25 = .ok (.aload_n 0, 1) := by decide +kernel
theorem d_Msg_begin_26 : decode b_Msg_begin 26 = .ok (.iconst 0, 1) := by decide +kernel
theorem d_Msg_begin_27 : decode b_Msg_begin 27 = .ok (.putfield 27, 3) := by decide +kernel
theorem d_Msg_begin_30 : decode b_Msg_begin 30 = .ok (.return_, 1) := by decide +kernel
set_option maxRecDepth 100000 in
set_option maxHeartbeats 4000000 in
theorem c_Msg_begin (l : Launch) (K : Kx) (V : Vx) (A B C D : MI) (P : MP) (q : Nat) (hq : V.1 5 q) (t f g : Int32) : Ct l K md_Msg_begin (0, 0) 0 0 [.ref (K.ad 5 q), .int t, .int f, .int g] V (bk4 A B C D) P (EQ V (none) (bk4 A (mBegin B q t f g) C D) P) := by
  refine ct_of [(0, .ref (K.ad 5 q)), (1, .int t), (2, .int f), (3, .int g)] (by decide) (Nat.le_of_ble_eq_true rfl) (ca_r (ca_i (ca_i (ca_i ca_n)))) rfl ?_
  intro X hl hX
  have h : OkX X b_Msg_begin R_Msg K := hX.1
  have hN : X.nL = 4 := hX.2.1
  refine j_aload_n h d_Msg_begin_0 rfl ?_
  refine j_iload_n h d_Msg_begin_1 rfl ?_
  refine j_put1 h d_Msg_begin_2 fw_Msg_9 rfl rfl (by assumption) ?_
  refine j_aload_n h d_Msg_begin_5 rfl ?_
  refine j_iload_n h d_Msg_begin_6 rfl ?_
  refine j_put1 h d_Msg_begin_7 fw_Msg_15 rfl rfl (by assumption) ?_
  refine j_aload_n h d_Msg_begin_10 rfl ?_
  refine j_iload_n h d_Msg_begin_11 rfl ?_
  refine j_put1 h d_Msg_begin_12 fw_Msg_18 rfl rfl (by assumption) ?_
  refine j_aload_n h d_Msg_begin_15 rfl ?_
  refine j_iconst (v := 0) h d_Msg_begin_16 (by decide) ?_
  refine j_put1 h d_Msg_begin_17 fw_Msg_21 rfl rfl (by assumption) ?_
  refine j_aload_n h d_Msg_begin_20 rfl ?_
  refine j_iconst (v := -1) h d_Msg_begin_21 (by decide) ?_
  refine j_put1 h d_Msg_begin_22 fw_Msg_24 rfl rfl (by assumption) ?_
  refine j_aload_n h d_Msg_begin_25 rfl ?_
  refine j_iconst (v := 0) h d_Msg_begin_26 (by decide) ?_
  refine j_put1 h d_Msg_begin_27 fw_Msg_27 rfl rfl (by assumption) ?_
  exact j_vret hX d_Msg_begin_30 rfl (Nat.le_refl _) (Nat.le_refl _) ⟨rfl, rfl, rfl, rfl⟩
/-- all fields of q2 into q, one behind the other -/
def mCopy (B : MI) (q q2 : Nat) : MI := (up (up (up (up (up (up (up (up (up (up (up (up (up (up (up B 80 q (B 80 q2)) 82 q (B 82 q2)) 81 q (B 81 q2)) 83 q (B 83 q2)) 84 q (B 84 q2)) 85 q (B 85 q2)) 86 q (B 86 q2)) 87 q (B 87 q2)) 88 q (B 88 q2)) 89 q (B 89 q2)) 90 q (B 90 q2)) 91 q (B 91 q2)) 92 q (B 92 q2)) 93 q (B 93 q2)) 94 q (B 94 q2))
theorem d_Msg_copy_0 : decode b_Msg_copy 0 = .ok (.aload_n 0, 1) := by decide +kernel
theorem d_Msg_copy_1 : decode b_Msg_copy 1 = .ok (.aload_n 1, 1) := by decide +kernel
theorem d_Msg_copy_2 : decode b_Msg_copy 2 = .ok (.getfield 9, 3) := by decide +kernel
theorem d_Msg_copy_5 : decode b_Msg_copy 5 = .ok (.putfield 9, 3) := by decide +kernel
theorem d_Msg_copy_8 : decode b_Msg_copy 8 = .ok (.aload_n 0, 1) := by decide +kernel
theorem d_Msg_copy_9 : decode b_Msg_copy 9 = .ok (.aload_n 1, 1) := by decide +kernel
theorem d_Msg_copy_10 : decode b_Msg_copy 10 = .ok (.getfield 15, 3) := by decide +kernel
theorem d_Msg_copy_13 : decode b_Msg_copy 13 = .ok (.putfield 15, 3) := by decide +kernel
theorem d_Msg_copy_16 : decode b_Msg_copy 16 = .ok (.aload_n 0, 1) := by decide +kernel
theorem d_Msg_copy_17 : decode b_Msg_copy 17 = .ok (.aload_n 1, 1) := by decide +kernel
theorem d_Msg_copy_18 : decode b_Msg_copy 18 = .ok (.getfield 18, 3) := by decide +kernel
theorem d_Msg_copy_21 : decode b_Msg_copy 21 = .ok (.putfield 18, 3) := by decide +kernel
theorem d_Msg_copy_24 : decode b_Msg_copy 24 = .ok (.aload_n 0, 1) := by decide +kernel
theorem d_Msg_copy_25 : decode b_Msg_copy 25 = .ok (.aload_n 1, 1) := by decide +kernel
theorem d_Msg_copy_26 : decode b_Msg_copy 26 = .ok (.getfield 21, 3) := by decide +kernel
theorem d_Msg_copy_29 : decode b_Msg_copy 29 = .ok (.putfield 21, 3) := by decide +kernel
theorem d_Msg_copy_32 : decode b_Msg_copy 32 = .ok (.aload_n 0, 1) := by decide +kernel
theorem d_Msg_copy_33 : decode b_Msg_copy 33 = .ok (.aload_n 1, 1) := by decide +kernel
theorem d_Msg_copy_34 : decode b_Msg_copy 34 = .ok (.getfield 24, 3) := by decide +kernel
theorem d_Msg_copy_37 : decode b_Msg_copy 37 = .ok (.putfield 24, 3) := by decide +kernel
theorem d_Msg_copy_40 : decode b_Msg_copy 40 = .ok (.aload_n 0, 1) := by decide +kernel
theorem d_Msg_copy_41 : decode b_Msg_copy 41 = .ok (.aload_n 1, 1) := by decide +kernel
theorem d_Msg_copy_42 : decode b_Msg_copy 42 = .ok (.getfield 30, 3) := by decide +kernel
theorem d_Msg_copy_45 : decode b_Msg_copy 45 = .ok (.putfield 30, 3) := by decide +kernel
theorem d_Msg_copy_48 : decode b_Msg_copy 48 = .ok (.aload_n 0, 1) := by decide +kernel
theorem d_Msg_copy_49 : decode b_Msg_copy 49 = .ok (.aload_n 1, 1) := by decide +kernel
theorem d_Msg_copy_50 : decode b_Msg_copy 50 = .ok (.getfield 27, 3) := by decide +kernel
theorem d_Msg_copy_53 : decode b_Msg_copy 53 = .ok (.putfield 27, 3) := by decide +kernel
theorem d_Msg_copy_56 : decode b_Msg_copy 56 = .ok (.aload_n 0, 1) := by decide +kernel
theorem d_Msg_copy_57 : decode b_Msg_copy 57 = .ok (.aload_n 1, 1) := by decide +kernel
theorem d_Msg_copy_58 : decode b_Msg_copy 58 = .ok (.getfield 33, 3) := by decide +kernel
theorem d_Msg_copy_61 : decode b_Msg_copy 61 = .ok (.putfield 33, 3) := by decide +kernel
theorem d_Msg_copy_64 : decode b_Msg_copy 64 = .ok (.aload_n 0, 1) := by decide +kernel
theorem d_Msg_copy_65 : decode b_Msg_copy 65 = .ok (.aload_n 1, 1) := by decide +kernel
theorem d_Msg_copy_66 : decode b_Msg_copy 66 = .ok (.getfield 36, 3) := by decide +kernel
theorem d_Msg_copy_69 : decode b_Msg_copy 69 = .ok (.putfield 36, 3) := by decide +kernel
theorem d_Msg_copy_72 : decode b_Msg_copy 72 = .ok (.aload_n 0, 1) := by decide +kernel
theorem d_Msg_copy_73 : decode b_Msg_copy 73 = .ok (.aload_n 1, 1) := by decide +kernel
theorem d_Msg_copy_74 : decode b_Msg_copy 74 = .ok (.getfield 39, 3) := by decide +kernel
theorem d_Msg_copy_77 : decode b_Msg_copy 77 = .ok (.putfield 39, 3) := by decide +kernel
theorem d_Msg_copy_80 : decode b_Msg_copy 80 = .ok (.aload_n 0, 1) := by decide +kernel
theorem d_Msg_copy_81 : decode b_Msg_copy 81 = .ok (.aload_n 1, 1) := by decide +kernel
theorem d_Msg_copy_82 : decode b_Msg_copy 82 = .ok (.getfield 42, 3) := by decide +kernel
theorem d_Msg_copy_85 : decode b_Msg_copy 85 = .ok (.putfield 42, 3) := by decide +kernel
theorem d_Msg_copy_88 : decode b_Msg_copy 88 = .ok (.aload_n 0, 1) := by decide +kernel
theorem d_Msg_copy_89 : decode b_Msg_copy 89 = .ok (.aload_n 1, 1) := by decide +kernel
theorem d_Msg_copy_90 : decode b_Msg_copy 90 = .ok (.getfield 45, 3) := by decide +kernel
theorem d_Msg_copy_93 : decode b_Msg_copy 93 = .ok (.putfield 45, 3) := by decide +kernel
theorem d_Msg_copy_96 : decode b_Msg_copy 96 = .ok (.aload_n 0, 1) := by decide +kernel
theorem d_Msg_copy_97 : decode b_Msg_copy 97 = .ok (.aload_n 1, 1) := by decide +kernel
theorem d_Msg_copy_98 : decode b_Msg_copy 98 = .ok (.getfield 49, 3) := by decide +kernel
theorem d_Msg_copy_101 : decode b_Msg_copy 101 = .ok (.putfield 49, 3) := by decide +kernel
theorem d_Msg_copy_104 : decode b_Msg_copy 104 = .ok (.aload_n 0, 1) := by decide +kernel
theorem d_Msg_copy_105 : decode b_Msg_copy 105 = .ok (.aload_n 1, 1) := by decide +kernel
theorem d_Msg_copy_106 : decode b_Msg_copy 106 = .ok (.getfield 52, 3) := by decide +kernel
theorem d_Msg_copy_109 : decode b_Msg_copy 109 = .ok (.putfield 52, 3) := by decide +kernel
theorem d_Msg_copy_112 : decode b_Msg_copy 112 = .ok (.aload_n 0, 1) := by decide +kernel
theorem d_Msg_copy_113 : decode b_Msg_copy 113 = .ok (.aload_n 1, 1) := by decide +kernel
theorem d_Msg_copy_114 : decode b_Msg_copy 114 = .ok (.getfield 55, 3) := by decide +kernel
theorem d_Msg_copy_117 : decode b_Msg_copy 117 = .ok (.putfield 55, 3) := by decide +kernel
theorem d_Msg_copy_120 : decode b_Msg_copy 120 = .ok (.return_, 1) := by decide +kernel
set_option maxRecDepth 100000 in
set_option maxHeartbeats 4000000 in
theorem c_Msg_copy (l : Launch) (K : Kx) (V : Vx) (A B C D : MI) (P : MP) (q : Nat) (hq : V.1 5 q) (q2 : Nat) (hq2 : V.1 5 q2) (hb : B 91 q2 = 0 ∨ B 91 q2 = 1) : Ct l K md_Msg_copy (0, 0) 0 0 [.ref (K.ad 5 q), .ref (K.ad 5 q2)] V (bk4 A B C D) P (EQ V (none) (bk4 A (mCopy B q q2) C D) P) := by
  refine ct_of [(0, .ref (K.ad 5 q)), (1, .ref (K.ad 5 q2))] (by decide) (Nat.le_of_ble_eq_true rfl) (ca_r (ca_r ca_n)) rfl ?_
  intro X hl hX
  have h : OkX X b_Msg_copy R_Msg K := hX.1
  have hN : X.nL = 2 := hX.2.1
  refine j_aload_n h d_Msg_copy_0 rfl ?_
  refine j_aload_n h d_Msg_copy_1 rfl ?_
  refine j_get1e (v := B 80 q2) h d_Msg_copy_2 fl_Msg_9 rfl (by assumption) (by simp [up_rd]) ?_
  refine j_put1 h d_Msg_copy_5 fw_Msg_9 rfl rfl (by assumption) ?_
  refine j_aload_n h d_Msg_copy_8 rfl ?_
  refine j_aload_n h d_Msg_copy_9 rfl ?_
  refine j_get1e (v := B 82 q2) h d_Msg_copy_10 fl_Msg_15 rfl (by assumption) (by simp [up_rd]) ?_
  refine j_put1 h d_Msg_copy_13 fw_Msg_15 rfl rfl (by assumption) ?_
  refine j_aload_n h d_Msg_copy_16 rfl ?_
  refine j_aload_n h d_Msg_copy_17 rfl ?_
  refine j_get1e (v := B 81 q2) h d_Msg_copy_18 fl_Msg_18 rfl (by assumption) (by simp [up_rd]) ?_
  refine j_put1 h d_Msg_copy_21 fw_Msg_18 rfl rfl (by assumption) ?_
  refine j_aload_n h d_Msg_copy_24 rfl ?_
  refine j_aload_n h d_Msg_copy_25 rfl ?_
  refine j_get1e (v := B 83 q2) h d_Msg_copy_26 fl_Msg_21 rfl (by assumption) (by simp [up_rd]) ?_
  refine j_put1 h d_Msg_copy_29 fw_Msg_21 rfl rfl (by assumption) ?_
  refine j_aload_n h d_Msg_copy_32 rfl ?_
  refine j_aload_n h d_Msg_copy_33 rfl ?_
  refine j_get1e (v := B 84 q2) h d_Msg_copy_34 fl_Msg_24 rfl (by assumption) (by simp [up_rd]) ?_
  refine j_put1 h d_Msg_copy_37 fw_Msg_24 rfl rfl (by assumption) ?_
  refine j_aload_n h d_Msg_copy_40 rfl ?_
  refine j_aload_n h d_Msg_copy_41 rfl ?_
  refine j_get1e (v := B 85 q2) h d_Msg_copy_42 fl_Msg_30 rfl (by assumption) (by simp [up_rd]) ?_
  refine j_put1 h d_Msg_copy_45 fw_Msg_30 rfl rfl (by assumption) ?_
  refine j_aload_n h d_Msg_copy_48 rfl ?_
  refine j_aload_n h d_Msg_copy_49 rfl ?_
  refine j_get1e (v := B 86 q2) h d_Msg_copy_50 fl_Msg_27 rfl (by assumption) (by simp [up_rd]) ?_
  refine j_put1 h d_Msg_copy_53 fw_Msg_27 rfl rfl (by assumption) ?_
  refine j_aload_n h d_Msg_copy_56 rfl ?_
  refine j_aload_n h d_Msg_copy_57 rfl ?_
  refine j_get1e (v := B 87 q2) h d_Msg_copy_58 fl_Msg_33 rfl (by assumption) (by simp [up_rd]) ?_
  refine j_put1 h d_Msg_copy_61 fw_Msg_33 rfl rfl (by assumption) ?_
  refine j_aload_n h d_Msg_copy_64 rfl ?_
  refine j_aload_n h d_Msg_copy_65 rfl ?_
  refine j_get1e (v := B 88 q2) h d_Msg_copy_66 fl_Msg_36 rfl (by assumption) (by simp [up_rd]) ?_
  refine j_put1 h d_Msg_copy_69 fw_Msg_36 rfl rfl (by assumption) ?_
  refine j_aload_n h d_Msg_copy_72 rfl ?_
  refine j_aload_n h d_Msg_copy_73 rfl ?_
  refine j_get1e (v := B 89 q2) h d_Msg_copy_74 fl_Msg_39 rfl (by assumption) (by simp [up_rd]) ?_
  refine j_put1 h d_Msg_copy_77 fw_Msg_39 rfl rfl (by assumption) ?_
  refine j_aload_n h d_Msg_copy_80 rfl ?_
  refine j_aload_n h d_Msg_copy_81 rfl ?_
  refine j_get1e (v := B 90 q2) h d_Msg_copy_82 fl_Msg_42 rfl (by assumption) (by simp [up_rd]) ?_
  refine j_put1 h d_Msg_copy_85 fw_Msg_42 rfl rfl (by assumption) ?_
  refine j_aload_n h d_Msg_copy_88 rfl ?_
  refine j_aload_n h d_Msg_copy_89 rfl ?_
  refine j_get1e (v := B 91 q2) h d_Msg_copy_90 fl_Msg_45 rfl (by assumption) (by simp [up_rd]) ?_
  refine j_putZ1 h d_Msg_copy_93 fw_Msg_45 rfl rfl (by assumption) (by first | exact Or.inl rfl | exact Or.inr rfl | assumption) ?_
  refine j_aload_n h d_Msg_copy_96 rfl ?_
  refine j_aload_n h d_Msg_copy_97 rfl ?_
  refine j_get1e (v := B 92 q2) h d_Msg_copy_98 fl_Msg_49 rfl (by assumption) (by simp [up_rd]) ?_
  refine j_put1 h d_Msg_copy_101 fw_Msg_49 rfl rfl (by assumption) ?_
  refine j_aload_n h d_Msg_copy_104 rfl ?_
  refine j_aload_n h d_Msg_copy_105 rfl ?_
  refine j_get1e (v := B 93 q2) h d_Msg_copy_106 fl_Msg_52 rfl (by assumption) (by simp [up_rd]) ?_
  refine j_put1 h d_Msg_copy_109 fw_Msg_52 rfl rfl (by assumption) ?_
  refine j_aload_n h d_Msg_copy_112 rfl ?_
  refine j_aload_n h d_Msg_copy_113 rfl ?_
  refine j_get1e (v := B 94 q2) h d_Msg_copy_114 fl_Msg_55 rfl (by assumption) (by simp [up_rd]) ?_
  refine j_put1 h d_Msg_copy_117 fw_Msg_55 rfl rfl (by assumption) ?_
  exact j_vret hX d_Msg_copy_120 rfl (Nat.le_refl _) (Nat.le_refl _) ⟨rfl, rfl, rfl, rfl⟩
theorem d_Msg_tell_0 : decode b_Msg_tell 0 = .ok (.iload_n 1, 1) := by decide +kernel
theorem d_Msg_tell_1 : decode b_Msg_tell 1 = .ok (.tableswitch 69 0 5 #[39, 44, 49, 54, 59, 64], 39) := by decide +kernel
theorem d_Msg_tell_40 : decode b_Msg_tell 40 = .ok (.aload_n 0, 1) := by decide +kernel
theorem d_Msg_tell_41 : decode b_Msg_tell 41 = .ok (.getfield 9, 3) := by decide +kernel
theorem d_Msg_tell_44 : decode b_Msg_tell 44 = .ok (.ireturn, 1) := by decide +kernel
theorem d_Msg_tell_45 : decode b_Msg_tell 45 = .ok (.aload_n 0, 1) := by decide +kernel
theorem d_Msg_tell_46 : decode b_Msg_tell 46 = .ok (.getfield 18, 3) := by decide +kernel
theorem d_Msg_tell_49 : decode b_Msg_tell 49 = .ok (.ireturn, 1) := by decide +kernel
theorem d_Msg_tell_50 : decode b_Msg_tell 50 = .ok (.aload_n 0, 1) := by decide +kernel
theorem d_Msg_tell_51 : decode b_Msg_tell 51 = .ok (.getfield 15, 3) := by decide +kernel
theorem d_Msg_tell_54 : decode b_Msg_tell 54 = .ok (.ireturn, 1) := by decide +kernel
theorem d_Msg_tell_55 : decode b_Msg_tell 55 = .ok (.aload_n 0, 1) := by decide +kernel
theorem d_Msg_tell_56 : decode b_Msg_tell 56 = .ok (.getfield 21, 3) := by decide +kernel
theorem d_Msg_tell_59 : decode b_Msg_tell 59 = .ok (.ireturn, 1) := by decide +kernel
theorem d_Msg_tell_60 : decode b_Msg_tell 60 = .ok (.aload_n 0, 1) := by decide +kernel
theorem d_Msg_tell_61 : decode b_Msg_tell 61 = .ok (.getfield 24, 3) := by decide +kernel
theorem d_Msg_tell_64 : decode b_Msg_tell 64 = .ok (.ireturn, 1) := by decide +kernel
theorem d_Msg_tell_65 : decode b_Msg_tell 65 = .ok (.aload_n 0, 1) := by decide +kernel
theorem d_Msg_tell_66 : decode b_Msg_tell 66 = .ok (.getfield 30, 3) := by decide +kernel
theorem d_Msg_tell_69 : decode b_Msg_tell 69 = .ok (.ireturn, 1) := by decide +kernel
theorem d_Msg_tell_70 : decode b_Msg_tell 70 = .ok (.aload_n 0, 1) := by decide +kernel
theorem d_Msg_tell_71 : decode b_Msg_tell 71 = .ok (.getfield 27, 3) := by decide +kernel
theorem d_Msg_tell_74 : decode b_Msg_tell 74 = .ok (.ireturn, 1) := by decide +kernel
set_option maxRecDepth 100000 in
set_option maxHeartbeats 4000000 in
theorem c_Msg_tell (l : Launch) (K : Kx) (V : Vx) (A B C D : MI) (P : MP) (q : Nat) (hq : V.1 5 q) (w : Nat) (hw : w < 7) : Ct l K md_Msg_tell (0, 0) 0 0 [.ref (K.ad 5 q), .int (nI w)] V (bk4 A B C D) P (EQ V (some (.int (B (80 + w) q))) (bk4 A B C D) P) := by
  refine ct_of [(0, .ref (K.ad 5 q)), (1, .int (nI w))] (by decide) (Nat.le_of_ble_eq_true rfl) (ca_r (ca_i ca_n)) rfl ?_
  intro X hl hX
  have h : OkX X b_Msg_tell R_Msg K := hX.1
  have hN : X.nL = 2 := hX.2.1
  match w, hw with
  | 0, _ =>
    refine j_iload_n h d_Msg_tell_0 rfl ?_
    refine j_tabIn (off := 39) (tgt := 40) h d_Msg_tell_1 (by decide +kernel) (by decide +kernel) (by decide +kernel) (by decide) ?_
    refine j_aload_n h d_Msg_tell_40 rfl ?_
    refine j_get1 h d_Msg_tell_41 fl_Msg_9 rfl (by assumption) ?_
    exact j_iret hX d_Msg_tell_44 rfl (Nat.le_refl _) (Nat.le_refl _) ⟨rfl, rfl, rfl, rfl⟩
  | 1, _ =>
    refine j_iload_n h d_Msg_tell_0 rfl ?_
    refine j_tabIn (off := 44) (tgt := 45) h d_Msg_tell_1 (by decide +kernel) (by decide +kernel) (by decide +kernel) (by decide) ?_
    refine j_aload_n h d_Msg_tell_45 rfl ?_
    refine j_get1 h d_Msg_tell_46 fl_Msg_18 rfl (by assumption) ?_
    exact j_iret hX d_Msg_tell_49 rfl (Nat.le_refl _) (Nat.le_refl _) ⟨rfl, rfl, rfl, rfl⟩
  | 2, _ =>
    refine j_iload_n h d_Msg_tell_0 rfl ?_
    refine j_tabIn (off := 49) (tgt := 50) h d_Msg_tell_1 (by decide +kernel) (by decide +kernel) (by decide +kernel) (by decide) ?_
    refine j_aload_n h d_Msg_tell_50 rfl ?_
    refine j_get1 h d_Msg_tell_51 fl_Msg_15 rfl (by assumption) ?_
    exact j_iret hX d_Msg_tell_54 rfl (Nat.le_refl _) (Nat.le_refl _) ⟨rfl, rfl, rfl, rfl⟩
  | 3, _ =>
    refine j_iload_n h d_Msg_tell_0 rfl ?_
    refine j_tabIn (off := 54) (tgt := 55) h d_Msg_tell_1 (by decide +kernel) (by decide +kernel) (by decide +kernel) (by decide) ?_
    refine j_aload_n h d_Msg_tell_55 rfl ?_
    refine j_get1 h d_Msg_tell_56 fl_Msg_21 rfl (by assumption) ?_
    exact j_iret hX d_Msg_tell_59 rfl (Nat.le_refl _) (Nat.le_refl _) ⟨rfl, rfl, rfl, rfl⟩
  | 4, _ =>
    refine j_iload_n h d_Msg_tell_0 rfl ?_
    refine j_tabIn (off := 59) (tgt := 60) h d_Msg_tell_1 (by decide +kernel) (by decide +kernel) (by decide +kernel) (by decide) ?_
    refine j_aload_n h d_Msg_tell_60 rfl ?_
    refine j_get1 h d_Msg_tell_61 fl_Msg_24 rfl (by assumption) ?_
    exact j_iret hX d_Msg_tell_64 rfl (Nat.le_refl _) (Nat.le_refl _) ⟨rfl, rfl, rfl, rfl⟩
  | 5, _ =>
    refine j_iload_n h d_Msg_tell_0 rfl ?_
    refine j_tabIn (off := 64) (tgt := 65) h d_Msg_tell_1 (by decide +kernel) (by decide +kernel) (by decide +kernel) (by decide) ?_
    refine j_aload_n h d_Msg_tell_65 rfl ?_
    refine j_get1 h d_Msg_tell_66 fl_Msg_30 rfl (by assumption) ?_
    exact j_iret hX d_Msg_tell_69 rfl (Nat.le_refl _) (Nat.le_refl _) ⟨rfl, rfl, rfl, rfl⟩
  | 6, _ =>
    refine j_iload_n h d_Msg_tell_0 rfl ?_
    refine j_tabOut (tgt := 70) h d_Msg_tell_1 (by decide +kernel) (by decide) ?_
    refine j_aload_n h d_Msg_tell_70 rfl ?_
    refine j_get1 h d_Msg_tell_71 fl_Msg_27 rfl (by assumption) ?_
    exact j_iret hX d_Msg_tell_74 rfl (Nat.le_refl _) (Nat.le_refl _) ⟨rfl, rfl, rfl, rfl⟩
  | k + 7, hk => exact absurd hk (by omega)
theorem d_Srv_serves_0 : decode b_Srv_serves 0 = .ok (.aload_n 0, 1) := by decide +kernel
theorem d_Srv_serves_1 : decode b_Srv_serves 1 = .ok (.getfield 33, 3) := by decide +kernel
theorem d_Srv_serves_4 : decode b_Srv_serves 4 = .ok (.iconst 2, 1) := by decide +kernel
theorem d_Srv_serves_5 : decode b_Srv_serves 5 = .ok (.if_icmp .eq 11, 3) := by decide +kernel
theorem d_Srv_serves_8 : decode b_Srv_serves 8 = .ok (.aload_n 0, 1) := by decide +kernel
theorem d_Srv_serves_9 : decode b_Srv_serves 9 = .ok (.getfield 33, 3) := by decide +kernel
theorem d_Srv_serves_12 : decode b_Srv_serves 12 = .ok (.iconst 3, 1) := by decide +kernel
theorem d_Srv_serves_13 : decode b_Srv_serves 13 = .ok (.if_icmp .ne 7, 3) := by decide +kernel
theorem d_Srv_serves_16 : decode b_Srv_serves 16 = .ok (.iconst 1, 1) := by decide +kernel
theorem d_Srv_serves_17 : decode b_Srv_serves 17 = .ok (.goto 4, 3) := by decide +kernel
theorem d_Srv_serves_20 : decode b_Srv_serves 20 = .ok (.iconst 0, 1) := by decide +kernel
theorem d_Srv_serves_21 : decode b_Srv_serves 21 = .ok (.ireturn, 1) := by decide +kernel
set_option maxRecDepth 100000 in
set_option maxHeartbeats 4000000 in
theorem c_Srv_serves (l : Launch) (K : Kx) (V : Vx) (A B C D : MI) (P : MP) (s : Nat) (hs : V.1 1 s) : Ct l K md_Srv_serves (0, 0) 0 0 [.ref (K.ad 1 s)] V (bk4 A B C D) P (EQ V (some (.int (b01 (A 0 s = 2 ∨ A 0 s = 3)))) (bk4 A B C D) P) := by
  refine ct_of [(0, .ref (K.ad 1 s))] (by decide) (Nat.le_of_ble_eq_true rfl) (ca_r ca_n) rfl ?_
  intro X hl hX
  have h : OkX X b_Srv_serves R_Srv K := hX.1
  have hN : X.nL = 1 := hX.2.1
  refine j_aload_n h d_Srv_serves_0 rfl ?_
  refine j_get0 h d_Srv_serves_1 fl_Srv_33 rfl (by assumption) ?_
  refine j_iconst (v := 2) h d_Srv_serves_4 (by decide) ?_
  refine j_ic_eq (tgt := 16) h d_Srv_serves_5 (by decide) (fun c1 => ?_) (fun c1 => ?_)
  · refine j_iconst (v := 1) h d_Srv_serves_16 (by decide) ?_
    refine j_goto (tgt := 21) h d_Srv_serves_17 (by decide) ?_
    exact j_zret hX d_Srv_serves_21 rfl (by first | exact Or.inl rfl | exact Or.inr rfl | exact b01_z _ | assumption) (Nat.le_refl _) (Nat.le_refl _) ⟨rfl, by clear hX h hl; first | rfl | (simp_all [b01]; done) | grind [b01], by clear hX h hl; first | rfl | (simp_all [b01, up_rd]; done) | grind [b01, up_rd], rfl⟩
  · refine j_aload_n h d_Srv_serves_8 rfl ?_
    refine j_get0 h d_Srv_serves_9 fl_Srv_33 rfl (by assumption) ?_
    refine j_iconst (v := 3) h d_Srv_serves_12 (by decide) ?_
    refine j_ic_ne (tgt := 20) h d_Srv_serves_13 (by decide) (fun c2 => ?_) (fun c2 => ?_)
    · refine j_iconst (v := 0) h d_Srv_serves_20 (by decide) ?_
      exact j_zret hX d_Srv_serves_21 rfl (by first | exact Or.inl rfl | exact Or.inr rfl | exact b01_z _ | assumption) (Nat.le_refl _) (Nat.le_refl _) ⟨rfl, by clear hX h hl; first | rfl | (simp_all [b01]; done) | grind [b01], by clear hX h hl; first | rfl | (simp_all [b01, up_rd]; done) | grind [b01, up_rd], rfl⟩
    · refine j_iconst (v := 1) h d_Srv_serves_16 (by decide) ?_
      refine j_goto (tgt := 21) h d_Srv_serves_17 (by decide) ?_
      exact j_zret hX d_Srv_serves_21 rfl (by first | exact Or.inl rfl | exact Or.inr rfl | exact b01_z _ | assumption) (Nat.le_refl _) (Nat.le_refl _) ⟨rfl, by clear hX h hl; first | rfl | (simp_all [b01]; done) | grind [b01], by clear hX h hl; first | rfl | (simp_all [b01, up_rd]; done) | grind [b01, up_rd], rfl⟩
theorem d_Srv_hears_0 : decode b_Srv_hears 0 = .ok (.iload_n 1, 1) := by decide +kernel
theorem d_Srv_hears_1 : decode b_Srv_hears 1 = .ok (.ifCond .ne 10, 3) := by decide +kernel
theorem d_Srv_hears_4 : decode b_Srv_hears 4 = .ok (.aload_n 0, 1) := by decide +kernel
theorem d_Srv_hears_5 : decode b_Srv_hears 5 = .ok (.invokevirtual 45, 3) := by decide +kernel
theorem d_Srv_hears_8 : decode b_Srv_hears 8 = .ok (.goto 15, 3) := by decide +kernel
theorem d_Srv_hears_11 : decode b_Srv_hears 11 = .ok (.aload_n 0, 1) := by decide +kernel
theorem d_Srv_hears_12 : decode b_Srv_hears 12 = .ok (.getfield 33, 3) := by decide +kernel
theorem d_Srv_hears_15 : decode b_Srv_hears 15 = .ok (.ifCond .eq 7, 3) := by decide +kernel
theorem d_Srv_hears_18 : decode b_Srv_hears 18 = .ok (.iconst 1, 1) := by decide +kernel
theorem d_Srv_hears_19 : decode b_Srv_hears 19 = .ok (.goto 4, 3) := by decide +kernel
theorem d_Srv_hears_22 : decode b_Srv_hears 22 = .ok (.iconst 0, 1) := by decide +kernel
theorem d_Srv_hears_23 : decode b_Srv_hears 23 = .ok (.ireturn, 1) := by decide +kernel
set_option maxRecDepth 100000 in
set_option maxHeartbeats 4000000 in
theorem c_Srv_hears (l : Launch) (K : Kx) (V : Vx) (A B C D : MI) (P : MP) (s : Nat) (hs : V.1 1 s) (t : Int32) : Ct l K md_Srv_hears (1, 20) 0 0 [.ref (K.ad 1 s), .int t] V (bk4 A B C D) P (EQ V (some (.int (b01 ((t = 0 ∧ (A 0 s = 2 ∨ A 0 s = 3)) ∨ (¬ t = 0 ∧ ¬ A 0 s = 0))))) (bk4 A B C D) P) := by
  refine ct_of [(0, .ref (K.ad 1 s)), (1, .int t)] (by decide) (Nat.le_of_ble_eq_true rfl) (ca_r (ca_i ca_n)) rfl ?_
  intro X hl hX
  have h : OkX X b_Srv_hears R_Srv K := hX.1
  have hN : X.nL = 2 := hX.2.1
  refine j_iload_n h d_Srv_hears_0 rfl ?_
  refine j_if_ne (tgt := 11) h d_Srv_hears_1 (by decide) (fun c1 => ?_) (fun c1 => ?_)
  · refine j_aload_n h d_Srv_hears_11 rfl ?_
    refine j_get0 h d_Srv_hears_12 fl_Srv_33 rfl (by assumption) ?_
    refine j_if_eq (tgt := 22) h d_Srv_hears_15 (by decide) (fun c2 => ?_) (fun c2 => ?_)
    · refine j_iconst (v := 0) h d_Srv_hears_22 (by decide) ?_
      exact j_zret hX d_Srv_hears_23 rfl (by first | exact Or.inl rfl | exact Or.inr rfl | exact b01_z _ | assumption) (Nat.le_refl _) (Nat.le_refl _) ⟨rfl, by clear hX h hl; first | rfl | (simp_all [b01]; done) | grind [b01], by clear hX h hl; first | rfl | (simp_all [b01, up_rd]; done) | grind [b01, up_rd], rfl⟩
    · refine j_iconst (v := 1) h d_Srv_hears_18 (by decide) ?_
      refine j_goto (tgt := 23) h d_Srv_hears_19 (by decide) ?_
      exact j_zret hX d_Srv_hears_23 rfl (by first | exact Or.inl rfl | exact Or.inr rfl | exact b01_z _ | assumption) (Nat.le_refl _) (Nat.le_refl _) ⟨rfl, by clear hX h hl; first | rfl | (simp_all [b01]; done) | grind [b01], by clear hX h hl; first | rfl | (simp_all [b01, up_rd]; done) | grind [b01, up_rd], rfl⟩
  · refine j_aload_n h d_Srv_hears_4 rfl ?_
    refine j_callV h (c_Srv_serves _ _ _ _ _ _ _ _ _ hs) d_Srv_hears_5 ml_Srv_45 mv_Srv_serves (by assumption) ⟨rfl, rfl⟩ rfl rfl (Nat.le_of_ble_eq_true rfl) (hR_of hX (by decide) (by decide)) (hf_of hX (by decide) (by decide)) ?_
    rintro _ _ _ _ ⟨rfl, rfl, rfl, rfl⟩
    refine j_goto (tgt := 23) h d_Srv_hears_8 (by decide) ?_
    exact j_zret hX d_Srv_hears_23 rfl (by first | exact Or.inl rfl | exact Or.inr rfl | exact b01_z _ | assumption) (Nat.le_refl _) (Nat.le_refl _) ⟨rfl, by clear hX h hl; first | rfl | (simp_all [b01]; done) | grind [b01], by clear hX h hl; first | rfl | (simp_all [b01, up_rd]; done) | grind [b01, up_rd], rfl⟩
theorem d_Srv_die_0 : decode b_Srv_die 0 = .ok (.aload_n 0, 1) := by decide +kernel
theorem d_Srv_die_1 : decode b_Srv_die 1 = .ok (.iconst 0, 1) := by decide +kernel
theorem d_Srv_die_2 : decode b_Srv_die 2 = .ok (.putfield 33, 3) := by decide +kernel
theorem d_Srv_die_5 : decode b_Srv_die 5 = .ok (.aload_n 0, 1) := by decide +kernel
theorem d_Srv_die_6 : decode b_Srv_die 6 = .ok (.iconst 0, 1) := by decide +kernel
theorem d_Srv_die_7 : decode b_Srv_die 7 = .ok (.putfield 49, 3) := by decide +kernel
theorem d_Srv_die_10 : decode b_Srv_die 10 = .ok (.return_, 1) := by decide +kernel
set_option maxRecDepth 100000 in
set_option maxHeartbeats 4000000 in
theorem c_Srv_die (l : Launch) (K : Kx) (V : Vx) (A B C D : MI) (P : MP) (s : Nat) (hs : V.1 1 s) : Ct l K md_Srv_die (0, 0) 0 0 [.ref (K.ad 1 s)] V (bk4 A B C D) P (EQ V (none) (bk4 (up (up A 0 s 0) 6 s 0) B C D) P) := by
  refine ct_of [(0, .ref (K.ad 1 s))] (by decide) (Nat.le_of_ble_eq_true rfl) (ca_r ca_n) rfl ?_
  intro X hl hX
  have h : OkX X b_Srv_die R_Srv K := hX.1
  have hN : X.nL = 1 := hX.2.1
  refine j_aload_n h d_Srv_die_0 rfl ?_
  refine j_iconst (v := 0) h d_Srv_die_1 (by decide) ?_
  refine j_put0 h d_Srv_die_2 fw_Srv_33 rfl rfl (by assumption) ?_
  refine j_aload_n h d_Srv_die_5 rfl ?_
  refine j_iconst (v := 0) h d_Srv_die_6 (by decide) ?_
  refine j_put0 h d_Srv_die_7 fw_Srv_49 rfl rfl (by assumption) ?_
  exact j_vret hX d_Srv_die_10 rfl (Nat.le_refl _) (Nat.le_refl _) ⟨rfl, rfl, rfl, rfl⟩
theorem d_Srv_write_0 : decode b_Srv_write 0 = .ok (.aload_n 0, 1) := by decide +kernel
theorem d_Srv_write_1 : decode b_Srv_write 1 = .ok (.dup, 1) := by decide +kernel
theorem d_Srv_write_2 : decode b_Srv_write 2 = .ok (.getfield 52, 3) := by decide +kernel
theorem d_Srv_write_5 : decode b_Srv_write 5 = .ok (.iconst 1, 1) := by decide +kernel
theorem d_Srv_write_6 : decode b_Srv_write 6 = .ok (.iadd, 1) := by decide +kernel
theorem d_Srv_write_7 : decode b_Srv_write 7 = .ok (.putfield 52, 3) := by decide +kernel
theorem d_Srv_write_10 : decode b_Srv_write 10 = .ok (.aload_n 0, 1) := by decide +kernel
theorem d_Srv_write_11 : decode b_Srv_write 11 = .ok (.getfield 49, 3) := by decide +kernel
theorem d_Srv_write_14 : decode b_Srv_write 14 = .ok (.iconst 1, 1) := by decide +kernel
theorem d_Srv_write_15 : decode b_Srv_write 15 = .ok (.if_icmp .ne 10, 3) := by decide +kernel
theorem d_Srv_write_18 : decode b_Srv_write 18 = .ok (.aload_n 0, 1) := by decide +kernel
theorem d_Srv_write_19 : decode b_Srv_write 19 = .ok (.invokevirtual 55, 3) := by decide +kernel
theorem d_Srv_write_22 : decode b_Srv_write 22 = .ok (.goto 21, 3) := by decide +kernel
theorem d_Srv_write_25 : decode b_Srv_write 25 = .ok (.aload_n 0, 1) := by decide +kernel
theorem d_Srv_write_26 : decode b_Srv_write 26 = .ok (.getfield 49, 3) := by decide +kernel
theorem d_Srv_write_29 : decode b_Srv_write 29 = .ok (.iconst 1, 1) := by decide +kernel
theorem d_Srv_write_30 : decode b_Srv_write 30 = .ok (.if_icmp .le 13, 3) := by decide +kernel
theorem d_Srv_write_33 : decode b_Srv_write 33 = .ok (.aload_n 0, 1) := by decide +kernel
theorem d_Srv_write_34 : decode b_Srv_write 34 = .ok (.dup, 1) := by decide +kernel
theorem d_Srv_write_35 : decode b_Srv_write 35 = .ok (.getfield 49, 3) := by decide +kernel
theorem d_Srv_write_38 : decode b_Srv_write 38 = .ok (.iconst 1, 1) := by decide +kernel
theorem d_Srv_write_39 : decode b_Srv_write 39 = .ok (.isub, 1) := by decide +kernel
theorem d_Srv_write_40 : decode b_Srv_write 40 = .ok (.putfield 49, 3) := by decide +kernel
theorem d_Srv_write_43 : decode b_Srv_write 43 = .ok (.return_, 1) := by decide +kernel
set_option maxRecDepth 100000 in
set_option maxHeartbeats 4000000 in
theorem c_Srv_write (l : Launch) (K : Kx) (V : Vx) (A B C D : MI) (P : MP) (s : Nat) (hs : V.1 1 s) : Ct l K md_Srv_write (1, 20) 0 0 [.ref (K.ad 1 s)] V (bk4 A B C D) P (EQ V (none) (bk4 (wr A s) B C D) P) := by
  refine ct_of [(0, .ref (K.ad 1 s))] (by decide) (Nat.le_of_ble_eq_true rfl) (ca_r ca_n) rfl ?_
  intro X hl hX
  have h : OkX X b_Srv_write R_Srv K := hX.1
  have hN : X.nL = 1 := hX.2.1
  refine j_aload_n h d_Srv_write_0 rfl ?_
  refine j_dup h d_Srv_write_1 rfl ?_
  refine j_get0 h d_Srv_write_2 fl_Srv_52 rfl (by assumption) ?_
  refine j_iconst (v := 1) h d_Srv_write_5 (by decide) ?_
  refine j_iadd h d_Srv_write_6 ?_
  refine j_put0 h d_Srv_write_7 fw_Srv_52 rfl rfl (by assumption) ?_
  refine j_aload_n h d_Srv_write_10 rfl ?_
  refine j_get0 h d_Srv_write_11 fl_Srv_49 rfl (by assumption) ?_
  refine j_iconst (v := 1) h d_Srv_write_14 (by decide) ?_
  refine j_ic_ne (tgt := 25) h d_Srv_write_15 (by decide) (fun c1 => ?_) (fun c1 => ?_)
  · refine j_aload_n h d_Srv_write_25 rfl ?_
    refine j_get0 h d_Srv_write_26 fl_Srv_49 rfl (by assumption) ?_
    refine j_iconst (v := 1) h d_Srv_write_29 (by decide) ?_
    refine j_ic_le (tgt := 43) h d_Srv_write_30 (by decide) (fun c2 => ?_) (fun c2 => ?_)
    · exact j_vret hX d_Srv_write_43 rfl (Nat.le_refl _) (Nat.le_refl _) ⟨rfl, by clear hX h hl; first | rfl | (simp_all [wr]; done) | grind [wr], by clear hX h hl; first | rfl | (simp_all [wr, up_rd]; done) | grind [wr, up_rd], rfl⟩
    · refine j_aload_n h d_Srv_write_33 rfl ?_
      refine j_dup h d_Srv_write_34 rfl ?_
      refine j_get0 h d_Srv_write_35 fl_Srv_49 rfl (by assumption) ?_
      refine j_iconst (v := 1) h d_Srv_write_38 (by decide) ?_
      refine j_isub h d_Srv_write_39 ?_
      refine j_put0 h d_Srv_write_40 fw_Srv_49 rfl rfl (by assumption) ?_
      exact j_vret hX d_Srv_write_43 rfl (Nat.le_refl _) (Nat.le_refl _) ⟨rfl, by clear hX h hl; first | rfl | (simp_all [wr]; done) | grind [wr], by clear hX h hl; first | rfl | (simp_all [wr, up_rd]; done) | grind [wr, up_rd], rfl⟩
  · refine j_aload_n h d_Srv_write_18 rfl ?_
    refine j_callV h (c_Srv_die _ _ _ _ _ _ _ _ _ hs) d_Srv_write_19 ml_Srv_55 mv_Srv_die (by assumption) ⟨rfl, rfl⟩ rfl rfl (Nat.le_of_ble_eq_true rfl) (hR_of hX (by decide) (by decide)) (hf_of hX (by decide) (by decide)) ?_
    rintro _ _ _ _ ⟨rfl, rfl, rfl, rfl⟩
    refine j_goto (tgt := 43) h d_Srv_write_22 (by decide) ?_
    exact j_vret hX d_Srv_write_43 rfl (Nat.le_refl _) (Nat.le_refl _) ⟨rfl, by clear hX h hl; first | rfl | (simp_all [wr]; done) | grind [wr], by clear hX h hl; first | rfl | (simp_all [wr, up_rd]; done) | grind [wr, up_rd], rfl⟩
end
section
/-! the system's objects: which there are, where they hang -/
def CS (K : Kx) (V : Vx) (P : MP) (n : Nat) : Prop :=
  ((2 ≤ n ∧ n ≤ 32) ∧ V.1 0 0 ∧ (∀ s, s < 2 → V.1 1 s) ∧ (∀ s a, s < 2 → a < n → V.1 2 (32 * s + a)) ∧ (∀ c, c < 16 → V.1 3 c) ∧ V.1 4 0 ∧ ∀ q, q < 601 → V.1 5 q) ∧
  ((∀ a, a < 6 → V.2.1 a) ∧ K.alen 0 = 2 ∧ K.alen 1 = 16 ∧ K.alen 2 = n ∧ K.alen 3 = n ∧ K.alen 4 = 300 ∧ K.alen 5 = 300) ∧
  (P 0 0 = some (K.aad 0) ∧ P 1 0 = some (K.aad 1) ∧ P 2 0 = some (K.ad 4 0) ∧ P 3 0 = some (K.ad 5 600) ∧ (∀ s, s < 2 → P 4 s = some (K.aad (2 + s))) ∧ (∀ s, s < 2 → P 10 s = some (K.ad 1 s)) ∧ (∀ c, c < 16 → P 11 c = some (K.ad 3 c)) ∧ ∀ s a, s < 2 → a < n → P (12 + s) a = some (K.ad 2 (32 * s + a)))
section CSS
variable {K : Kx} {V : Vx} {P : MP} {n : Nat}
theorem cs_n (c : CS K V P n) : n ≤ 32 := c.1.1.2
theorem cs_n31 (c : CS K V P n) : n < 2 ^ 31 := Nat.lt_of_le_of_lt c.1.1.2 (by decide)
theorem cs_sv (c : CS K V P n) {s : Nat} (h : s < 2) : V.1 1 s := c.1.2.2.1 s h
theorem cs_rv (c : CS K V P n) {s a : Nat} (h : s < 2) (ha : a < n) : V.1 2 (32 * s + a) := c.1.2.2.2.1 s a h ha
theorem cs_cv (c : CS K V P n) {a : Nat} (h : a < 16) : V.1 3 a := c.1.2.2.2.2.1 a h
theorem cs_nv (c : CS K V P n) : V.1 4 0 := c.1.2.2.2.2.2.1
theorem cs_mv (c : CS K V P n) {q : Nat} (h : q < 601) : V.1 5 q := c.1.2.2.2.2.2.2 q h
theorem cs_av (c : CS K V P n) {a : Nat} (h : a < 6) : V.2.1 a := c.2.1.1 a h
theorem cs_rl (c : CS K V P n) {s : Nat} (h : s < 2) : K.alen (2 + s) = n := by
  rcases (show s = 0 ∨ s = 1 by omega) with rfl | rfl
  · exact c.2.1.2.2.2.1
  · exact c.2.1.2.2.2.2.1
theorem cs_rp (c : CS K V P n) {s : Nat} (h : s < 2) : P 4 s = some (K.aad (2 + s)) := c.2.2.2.2.2.2.1 s h
theorem cs_rq (c : CS K V P n) {s a : Nat} (h : s < 2) (ha : a < n) : P (12 + s) a = some (K.ad 2 (32 * s + a)) := c.2.2.2.2.2.2.2.2.2 s a h ha
theorem ai_rec {s : Nat} (h : s < 2) : ainf (2 + s) = (2, 9, 12 + s) ∧ aty (2 + s) = 5 := by
  rcases (show s = 0 ∨ s = 1 by omega) with rfl | rfl <;> exact ⟨rfl, rfl⟩
end CSS
theorem nI_i (a : Nat) : nI a + Int32.ofInt 1 = nI (a + 1) := nI_1 a
theorem lvs0 {lv : List (Nat × Value)} : ∀ q ∈ ([] : List (Nat × Value)), getL lv q.1 = some q.2 := fun _ h => by cases h
theorem lvs {lv t : List (Nat × Value)} {k : Nat} {v : Value} (h : getL lv k = some v) (ht : ∀ q ∈ t, getL lv q.1 = some q.2) : ∀ q ∈ (k, v) :: t, getL lv q.1 = some q.2 := fun q hq => (List.mem_cons.mp hq).elim (fun e => by rw [e]; exact h) (ht q)
section JS
variable {X : Jx} {cc : ByteArray} {own : String} {K : Kx} {V : Vx} {I : MI3} {P : MP} {cells slots pc : Nat} {lv : List (Nat × Value)} {st : List Value} {n : Nat}
theorem j_recs (h : OkX X cc own K) (cs : CS K V P n) {s a : Nat} (hs : s < 2) (ha : a < n) (d : decode cc pc = .ok (.aaload, 1)) (kk : J X K V I P cells slots (pc + 1) lv (.ref (K.ad 2 (32 * s + a)) :: st)) : J X K V I P cells slots pc lv (.int (nI a) :: .ref (K.aad (2 + s)) :: st) :=
  j_aald (C := "LeasePair$LeaseRecord") h d (ai_rec hs).1 ⟨by rw [(ai_rec hs).2]; rfl, by rw [(ai_rec hs).2]; decide⟩ (cs_av cs (by omega)) rfl (by rw [cs_rl cs hs]; exact ha) (by rw [cs_rl cs hs]; exact cs_n31 cs) (cs_rq cs hs ha) kk
theorem j_recl (h : OkX X cc own K) (cs : CS K V P n) {s : Nat} (hs : s < 2) (d : decode cc pc = .ok (.arraylength, 1)) (kk : J X K V I P cells slots (pc + 1) lv (.int (nI n) :: st)) : J X K V I P cells slots pc lv (.ref (K.aad (2 + s)) :: st) :=
  j_alen h d (by rw [(ai_rec hs).2]; decide) (cs_av cs (by omega)) (by rw [cs_rl cs hs]; exact kk)
end JS
end
section
/-! loops over a server's records -/
def lstOwn (A : MI) (s : Nat) : Nat → Nat → Int32
  | 0, _ => -1
  | k + 1, i => if A 10 (32 * s + i) = 1 then nI i else lstOwn A s k (i + 1)
def clrR (s : Nat) : Nat → Nat → MI → MI
  | 0, _, A => A
  | k + 1, i, A => clrR s k (i + 1) (up (up A 22 (32 * s + i) 0) 21 (32 * s + i) 0)
theorem d_Srv_leastOwn_0 : decode b_Srv_leastOwn 0 = .ok (.iconst 0, 1) := by decide +kernel
theorem d_Srv_leastOwn_1 : decode b_Srv_leastOwn 1 = .ok (.istore_n 1, 1) := by decide +kernel
theorem d_Srv_leastOwn_2 : decode b_Srv_leastOwn 2 = .ok (.iload_n 1, 1) := by decide +kernel
theorem d_Srv_leastOwn_3 : decode b_Srv_leastOwn 3 = .ok (.aload_n 0, 1) := by decide +kernel
theorem d_Srv_leastOwn_4 : decode b_Srv_leastOwn 4 = .ok (.getfield 26, 3) := by decide +kernel
theorem d_Srv_leastOwn_7 : decode b_Srv_leastOwn 7 = .ok (.arraylength, 1) := by decide +kernel
theorem d_Srv_leastOwn_8 : decode b_Srv_leastOwn 8 = .ok (.if_icmp .ge 24, 3) := by decide +kernel
theorem d_Srv_leastOwn_11 : decode b_Srv_leastOwn 11 = .ok (.aload_n 0, 1) := by decide +kernel
theorem d_Srv_leastOwn_12 : decode b_Srv_leastOwn 12 = .ok (.getfield 26, 3) := by decide +kernel
theorem d_Srv_leastOwn_15 : decode b_Srv_leastOwn 15 = .ok (.iload_n 1, 1) := by decide +kernel
theorem d_Srv_leastOwn_16 : decode b_Srv_leastOwn 16 = .ok (.aaload, 1) := by decide +kernel
theorem d_Srv_leastOwn_17 : decode b_Srv_leastOwn 17 = .ok (.getfield 71, 3) := by decide +kernel
theorem d_Srv_leastOwn_20 : decode b_Srv_leastOwn 20 = .ok (.iconst 1, 1) := by decide +kernel
theorem d_Srv_leastOwn_21 : decode b_Srv_leastOwn 21 = .ok (.if_icmp .ne 5, 3) := by decide +kernel
theorem d_Srv_leastOwn_24 : decode b_Srv_leastOwn 24 = .ok (.iload_n 1, 1) := by decide +kernel
theorem d_Srv_leastOwn_25 : decode b_Srv_leastOwn 25 = .ok (.ireturn, 1) := by decide +kernel
theorem d_Srv_leastOwn_26 : decode b_Srv_leastOwn 26 = .ok (.iinc 1 1, 3) := by decide +kernel
theorem d_Srv_leastOwn_29 : decode b_Srv_leastOwn 29 = .ok (.goto (-27), 3) := by decide +kernel
theorem d_Srv_leastOwn_32 : decode b_Srv_leastOwn 32 = .ok (.iconst (-1), 1) := by decide +kernel
theorem d_Srv_leastOwn_33 : decode b_Srv_leastOwn 33 = .ok (.ireturn, 1) := by decide +kernel
set_option maxRecDepth 100000 in
set_option maxHeartbeats 4000000 in
theorem c_Srv_leastOwn (l : Launch) (K : Kx) (V : Vx) (A B C D : MI) (P : MP) (n : Nat) (cs : CS K V P n) (s : Nat) (hs : s < 2) : Ct l K md_Srv_leastOwn (0, 0) 0 0 [.ref (K.ad 1 s)] V (bk4 A B C D) P (EQ V (some (.int (lstOwn A s n 0))) (bk4 A B C D) P) := by
  refine ct_of [(0, .ref (K.ad 1 s))] (by decide) (Nat.le_of_ble_eq_true rfl) (ca_r ca_n) rfl ?_
  intro X hl hX
  have h : OkX X b_Srv_leastOwn R_Srv K := hX.1
  have hN : X.nL = 2 := hX.2.1
  have hsv := cs_sv cs hs
  have hL : ∀ (k i : Nat) , i + k = n → lstOwn A s n 0 = lstOwn A s k i → J X K V (bk4 A B C D) P 0 0 2 [(0, .ref (K.ad 1 s)), (1, .int (nI i))] [] := by
    intro k
    induction k with
    | zero =>
      intro i  hi hv
      have hi2 : i = n := by omega
      subst hi2
      refine j_iload_n h d_Srv_leastOwn_2 rfl ?_
      refine j_aload_n h d_Srv_leastOwn_3 rfl ?_
      refine j_getR h d_Srv_leastOwn_4 fl_Srv_26 rfl (by assumption) (cs_rp cs hs) ?_
      refine j_recl h cs hs d_Srv_leastOwn_7 ?_
      refine j_ic_ge (tgt := 32) h d_Srv_leastOwn_8 (by decide) (fun _ => ?_) (fun c => absurd (nI_le (Nat.le_refl _) (cs_n31 cs)) c)
      refine j_iconst (v := -1) h d_Srv_leastOwn_32 (by decide) ?_
      exact j_iret hX d_Srv_leastOwn_33 rfl (Nat.le_refl _) (Nat.le_refl _) ⟨rfl, by rw [hv]; simp_all [lstOwn], rfl, rfl⟩
    | succ k ih =>
      intro i  hi hv
      have hi2 : i < n := by omega
      have hr := cs_rv cs hs hi2
      refine j_iload_n h d_Srv_leastOwn_2 rfl ?_
      refine j_aload_n h d_Srv_leastOwn_3 rfl ?_
      refine j_getR h d_Srv_leastOwn_4 fl_Srv_26 rfl (by assumption) (cs_rp cs hs) ?_
      refine j_recl h cs hs d_Srv_leastOwn_7 ?_
      refine j_ic_ge (tgt := 32) h d_Srv_leastOwn_8 (by decide) (fun c => absurd c (nI_ge hi2 (cs_n31 cs))) (fun _ => ?_)
      refine j_aload_n h d_Srv_leastOwn_11 rfl ?_
      refine j_getR h d_Srv_leastOwn_12 fl_Srv_26 rfl (by assumption) (cs_rp cs hs) ?_
      refine j_iload_n h d_Srv_leastOwn_15 rfl ?_
      refine j_recs h cs hs hi2 d_Srv_leastOwn_16 ?_
      refine j_get0 h d_Srv_leastOwn_17 fl_Srv_71 rfl (by assumption) ?_
      refine j_iconst (v := 1) h d_Srv_leastOwn_20 (by decide) ?_
      refine j_ic_ne (tgt := 26) h d_Srv_leastOwn_21 (by decide) (fun c1 => ?_) (fun c1 => ?_)
      · refine j_iinc (v := nI (i + 1)) h d_Srv_leastOwn_26 rfl (nI_i i) (Nat.lt_of_lt_of_eq (m := 2) (by decide) hN.symm) ?_
        refine j_goto (tgt := 2) h d_Srv_leastOwn_29 (by decide) ?_
        refine j_lv (lv' := [(0, .ref (K.ad 1 s)), (1, .int (nI (i + 1)))]) (lvs rfl (lvs rfl lvs0)) ?_
        exact ih (i + 1) (by omega) (hv.trans (by simp only [lstOwn]; rw [if_neg (by assumption)]))
      · refine j_iload_n h d_Srv_leastOwn_24 rfl ?_
        exact j_iret hX d_Srv_leastOwn_25 rfl (Nat.le_refl _) (Nat.le_refl _) ⟨rfl, by rw [hv]; simp_all [lstOwn], rfl, rfl⟩
  refine j_iconst (v := 0) h d_Srv_leastOwn_0 (by decide) ?_
  refine j_istore_n h d_Srv_leastOwn_1 (Nat.lt_of_lt_of_eq (m := 2) (by decide) hN.symm) ?_
  refine j_lv (lv' := [(0, .ref (K.ad 1 s)), (1, .int (nI 0))]) (lvs rfl (lvs rfl lvs0)) ?_
  exact hL n 0 (by omega) rfl
theorem d_Srv_comeUp_0 : decode b_Srv_comeUp 0 = .ok (.aload_n 0, 1) := by decide +kernel
theorem d_Srv_comeUp_1 : decode b_Srv_comeUp 1 = .ok (.dup, 1) := by decide +kernel
theorem d_Srv_comeUp_2 : decode b_Srv_comeUp 2 = .ok (.getfield 36, 3) := by decide +kernel
theorem d_Srv_comeUp_5 : decode b_Srv_comeUp 5 = .ok (.iconst 1, 1) := by decide +kernel
theorem d_Srv_comeUp_6 : decode b_Srv_comeUp 6 = .ok (.iadd, 1) := by decide +kernel
theorem d_Srv_comeUp_7 : decode b_Srv_comeUp 7 = .ok (.putfield 36, 3) := by decide +kernel
theorem d_Srv_comeUp_10 : decode b_Srv_comeUp 10 = .ok (.aload_n 0, 1) := by decide +kernel
theorem d_Srv_comeUp_11 : decode b_Srv_comeUp 11 = .ok (.iconst 1, 1) := by decide +kernel
theorem d_Srv_comeUp_12 : decode b_Srv_comeUp 12 = .ok (.putfield 33, 3) := by decide +kernel
theorem d_Srv_comeUp_15 : decode b_Srv_comeUp 15 = .ok (.iconst 0, 1) := by decide +kernel
theorem d_Srv_comeUp_16 : decode b_Srv_comeUp 16 = .ok (.istore_n 1, 1) := by decide +kernel
theorem d_Srv_comeUp_17 : decode b_Srv_comeUp 17 = .ok (.iload_n 1, 1) := by decide +kernel
theorem d_Srv_comeUp_18 : decode b_Srv_comeUp 18 = .ok (.aload_n 0, 1) := by decide +kernel
theorem d_Srv_comeUp_19 : decode b_Srv_comeUp 19 = .ok (.getfield 26, 3) := by decide +kernel
theorem d_Srv_comeUp_22 : decode b_Srv_comeUp 22 = .ok (.arraylength, 1) := by decide +kernel
theorem d_Srv_comeUp_23 : decode b_Srv_comeUp 23 = .ok (.if_icmp .ge 29, 3) := by decide +kernel
theorem d_Srv_comeUp_26 : decode b_Srv_comeUp 26 = .ok (.aload_n 0, 1) := by decide +kernel
theorem d_Srv_comeUp_27 : decode b_Srv_comeUp 27 = .ok (.getfield 26, 3) := by decide +kernel
theorem d_Srv_comeUp_30 : decode b_Srv_comeUp 30 = .ok (.iload_n 1, 1) := by decide +kernel
theorem d_Srv_comeUp_31 : decode b_Srv_comeUp 31 = .ok (.aaload, 1) := by decide +kernel
theorem d_Srv_comeUp_32 : decode b_Srv_comeUp 32 = .ok (.iconst 0, 1) := by decide +kernel
theorem d_Srv_comeUp_33 : decode b_Srv_comeUp 33 = .ok (.putfield 58, 3) := by decide +kernel
theorem d_Srv_comeUp_36 : decode b_Srv_comeUp 36 = .ok (.aload_n 0, 1) := by decide +kernel
theorem d_Srv_comeUp_37 : decode b_Srv_comeUp 37 = .ok (.getfield 26, 3) := by decide +kernel
theorem d_Srv_comeUp_40 : decode b_Srv_comeUp 40 = .ok (.iload_n 1, 1) := by decide +kernel
theorem d_Srv_comeUp_41 : decode b_Srv_comeUp 41 = .ok (.aaload, 1) := by decide +kernel
theorem d_Srv_comeUp_42 : decode b_Srv_comeUp 42 = .ok (.iconst 0, 1) := by decide +kernel
theorem d_Srv_comeUp_43 : decode b_Srv_comeUp 43 = .ok (.putfield 62, 3) := by decide +kernel
theorem d_Srv_comeUp_46 : decode b_Srv_comeUp 46 = .ok (.iinc 1 1, 3) := by decide +kernel
theorem d_Srv_comeUp_49 : decode b_Srv_comeUp 49 = .ok (.goto (-32), 3) := by decide +kernel
theorem d_Srv_comeUp_52 : decode b_Srv_comeUp 52 = .ok (.aload_n 0, 1) := by decide +kernel
theorem d_Srv_comeUp_53 : decode b_Srv_comeUp 53 = .ok (.iconst 0, 1) := by decide +kernel
theorem d_Srv_comeUp_54 : decode b_Srv_comeUp 54 = .ok (.putfield 49, 3) := by decide +kernel
theorem d_Srv_comeUp_57 : decode b_Srv_comeUp 57 = .ok (.aload_n 0, 1) := by decide +kernel
theorem d_Srv_comeUp_58 : decode b_Srv_comeUp 58 = .ok (.invokevirtual 65, 3) := by decide +kernel
theorem d_Srv_comeUp_61 : decode b_Srv_comeUp 61 = .ok (.return_, 1) := by decide +kernel
set_option maxRecDepth 100000 in
set_option maxHeartbeats 4000000 in
theorem c_Srv_comeUp (l : Launch) (K : Kx) (V : Vx) (A B C D : MI) (P : MP) (n : Nat) (cs : CS K V P n) (s : Nat) (hs : s < 2) : Ct l K md_Srv_comeUp (2, 40) 0 0 [.ref (K.ad 1 s)] V (bk4 A B C D) P (EQ V (none) (bk4 (wr (up (clrR s n 0 (up (up A 2 s (A 2 s + 1)) 0 s 1)) 6 s 0) s) B C D) P) := by
  refine ct_of [(0, .ref (K.ad 1 s))] (by decide) (Nat.le_of_ble_eq_true rfl) (ca_r ca_n) rfl ?_
  intro X hl hX
  have h : OkX X b_Srv_comeUp R_Srv K := hX.1
  have hN : X.nL = 2 := hX.2.1
  have hsv := cs_sv cs hs
  have hL : ∀ (k i : Nat) (A1 : MI), i + k = n → clrR s n 0 (up (up A 2 s (A 2 s + 1)) 0 s 1) = clrR s k i A1 → J X K V (bk4 A1 B C D) P 0 0 17 [(0, .ref (K.ad 1 s)), (1, .int (nI i))] [] := by
    intro k
    induction k with
    | zero =>
      intro i A1 hi hv
      have hi2 : i = n := by omega
      subst hi2
      refine j_iload_n h d_Srv_comeUp_17 rfl ?_
      refine j_aload_n h d_Srv_comeUp_18 rfl ?_
      refine j_getR h d_Srv_comeUp_19 fl_Srv_26 rfl (by assumption) (cs_rp cs hs) ?_
      refine j_recl h cs hs d_Srv_comeUp_22 ?_
      refine j_ic_ge (tgt := 52) h d_Srv_comeUp_23 (by decide) (fun _ => ?_) (fun c => absurd (nI_le (Nat.le_refl _) (cs_n31 cs)) c)
      refine j_aload_n h d_Srv_comeUp_52 rfl ?_
      refine j_iconst (v := 0) h d_Srv_comeUp_53 (by decide) ?_
      refine j_put0 h d_Srv_comeUp_54 fw_Srv_49 rfl rfl (by assumption) ?_
      refine j_aload_n h d_Srv_comeUp_57 rfl ?_
      refine j_callV h (c_Srv_write _ _ _ _ _ _ _ _ _ hsv) d_Srv_comeUp_58 ml_Srv_65 mv_Srv_write (by assumption) ⟨rfl, rfl⟩ rfl rfl (Nat.le_of_ble_eq_true rfl) (hR_of hX (by decide) (by decide)) (hf_of hX (by decide) (by decide)) ?_
      rintro _ _ _ _ ⟨rfl, rfl, rfl, rfl⟩
      exact j_vret hX d_Srv_comeUp_61 rfl (Nat.le_refl _) (Nat.le_refl _) ⟨rfl, rfl, by rw [hv]; rfl, rfl⟩
    | succ k ih =>
      intro i A1 hi hv
      have hi2 : i < n := by omega
      have hr := cs_rv cs hs hi2
      refine j_iload_n h d_Srv_comeUp_17 rfl ?_
      refine j_aload_n h d_Srv_comeUp_18 rfl ?_
      refine j_getR h d_Srv_comeUp_19 fl_Srv_26 rfl (by assumption) (cs_rp cs hs) ?_
      refine j_recl h cs hs d_Srv_comeUp_22 ?_
      refine j_ic_ge (tgt := 52) h d_Srv_comeUp_23 (by decide) (fun c => absurd c (nI_ge hi2 (cs_n31 cs))) (fun _ => ?_)
      refine j_aload_n h d_Srv_comeUp_26 rfl ?_
      refine j_getR h d_Srv_comeUp_27 fl_Srv_26 rfl (by assumption) (cs_rp cs hs) ?_
      refine j_iload_n h d_Srv_comeUp_30 rfl ?_
      refine j_recs h cs hs hi2 d_Srv_comeUp_31 ?_
      refine j_iconst (v := 0) h d_Srv_comeUp_32 (by decide) ?_
      refine j_putZ0 h d_Srv_comeUp_33 fw_Srv_58 rfl rfl (by assumption) (by first | exact Or.inl rfl | exact Or.inr rfl | assumption) ?_
      refine j_aload_n h d_Srv_comeUp_36 rfl ?_
      refine j_getR h d_Srv_comeUp_37 fl_Srv_26 rfl (by assumption) (cs_rp cs hs) ?_
      refine j_iload_n h d_Srv_comeUp_40 rfl ?_
      refine j_recs h cs hs hi2 d_Srv_comeUp_41 ?_
      refine j_iconst (v := 0) h d_Srv_comeUp_42 (by decide) ?_
      refine j_putZ0 h d_Srv_comeUp_43 fw_Srv_62 rfl rfl (by assumption) (by first | exact Or.inl rfl | exact Or.inr rfl | assumption) ?_
      refine j_iinc (v := nI (i + 1)) h d_Srv_comeUp_46 rfl (nI_i i) (Nat.lt_of_lt_of_eq (m := 2) (by decide) hN.symm) ?_
      refine j_goto (tgt := 17) h d_Srv_comeUp_49 (by decide) ?_
      refine j_lv (lv' := [(0, .ref (K.ad 1 s)), (1, .int (nI (i + 1)))]) (lvs rfl (lvs rfl lvs0)) ?_
      exact ih (i + 1) _ (by omega) hv
  refine j_aload_n h d_Srv_comeUp_0 rfl ?_
  refine j_dup h d_Srv_comeUp_1 rfl ?_
  refine j_get0 h d_Srv_comeUp_2 fl_Srv_36 rfl (by assumption) ?_
  refine j_iconst (v := 1) h d_Srv_comeUp_5 (by decide) ?_
  refine j_iadd h d_Srv_comeUp_6 ?_
  refine j_put0 h d_Srv_comeUp_7 fw_Srv_36 rfl rfl (by assumption) ?_
  refine j_aload_n h d_Srv_comeUp_10 rfl ?_
  refine j_iconst (v := 1) h d_Srv_comeUp_11 (by decide) ?_
  refine j_put0 h d_Srv_comeUp_12 fw_Srv_33 rfl rfl (by assumption) ?_
  refine j_iconst (v := 0) h d_Srv_comeUp_15 (by decide) ?_
  refine j_istore_n h d_Srv_comeUp_16 (Nat.lt_of_lt_of_eq (m := 2) (by decide) hN.symm) ?_
  refine j_lv (lv' := [(0, .ref (K.ad 1 s)), (1, .int (nI 0))]) (lvs rfl (lvs rfl lvs0)) ?_
  exact hL n 0 _ (by omega) rfl
end
section
/-! a server's methods that touch no message on the net -/
def solR (s : Nat) : Nat → Nat → MI → MI
  | 0, _, A => A
  | k + 1, i, A => solR s k (i + 1) (up A 21 (32 * s + i) (b01 (A 10 (32 * s + i) = 1)))
def rejR (s : Nat) : Nat → Nat → MI → MI
  | 0, _, A => A
  | k + 1, i, A => rejR s k (i + 1) (up A 21 (32 * s + i) 0)
def lsdTo (A : MI) (s : Nat) (c t : Int32) : Nat → Nat → Int32
  | 0, _ => -1
  | k + 1, i => if (A 10 (32 * s + i) = 2 ∧ A 11 (32 * s + i) = c) ∧ ¬ A 12 (32 * s + i) ≤ t then nI i else lsdTo A s c t k (i + 1)
def allF (A : MI) (s : Nat) : Nat → Nat → Int32
  | 0, _ => 1
  | k + 1, i => if A 22 (32 * s + i) = 0 then 0 else allF A s k (i + 1)
theorem allF_z (A : MI) (s : Nat) : ∀ k i, allF A s k i = 0 ∨ allF A s k i = 1
  | 0, _ => Or.inr rfl
  | k + 1, i => by
    unfold allF
    split
    · exact Or.inl rfl
    · exact allF_z A s k (i + 1)
def cOwn (A : MI) (s : Nat) : Nat → Nat → Int32 → Int32
  | 0, _, g => g
  | k + 1, i, g => cOwn A s k (i + 1) (if A 10 (32 * s + i) = 1 then g + 1 else g)
def cPen (A : MI) (s : Nat) : Nat → Nat → Int32 → Int32
  | 0, _, g => g
  | k + 1, i, g => cPen A s k (i + 1) (if A 17 (32 * s + i) = 0 then g else g + 1)
def endT (A : MI) (r : Nat) (t : Int32) : Int32 × MI := if A 10 r = 2 ∧ A 12 r ≤ t then (1, chgTo A r 3) else (0, A)
def enSole (A : MI) (r : Nat) (t : Int32) : Int32 × MI := if A 10 r = 3 ∨ (A 10 r = 2 ∧ ¬ t < A 12 r) then (1, chgTo A r 1) else (0, A)
def tkOver (A : MI) (r s : Nat) (ld sk t : Int32) : Int32 × MI := if A 10 r = 1 ∨ ¬ gr (A 12 r) (A 5 s + sk) + ld ≤ t then (0, A) else (1, chgTo (up (up (up A 21 r 1) 20 r (A 4 s)) 19 r (-1)) r 1)
theorem tkB_z (A : MI) (r : Nat) (c e q : Int32) : (tkBound A r c e q).1 = 0 ∨ (tkBound A r c e q).1 = 1 := by grind [tkBound]
theorem tkE_z (A : MI) (r : Nat) (c e k b q y : Int32) : (tkEnding A r c e k b q y).1 = 0 ∨ (tkEnding A r c e k b q y).1 = 1 := by grind [tkEnding]
theorem tkG_z (A : MI) (r : Nat) : (tkGiven A r).1 = 0 ∨ (tkGiven A r).1 = 1 := by unfold tkGiven; split <;> simp
theorem enS_z (A : MI) (r : Nat) (t : Int32) : (enSole A r t).1 = 0 ∨ (enSole A r t).1 = 1 := by unfold enSole; split <;> simp
theorem enO_z (A : MI) (r s : Nat) (ld sk t : Int32) : (tkOver A r s ld sk t).1 = 0 ∨ (tkOver A r s ld sk t).1 = 1 := by unfold tkOver; split <;> simp
def enAlone (A : MI) (r s : Nat) (ld sk t : Int32) : Int32 × MI := if A 21 r = 0 then tkOver A r s ld sk t else enSole A r t
def gvWay (A : MI) (r s : Nat) (k vd sn : Int32) : MI :=
  if A 0 s = 1 ∧ ¬ vd < A 3 s then settle A r (if k = 0 then 1 else 0)
  else if A 10 r = 4 ∧ sn = A 15 r ∧ ¬ k = 0 then settle A r 0 else A
theorem d_Srv_goAlone_0 : decode b_Srv_goAlone 0 = .ok (.aload_n 0, 1) := by decide +kernel
theorem d_Srv_goAlone_1 : decode b_Srv_goAlone 1 = .ok (.iconst 3, 1) := by decide +kernel
theorem d_Srv_goAlone_2 : decode b_Srv_goAlone 2 = .ok (.putfield 33, 3) := by decide +kernel
theorem d_Srv_goAlone_5 : decode b_Srv_goAlone 5 = .ok (.aload_n 0, 1) := by decide +kernel
theorem d_Srv_goAlone_6 : decode b_Srv_goAlone 6 = .ok (.iload_n 1, 1) := by decide +kernel
theorem d_Srv_goAlone_7 : decode b_Srv_goAlone 7 = .ok (.putfield 68, 3) := by decide +kernel
theorem d_Srv_goAlone_10 : decode b_Srv_goAlone 10 = .ok (.iconst 0, 1) := by decide +kernel
theorem d_Srv_goAlone_11 : decode b_Srv_goAlone 11 = .ok (.istore_n 2, 1) := by decide +kernel
theorem d_Srv_goAlone_12 : decode b_Srv_goAlone 12 = .ok (.iload_n 2, 1) := by decide +kernel
theorem d_Srv_goAlone_13 : decode b_Srv_goAlone 13 = .ok (.aload_n 0, 1) := by decide +kernel
theorem d_Srv_goAlone_14 : decode b_Srv_goAlone 14 = .ok (.getfield 26, 3) := by decide +kernel
theorem d_Srv_goAlone_17 : decode b_Srv_goAlone 17 = .ok (.arraylength, 1) := by decide +kernel
theorem d_Srv_goAlone_18 : decode b_Srv_goAlone 18 = .ok (.if_icmp .ge 36, 3) := by decide +kernel
theorem d_Srv_goAlone_21 : decode b_Srv_goAlone 21 = .ok (.aload_n 0, 1) := by decide +kernel
theorem d_Srv_goAlone_22 : decode b_Srv_goAlone 22 = .ok (.getfield 26, 3) := by decide +kernel
theorem d_Srv_goAlone_25 : decode b_Srv_goAlone 25 = .ok (.iload_n 2, 1) := by decide +kernel
theorem d_Srv_goAlone_26 : decode b_Srv_goAlone 26 = .ok (.aaload, 1) := by decide +kernel
theorem d_Srv_goAlone_27 : decode b_Srv_goAlone 27 = .ok (.aload_n 0, 1) := by decide +kernel
theorem d_Srv_goAlone_28 : decode b_Srv_goAlone 28 = .ok (.getfield 26, 3) := by decide +kernel
theorem d_Srv_goAlone_31 : decode b_Srv_goAlone 31 = .ok (.iload_n 2, 1) := by decide +kernel
theorem d_Srv_goAlone_32 : decode b_Srv_goAlone 32 = .ok (.aaload, 1) := by decide +kernel
theorem d_Srv_goAlone_33 : decode b_Srv_goAlone 33 = .ok (.getfield 71, 3) := by decide +kernel
theorem d_Srv_goAlone_36 : decode b_Srv_goAlone 36 = .ok (.iconst 1, 1) := by decide +kernel
theorem d_Srv_goAlone_37 : decode b_Srv_goAlone 37 = .ok (.if_icmp .ne 7, 3) := by decide +kernel
theorem d_Srv_goAlone_40 : decode b_Srv_goAlone 40 = .ok (.iconst 1, 1) := by decide +kernel
theorem d_Srv_goAlone_41 : decode b_Srv_goAlone 41 = .ok (.goto 4, 3) := by decide +kernel
theorem d_Srv_goAlone_44 : decode b_Srv_goAlone 44 = .ok (.iconst 0, 1) := by decide +kernel
theorem d_Srv_goAlone_45 : decode b_Srv_goAlone 45 = .ok (.putfield 62, 3) := by decide +kernel
theorem d_Srv_goAlone_48 : decode b_Srv_goAlone 48 = .ok (.iinc 2 1, 3) := by decide +kernel
theorem d_Srv_goAlone_51 : decode b_Srv_goAlone 51 = .ok (.goto (-39), 3) := by decide +kernel
theorem d_Srv_goAlone_54 : decode b_Srv_goAlone 54 = .ok (.aload_n 0, 1) := by decide +kernel
theorem d_Srv_goAlone_55 : decode b_Srv_goAlone 55 = .ok (.invokevirtual 65, 3) := by decide +kernel
theorem d_Srv_goAlone_58 : decode b_Srv_goAlone 58 = .ok (.return_, 1) := by decide +kernel
set_option maxRecDepth 100000 in
set_option maxHeartbeats 4000000 in
theorem c_Srv_goAlone (l : Launch) (K : Kx) (V : Vx) (A B C D : MI) (P : MP) (n : Nat) (cs : CS K V P n) (s : Nat) (hs : s < 2) (t : Int32) : Ct l K md_Srv_goAlone (2, 40) 0 0 [.ref (K.ad 1 s), .int t] V (bk4 A B C D) P (EQ V (none) (bk4 (wr (solR s n 0 (up (up A 0 s 3) 5 s t)) s) B C D) P) := by
  refine ct_of [(0, .ref (K.ad 1 s)), (1, .int t)] (by decide) (Nat.le_of_ble_eq_true rfl) (ca_r (ca_i ca_n)) rfl ?_
  intro X hl hX
  have h : OkX X b_Srv_goAlone R_Srv K := hX.1
  have hN : X.nL = 3 := hX.2.1
  have hsv := cs_sv cs hs
  have hL : ∀ (k i : Nat) (A1 : MI), i + k = n → solR s n 0 (up (up A 0 s 3) 5 s t) = solR s k i A1 → J X K V (bk4 A1 B C D) P 0 0 12 [(0, .ref (K.ad 1 s)), (1, .int t), (2, .int (nI i))] [] := by
    intro k
    induction k with
    | zero =>
      intro i A1 hi hv
      have hi2 : i = n := by omega
      subst hi2
      refine j_iload_n h d_Srv_goAlone_12 rfl ?_
      refine j_aload_n h d_Srv_goAlone_13 rfl ?_
      refine j_getR h d_Srv_goAlone_14 fl_Srv_26 rfl (by assumption) (cs_rp cs hs) ?_
      refine j_recl h cs hs d_Srv_goAlone_17 ?_
      refine j_ic_ge (tgt := 54) h d_Srv_goAlone_18 (by decide) (fun _ => ?_) (fun c => absurd (nI_le (Nat.le_refl _) (cs_n31 cs)) c)
      refine j_aload_n h d_Srv_goAlone_54 rfl ?_
      refine j_callV h (c_Srv_write _ _ _ _ _ _ _ _ _ hsv) d_Srv_goAlone_55 ml_Srv_65 mv_Srv_write (by assumption) ⟨rfl, rfl⟩ rfl rfl (Nat.le_of_ble_eq_true rfl) (hR_of hX (by decide) (by decide)) (hf_of hX (by decide) (by decide)) ?_
      rintro _ _ _ _ ⟨rfl, rfl, rfl, rfl⟩
      exact j_vret hX d_Srv_goAlone_58 rfl (Nat.le_refl _) (Nat.le_refl _) ⟨rfl, rfl, by rw [hv]; rfl, rfl⟩
    | succ k ih =>
      intro i A1 hi hv
      have hi2 : i < n := by omega
      have hr := cs_rv cs hs hi2
      refine j_iload_n h d_Srv_goAlone_12 rfl ?_
      refine j_aload_n h d_Srv_goAlone_13 rfl ?_
      refine j_getR h d_Srv_goAlone_14 fl_Srv_26 rfl (by assumption) (cs_rp cs hs) ?_
      refine j_recl h cs hs d_Srv_goAlone_17 ?_
      refine j_ic_ge (tgt := 54) h d_Srv_goAlone_18 (by decide) (fun c => absurd c (nI_ge hi2 (cs_n31 cs))) (fun _ => ?_)
      refine j_aload_n h d_Srv_goAlone_21 rfl ?_
      refine j_getR h d_Srv_goAlone_22 fl_Srv_26 rfl (by assumption) (cs_rp cs hs) ?_
      refine j_iload_n h d_Srv_goAlone_25 rfl ?_
      refine j_recs h cs hs hi2 d_Srv_goAlone_26 ?_
      refine j_aload_n h d_Srv_goAlone_27 rfl ?_
      refine j_getR h d_Srv_goAlone_28 fl_Srv_26 rfl (by assumption) (cs_rp cs hs) ?_
      refine j_iload_n h d_Srv_goAlone_31 rfl ?_
      refine j_recs h cs hs hi2 d_Srv_goAlone_32 ?_
      refine j_get0 h d_Srv_goAlone_33 fl_Srv_71 rfl (by assumption) ?_
      refine j_iconst (v := 1) h d_Srv_goAlone_36 (by decide) ?_
      refine j_ic_ne (tgt := 44) h d_Srv_goAlone_37 (by decide) (fun c1 => ?_) (fun c1 => ?_)
      · refine j_iconst (v := 0) h d_Srv_goAlone_44 (by decide) ?_
        refine j_putZ0 h d_Srv_goAlone_45 fw_Srv_62 rfl rfl (by assumption) (by first | exact Or.inl rfl | exact Or.inr rfl | assumption) ?_
        refine j_iinc (v := nI (i + 1)) h d_Srv_goAlone_48 rfl (nI_i i) (Nat.lt_of_lt_of_eq (m := 3) (by decide) hN.symm) ?_
        refine j_goto (tgt := 12) h d_Srv_goAlone_51 (by decide) ?_
        refine j_lv (lv' := [(0, .ref (K.ad 1 s)), (1, .int t), (2, .int (nI (i + 1)))]) (lvs rfl (lvs rfl (lvs rfl lvs0))) ?_
        exact ih (i + 1) _ (by omega) (hv.trans (by simp_all [solR, b01]))
      · refine j_iconst (v := 1) h d_Srv_goAlone_40 (by decide) ?_
        refine j_goto (tgt := 45) h d_Srv_goAlone_41 (by decide) ?_
        refine j_putZ0 h d_Srv_goAlone_45 fw_Srv_62 rfl rfl (by assumption) (by first | exact Or.inl rfl | exact Or.inr rfl | assumption) ?_
        refine j_iinc (v := nI (i + 1)) h d_Srv_goAlone_48 rfl (nI_i i) (Nat.lt_of_lt_of_eq (m := 3) (by decide) hN.symm) ?_
        refine j_goto (tgt := 12) h d_Srv_goAlone_51 (by decide) ?_
        refine j_lv (lv' := [(0, .ref (K.ad 1 s)), (1, .int t), (2, .int (nI (i + 1)))]) (lvs rfl (lvs rfl (lvs rfl lvs0))) ?_
        exact ih (i + 1) _ (by omega) (hv.trans (by simp_all [solR, b01]))
  refine j_aload_n h d_Srv_goAlone_0 rfl ?_
  refine j_iconst (v := 3) h d_Srv_goAlone_1 (by decide) ?_
  refine j_put0 h d_Srv_goAlone_2 fw_Srv_33 rfl rfl (by assumption) ?_
  refine j_aload_n h d_Srv_goAlone_5 rfl ?_
  refine j_iload_n h d_Srv_goAlone_6 rfl ?_
  refine j_put0 h d_Srv_goAlone_7 fw_Srv_68 rfl rfl (by assumption) ?_
  refine j_iconst (v := 0) h d_Srv_goAlone_10 (by decide) ?_
  refine j_istore_n h d_Srv_goAlone_11 (Nat.lt_of_lt_of_eq (m := 3) (by decide) hN.symm) ?_
  refine j_lv (lv' := [(0, .ref (K.ad 1 s)), (1, .int t), (2, .int (nI 0))]) (lvs rfl (lvs rfl (lvs rfl lvs0))) ?_
  exact hL n 0 _ (by omega) rfl
theorem d_Srv_rejoin_0 : decode b_Srv_rejoin 0 = .ok (.aload_n 0, 1) := by decide +kernel
theorem d_Srv_rejoin_1 : decode b_Srv_rejoin 1 = .ok (.iconst 2, 1) := by decide +kernel
theorem d_Srv_rejoin_2 : decode b_Srv_rejoin 2 = .ok (.putfield 33, 3) := by decide +kernel
theorem d_Srv_rejoin_5 : decode b_Srv_rejoin 5 = .ok (.iconst 0, 1) := by decide +kernel
theorem d_Srv_rejoin_6 : decode b_Srv_rejoin 6 = .ok (.istore_n 1, 1) := by decide +kernel
theorem d_Srv_rejoin_7 : decode b_Srv_rejoin 7 = .ok (.iload_n 1, 1) := by decide +kernel
theorem d_Srv_rejoin_8 : decode b_Srv_rejoin 8 = .ok (.aload_n 0, 1) := by decide +kernel
theorem d_Srv_rejoin_9 : decode b_Srv_rejoin 9 = .ok (.getfield 26, 3) := by decide +kernel
theorem d_Srv_rejoin_12 : decode b_Srv_rejoin 12 = .ok (.arraylength, 1) := by decide +kernel
theorem d_Srv_rejoin_13 : decode b_Srv_rejoin 13 = .ok (.if_icmp .ge 19, 3) := by decide +kernel
theorem d_Srv_rejoin_16 : decode b_Srv_rejoin 16 = .ok (.aload_n 0, 1) := by decide +kernel
theorem d_Srv_rejoin_17 : decode b_Srv_rejoin 17 = .ok (.getfield 26, 3) := by decide +kernel
theorem d_Srv_rejoin_20 : decode b_Srv_rejoin 20 = .ok (.iload_n 1, 1) := by decide +kernel
theorem d_Srv_rejoin_21 : decode b_Srv_rejoin 21 = .ok (.aaload, 1) := by decide +kernel
theorem d_Srv_rejoin_22 : decode b_Srv_rejoin 22 = .ok (.iconst 0, 1) := by decide +kernel
theorem d_Srv_rejoin_23 : decode b_Srv_rejoin 23 = .ok (.putfield 62, 3) := by decide +kernel
theorem d_Srv_rejoin_26 : decode b_Srv_rejoin 26 = .ok (.iinc 1 1, 3) := by decide +kernel
theorem d_Srv_rejoin_29 : decode b_Srv_rejoin 29 = .ok (.goto (-22), 3) := by decide +kernel
theorem d_Srv_rejoin_32 : decode b_Srv_rejoin 32 = .ok (.return_, 1) := by decide +kernel
set_option maxRecDepth 100000 in
set_option maxHeartbeats 4000000 in
theorem c_Srv_rejoin (l : Launch) (K : Kx) (V : Vx) (A B C D : MI) (P : MP) (n : Nat) (cs : CS K V P n) (s : Nat) (hs : s < 2) : Ct l K md_Srv_rejoin (0, 0) 0 0 [.ref (K.ad 1 s)] V (bk4 A B C D) P (EQ V (none) (bk4 (rejR s n 0 (up A 0 s 2)) B C D) P) := by
  refine ct_of [(0, .ref (K.ad 1 s))] (by decide) (Nat.le_of_ble_eq_true rfl) (ca_r ca_n) rfl ?_
  intro X hl hX
  have h : OkX X b_Srv_rejoin R_Srv K := hX.1
  have hN : X.nL = 2 := hX.2.1
  have hsv := cs_sv cs hs
  have hL : ∀ (k i : Nat) (A1 : MI), i + k = n → rejR s n 0 (up A 0 s 2) = rejR s k i A1 → J X K V (bk4 A1 B C D) P 0 0 7 [(0, .ref (K.ad 1 s)), (1, .int (nI i))] [] := by
    intro k
    induction k with
    | zero =>
      intro i A1 hi hv
      have hi2 : i = n := by omega
      subst hi2
      refine j_iload_n h d_Srv_rejoin_7 rfl ?_
      refine j_aload_n h d_Srv_rejoin_8 rfl ?_
      refine j_getR h d_Srv_rejoin_9 fl_Srv_26 rfl (by assumption) (cs_rp cs hs) ?_
      refine j_recl h cs hs d_Srv_rejoin_12 ?_
      refine j_ic_ge (tgt := 32) h d_Srv_rejoin_13 (by decide) (fun _ => ?_) (fun c => absurd (nI_le (Nat.le_refl _) (cs_n31 cs)) c)
      exact j_vret hX d_Srv_rejoin_32 rfl (Nat.le_refl _) (Nat.le_refl _) ⟨rfl, rfl, by rw [hv]; rfl, rfl⟩
    | succ k ih =>
      intro i A1 hi hv
      have hi2 : i < n := by omega
      have hr := cs_rv cs hs hi2
      refine j_iload_n h d_Srv_rejoin_7 rfl ?_
      refine j_aload_n h d_Srv_rejoin_8 rfl ?_
      refine j_getR h d_Srv_rejoin_9 fl_Srv_26 rfl (by assumption) (cs_rp cs hs) ?_
      refine j_recl h cs hs d_Srv_rejoin_12 ?_
      refine j_ic_ge (tgt := 32) h d_Srv_rejoin_13 (by decide) (fun c => absurd c (nI_ge hi2 (cs_n31 cs))) (fun _ => ?_)
      refine j_aload_n h d_Srv_rejoin_16 rfl ?_
      refine j_getR h d_Srv_rejoin_17 fl_Srv_26 rfl (by assumption) (cs_rp cs hs) ?_
      refine j_iload_n h d_Srv_rejoin_20 rfl ?_
      refine j_recs h cs hs hi2 d_Srv_rejoin_21 ?_
      refine j_iconst (v := 0) h d_Srv_rejoin_22 (by decide) ?_
      refine j_putZ0 h d_Srv_rejoin_23 fw_Srv_62 rfl rfl (by assumption) (by first | exact Or.inl rfl | exact Or.inr rfl | assumption) ?_
      refine j_iinc (v := nI (i + 1)) h d_Srv_rejoin_26 rfl (nI_i i) (Nat.lt_of_lt_of_eq (m := 2) (by decide) hN.symm) ?_
      refine j_goto (tgt := 7) h d_Srv_rejoin_29 (by decide) ?_
      refine j_lv (lv' := [(0, .ref (K.ad 1 s)), (1, .int (nI (i + 1)))]) (lvs rfl (lvs rfl lvs0)) ?_
      exact ih (i + 1) _ (by omega) hv
  refine j_aload_n h d_Srv_rejoin_0 rfl ?_
  refine j_iconst (v := 2) h d_Srv_rejoin_1 (by decide) ?_
  refine j_put0 h d_Srv_rejoin_2 fw_Srv_33 rfl rfl (by assumption) ?_
  refine j_iconst (v := 0) h d_Srv_rejoin_5 (by decide) ?_
  refine j_istore_n h d_Srv_rejoin_6 (Nat.lt_of_lt_of_eq (m := 2) (by decide) hN.symm) ?_
  refine j_lv (lv' := [(0, .ref (K.ad 1 s)), (1, .int (nI 0))]) (lvs rfl (lvs rfl lvs0)) ?_
  exact hL n 0 _ (by omega) rfl
theorem d_Srv_leasedTo_0 : decode b_Srv_leasedTo 0 = .ok (.iconst 0, 1) := by decide +kernel
theorem d_Srv_leasedTo_1 : decode b_Srv_leasedTo 1 = .ok (.istore_n 3, 1) := by decide +kernel
theorem d_Srv_leasedTo_2 : decode b_Srv_leasedTo 2 = .ok (.iload_n 3, 1) := by decide +kernel
theorem d_Srv_leasedTo_3 : decode b_Srv_leasedTo 3 = .ok (.aload_n 0, 1) := by decide +kernel
theorem d_Srv_leasedTo_4 : decode b_Srv_leasedTo 4 = .ok (.getfield 26, 3) := by decide +kernel
theorem d_Srv_leasedTo_7 : decode b_Srv_leasedTo 7 = .ok (.arraylength, 1) := by decide +kernel
theorem d_Srv_leasedTo_8 : decode b_Srv_leasedTo 8 = .ok (.if_icmp .ge 37, 3) := by decide +kernel
theorem d_Srv_leasedTo_11 : decode b_Srv_leasedTo 11 = .ok (.aload_n 0, 1) := by decide +kernel
theorem d_Srv_leasedTo_12 : decode b_Srv_leasedTo 12 = .ok (.getfield 26, 3) := by decide +kernel
theorem d_Srv_leasedTo_15 : decode b_Srv_leasedTo 15 = .ok (.iload_n 3, 1) := by decide +kernel
theorem d_Srv_leasedTo_16 : decode b_Srv_leasedTo 16 = .ok (.aaload, 1) := by decide +kernel
theorem d_Srv_leasedTo_17 : decode b_Srv_leasedTo 17 = .ok (.iload_n 1, 1) := by decide +kernel
theorem d_Srv_leasedTo_18 : decode b_Srv_leasedTo 18 = .ok (.invokevirtual 103, 3) := by decide +kernel
theorem d_Srv_leasedTo_21 : decode b_Srv_leasedTo 21 = .ok (.ifCond .eq 18, 3) := by decide +kernel
theorem d_Srv_leasedTo_24 : decode b_Srv_leasedTo 24 = .ok (.aload_n 0, 1) := by decide +kernel
theorem d_Srv_leasedTo_25 : decode b_Srv_leasedTo 25 = .ok (.getfield 26, 3) := by decide +kernel
theorem d_Srv_leasedTo_28 : decode b_Srv_leasedTo 28 = .ok (.iload_n 3, 1) := by decide +kernel
theorem d_Srv_leasedTo_29 : decode b_Srv_leasedTo 29 = .ok (.aaload, 1) := by decide +kernel
theorem d_Srv_leasedTo_30 : decode b_Srv_leasedTo 30 = .ok (.getfield 107, 3) := by decide +kernel
theorem d_Srv_leasedTo_33 : decode b_Srv_leasedTo 33 = .ok (.iload_n 2, 1) := by decide +kernel
theorem d_Srv_leasedTo_34 : decode b_Srv_leasedTo 34 = .ok (.if_icmp .le 5, 3) := by decide +kernel
theorem d_Srv_leasedTo_37 : decode b_Srv_leasedTo 37 = .ok (.iload_n 3, 1) := by decide +kernel
theorem d_Srv_leasedTo_38 : decode b_Srv_leasedTo 38 = .ok (.ireturn, 1) := by decide +kernel
theorem d_Srv_leasedTo_39 : decode b_Srv_leasedTo 39 = .ok (.iinc 3 1, 3) := by decide +kernel
theorem d_Srv_leasedTo_42 : decode b_Srv_leasedTo 42 = .ok (.goto (-40), 3) := by decide +kernel
theorem d_Srv_leasedTo_45 : decode b_Srv_leasedTo 45 = .ok (.iconst (-1), 1) := by decide +kernel
theorem d_Srv_leasedTo_46 : decode b_Srv_leasedTo 46 = .ok (.ireturn, 1) := by decide +kernel
set_option maxRecDepth 100000 in
set_option maxHeartbeats 4000000 in
theorem c_Srv_leasedTo (l : Launch) (K : Kx) (V : Vx) (A B C D : MI) (P : MP) (n : Nat) (cs : CS K V P n) (s : Nat) (hs : s < 2) (c t : Int32) : Ct l K md_Srv_leasedTo (1, 21) 0 0 [.ref (K.ad 1 s), .int c, .int t] V (bk4 A B C D) P (EQ V (some (.int (lsdTo A s c t n 0))) (bk4 A B C D) P) := by
  refine ct_of [(0, .ref (K.ad 1 s)), (1, .int c), (2, .int t)] (by decide) (Nat.le_of_ble_eq_true rfl) (ca_r (ca_i (ca_i ca_n))) rfl ?_
  intro X hl hX
  have h : OkX X b_Srv_leasedTo R_Srv K := hX.1
  have hN : X.nL = 4 := hX.2.1
  have hsv := cs_sv cs hs
  have hL : ∀ (k i : Nat) , i + k = n → lsdTo A s c t n 0 = lsdTo A s c t k i → J X K V (bk4 A B C D) P 0 0 2 [(0, .ref (K.ad 1 s)), (1, .int c), (2, .int t), (3, .int (nI i))] [] := by
    intro k
    induction k with
    | zero =>
      intro i  hi hv
      have hi2 : i = n := by omega
      subst hi2
      refine j_iload_n h d_Srv_leasedTo_2 rfl ?_
      refine j_aload_n h d_Srv_leasedTo_3 rfl ?_
      refine j_getR h d_Srv_leasedTo_4 fl_Srv_26 rfl (by assumption) (cs_rp cs hs) ?_
      refine j_recl h cs hs d_Srv_leasedTo_7 ?_
      refine j_ic_ge (tgt := 45) h d_Srv_leasedTo_8 (by decide) (fun _ => ?_) (fun c => absurd (nI_le (Nat.le_refl _) (cs_n31 cs)) c)
      refine j_iconst (v := -1) h d_Srv_leasedTo_45 (by decide) ?_
      exact j_iret hX d_Srv_leasedTo_46 rfl (Nat.le_refl _) (Nat.le_refl _) ⟨rfl, by rw [hv]; first | rfl | (simp only [lsdTo]; rw [if_pos (by simp only [b01_0] at *; grind)]), rfl, rfl⟩
    | succ k ih =>
      intro i  hi hv
      have hi2 : i < n := by omega
      have hr := cs_rv cs hs hi2
      refine j_iload_n h d_Srv_leasedTo_2 rfl ?_
      refine j_aload_n h d_Srv_leasedTo_3 rfl ?_
      refine j_getR h d_Srv_leasedTo_4 fl_Srv_26 rfl (by assumption) (cs_rp cs hs) ?_
      refine j_recl h cs hs d_Srv_leasedTo_7 ?_
      refine j_ic_ge (tgt := 45) h d_Srv_leasedTo_8 (by decide) (fun c => absurd c (nI_ge hi2 (cs_n31 cs))) (fun _ => ?_)
      refine j_aload_n h d_Srv_leasedTo_11 rfl ?_
      refine j_getR h d_Srv_leasedTo_12 fl_Srv_26 rfl (by assumption) (cs_rp cs hs) ?_
      refine j_iload_n h d_Srv_leasedTo_15 rfl ?_
      refine j_recs h cs hs hi2 d_Srv_leasedTo_16 ?_
      refine j_iload_n h d_Srv_leasedTo_17 rfl ?_
      refine j_callV h (c_Rec_isBoundTo _ _ _ _ _ _ _ _ _ hr _) d_Srv_leasedTo_18 ml_Srv_103 mv_Rec_isBoundTo (by assumption) ⟨rfl, rfl⟩ rfl rfl (Nat.le_of_ble_eq_true rfl) (hR_of hX (by decide) (by decide)) (hf_of hX (by decide) (by decide)) ?_
      rintro _ _ _ _ ⟨rfl, rfl, rfl, rfl⟩
      refine j_if_eq (tgt := 39) h d_Srv_leasedTo_21 (by decide) (fun c1 => ?_) (fun c1 => ?_)
      · refine j_iinc (v := nI (i + 1)) h d_Srv_leasedTo_39 rfl (nI_i i) (Nat.lt_of_lt_of_eq (m := 4) (by decide) hN.symm) ?_
        refine j_goto (tgt := 2) h d_Srv_leasedTo_42 (by decide) ?_
        refine j_lv (lv' := [(0, .ref (K.ad 1 s)), (1, .int c), (2, .int t), (3, .int (nI (i + 1)))]) (lvs rfl (lvs rfl (lvs rfl (lvs rfl lvs0)))) ?_
        exact ih (i + 1) (by omega) (hv.trans (by simp only [lsdTo]; rw [if_neg (by simp only [b01_0, b01_1] at *; grind)]))
      · refine j_aload_n h d_Srv_leasedTo_24 rfl ?_
        refine j_getR h d_Srv_leasedTo_25 fl_Srv_26 rfl (by assumption) (cs_rp cs hs) ?_
        refine j_iload_n h d_Srv_leasedTo_28 rfl ?_
        refine j_recs h cs hs hi2 d_Srv_leasedTo_29 ?_
        refine j_get0 h d_Srv_leasedTo_30 fl_Srv_107 rfl (by assumption) ?_
        refine j_iload_n h d_Srv_leasedTo_33 rfl ?_
        refine j_ic_le (tgt := 39) h d_Srv_leasedTo_34 (by decide) (fun c2 => ?_) (fun c2 => ?_)
        · refine j_iinc (v := nI (i + 1)) h d_Srv_leasedTo_39 rfl (nI_i i) (Nat.lt_of_lt_of_eq (m := 4) (by decide) hN.symm) ?_
          refine j_goto (tgt := 2) h d_Srv_leasedTo_42 (by decide) ?_
          refine j_lv (lv' := [(0, .ref (K.ad 1 s)), (1, .int c), (2, .int t), (3, .int (nI (i + 1)))]) (lvs rfl (lvs rfl (lvs rfl (lvs rfl lvs0)))) ?_
          exact ih (i + 1) (by omega) (hv.trans (by simp only [lsdTo]; rw [if_neg (by simp only [b01_0, b01_1] at *; grind)]))
        · refine j_iload_n h d_Srv_leasedTo_37 rfl ?_
          exact j_iret hX d_Srv_leasedTo_38 rfl (Nat.le_refl _) (Nat.le_refl _) ⟨rfl, by rw [hv]; first | rfl | (simp only [lsdTo]; rw [if_pos (by simp only [b01_0] at *; grind)]), rfl, rfl⟩
  refine j_iconst (v := 0) h d_Srv_leasedTo_0 (by decide) ?_
  refine j_istore_n h d_Srv_leasedTo_1 (Nat.lt_of_lt_of_eq (m := 4) (by decide) hN.symm) ?_
  refine j_lv (lv' := [(0, .ref (K.ad 1 s)), (1, .int c), (2, .int t), (3, .int (nI 0))]) (lvs rfl (lvs rfl (lvs rfl (lvs rfl lvs0)))) ?_
  exact hL n 0 (by omega) rfl
theorem d_Srv_allFresh_0 : decode b_Srv_allFresh 0 = .ok (.iconst 0, 1) := by decide +kernel
theorem d_Srv_allFresh_1 : decode b_Srv_allFresh 1 = .ok (.istore_n 1, 1) := by decide +kernel
theorem d_Srv_allFresh_2 : decode b_Srv_allFresh 2 = .ok (.iload_n 1, 1) := by decide +kernel
theorem d_Srv_allFresh_3 : decode b_Srv_allFresh 3 = .ok (.aload_n 0, 1) := by decide +kernel
theorem d_Srv_allFresh_4 : decode b_Srv_allFresh 4 = .ok (.getfield 26, 3) := by decide +kernel
theorem d_Srv_allFresh_7 : decode b_Srv_allFresh 7 = .ok (.arraylength, 1) := by decide +kernel
theorem d_Srv_allFresh_8 : decode b_Srv_allFresh 8 = .ok (.if_icmp .ge 23, 3) := by decide +kernel
theorem d_Srv_allFresh_11 : decode b_Srv_allFresh 11 = .ok (.aload_n 0, 1) := by decide +kernel
theorem d_Srv_allFresh_12 : decode b_Srv_allFresh 12 = .ok (.getfield 26, 3) := by decide +kernel
theorem d_Srv_allFresh_15 : decode b_Srv_allFresh 15 = .ok (.iload_n 1, 1) := by decide +kernel
theorem d_Srv_allFresh_16 : decode b_Srv_allFresh 16 = .ok (.aaload, 1) := by decide +kernel
theorem d_Srv_allFresh_17 : decode b_Srv_allFresh 17 = .ok (.getfield 58, 3) := by decide +kernel
theorem d_Srv_allFresh_20 : decode b_Srv_allFresh 20 = .ok (.ifCond .ne 5, 3) := by decide +kernel
theorem d_Srv_allFresh_23 : decode b_Srv_allFresh 23 = .ok (.iconst 0, 1) := by decide +kernel
theorem d_Srv_allFresh_24 : decode b_Srv_allFresh 24 = .ok (.ireturn, 1) := by decide +kernel
theorem d_Srv_allFresh_25 : decode b_Srv_allFresh 25 = .ok (.iinc 1 1, 3) := by decide +kernel
theorem d_Srv_allFresh_28 : decode b_Srv_allFresh 28 = .ok (.goto (-26), 3) := by decide +kernel
theorem d_Srv_allFresh_31 : decode b_Srv_allFresh 31 = .ok (.iconst 1, 1) := by decide +kernel
theorem d_Srv_allFresh_32 : decode b_Srv_allFresh 32 = .ok (.ireturn, 1) := by decide +kernel
set_option maxRecDepth 100000 in
set_option maxHeartbeats 4000000 in
theorem c_Srv_allFresh (l : Launch) (K : Kx) (V : Vx) (A B C D : MI) (P : MP) (n : Nat) (cs : CS K V P n) (s : Nat) (hs : s < 2) : Ct l K md_Srv_allFresh (0, 0) 0 0 [.ref (K.ad 1 s)] V (bk4 A B C D) P (EQ V (some (.int (allF A s n 0))) (bk4 A B C D) P) := by
  refine ct_of [(0, .ref (K.ad 1 s))] (by decide) (Nat.le_of_ble_eq_true rfl) (ca_r ca_n) rfl ?_
  intro X hl hX
  have h : OkX X b_Srv_allFresh R_Srv K := hX.1
  have hN : X.nL = 2 := hX.2.1
  have hsv := cs_sv cs hs
  have hL : ∀ (k i : Nat) , i + k = n → allF A s n 0 = allF A s k i → J X K V (bk4 A B C D) P 0 0 2 [(0, .ref (K.ad 1 s)), (1, .int (nI i))] [] := by
    intro k
    induction k with
    | zero =>
      intro i  hi hv
      have hi2 : i = n := by omega
      subst hi2
      refine j_iload_n h d_Srv_allFresh_2 rfl ?_
      refine j_aload_n h d_Srv_allFresh_3 rfl ?_
      refine j_getR h d_Srv_allFresh_4 fl_Srv_26 rfl (by assumption) (cs_rp cs hs) ?_
      refine j_recl h cs hs d_Srv_allFresh_7 ?_
      refine j_ic_ge (tgt := 31) h d_Srv_allFresh_8 (by decide) (fun _ => ?_) (fun c => absurd (nI_le (Nat.le_refl _) (cs_n31 cs)) c)
      refine j_iconst (v := 1) h d_Srv_allFresh_31 (by decide) ?_
      exact j_zret hX d_Srv_allFresh_32 rfl (by first | exact Or.inl rfl | exact Or.inr rfl | exact b01_z _ | assumption | exact tkB_z _ _ _ _ _ | exact tkE_z _ _ _ _ _ _ _ _ | exact tkG_z _ _ | exact enS_z _ _ _ | exact enO_z _ _ _ _ _ _) (Nat.le_refl _) (Nat.le_refl _) ⟨rfl, by rw [hv]; simp_all [allF], rfl, rfl⟩
    | succ k ih =>
      intro i  hi hv
      have hi2 : i < n := by omega
      have hr := cs_rv cs hs hi2
      refine j_iload_n h d_Srv_allFresh_2 rfl ?_
      refine j_aload_n h d_Srv_allFresh_3 rfl ?_
      refine j_getR h d_Srv_allFresh_4 fl_Srv_26 rfl (by assumption) (cs_rp cs hs) ?_
      refine j_recl h cs hs d_Srv_allFresh_7 ?_
      refine j_ic_ge (tgt := 31) h d_Srv_allFresh_8 (by decide) (fun c => absurd c (nI_ge hi2 (cs_n31 cs))) (fun _ => ?_)
      refine j_aload_n h d_Srv_allFresh_11 rfl ?_
      refine j_getR h d_Srv_allFresh_12 fl_Srv_26 rfl (by assumption) (cs_rp cs hs) ?_
      refine j_iload_n h d_Srv_allFresh_15 rfl ?_
      refine j_recs h cs hs hi2 d_Srv_allFresh_16 ?_
      refine j_get0 h d_Srv_allFresh_17 fl_Srv_58 rfl (by assumption) ?_
      refine j_if_ne (tgt := 25) h d_Srv_allFresh_20 (by decide) (fun c1 => ?_) (fun c1 => ?_)
      · refine j_iinc (v := nI (i + 1)) h d_Srv_allFresh_25 rfl (nI_i i) (Nat.lt_of_lt_of_eq (m := 2) (by decide) hN.symm) ?_
        refine j_goto (tgt := 2) h d_Srv_allFresh_28 (by decide) ?_
        refine j_lv (lv' := [(0, .ref (K.ad 1 s)), (1, .int (nI (i + 1)))]) (lvs rfl (lvs rfl lvs0)) ?_
        exact ih (i + 1) (by omega) (hv.trans (by simp only [allF]; rw [if_neg (by assumption)]))
      · refine j_iconst (v := 0) h d_Srv_allFresh_23 (by decide) ?_
        exact j_zret hX d_Srv_allFresh_24 rfl (by first | exact Or.inl rfl | exact Or.inr rfl | exact b01_z _ | assumption | exact tkB_z _ _ _ _ _ | exact tkE_z _ _ _ _ _ _ _ _ | exact tkG_z _ _ | exact enS_z _ _ _ | exact enO_z _ _ _ _ _ _) (Nat.le_refl _) (Nat.le_refl _) ⟨rfl, by rw [hv]; simp_all [allF], rfl, rfl⟩
  refine j_iconst (v := 0) h d_Srv_allFresh_0 (by decide) ?_
  refine j_istore_n h d_Srv_allFresh_1 (Nat.lt_of_lt_of_eq (m := 2) (by decide) hN.symm) ?_
  refine j_lv (lv' := [(0, .ref (K.ad 1 s)), (1, .int (nI 0))]) (lvs rfl (lvs rfl lvs0)) ?_
  exact hL n 0 (by omega) rfl
theorem d_Srv_countOwn_0 : decode b_Srv_countOwn 0 = .ok (.iconst 0, 1) := by decide +kernel
theorem d_Srv_countOwn_1 : decode b_Srv_countOwn 1 = .ok (.istore_n 1, 1) := by decide +kernel
theorem d_Srv_countOwn_2 : decode b_Srv_countOwn 2 = .ok (.iconst 0, 1) := by decide +kernel
theorem d_Srv_countOwn_3 : decode b_Srv_countOwn 3 = .ok (.istore_n 2, 1) := by decide +kernel
theorem d_Srv_countOwn_4 : decode b_Srv_countOwn 4 = .ok (.iload_n 2, 1) := by decide +kernel
theorem d_Srv_countOwn_5 : decode b_Srv_countOwn 5 = .ok (.aload_n 0, 1) := by decide +kernel
theorem d_Srv_countOwn_6 : decode b_Srv_countOwn 6 = .ok (.getfield 26, 3) := by decide +kernel
theorem d_Srv_countOwn_9 : decode b_Srv_countOwn 9 = .ok (.arraylength, 1) := by decide +kernel
theorem d_Srv_countOwn_10 : decode b_Srv_countOwn 10 = .ok (.if_icmp .ge 25, 3) := by decide +kernel
theorem d_Srv_countOwn_13 : decode b_Srv_countOwn 13 = .ok (.aload_n 0, 1) := by decide +kernel
theorem d_Srv_countOwn_14 : decode b_Srv_countOwn 14 = .ok (.getfield 26, 3) := by decide +kernel
theorem d_Srv_countOwn_17 : decode b_Srv_countOwn 17 = .ok (.iload_n 2, 1) := by decide +kernel
theorem d_Srv_countOwn_18 : decode b_Srv_countOwn 18 = .ok (.aaload, 1) := by decide +kernel
theorem d_Srv_countOwn_19 : decode b_Srv_countOwn 19 = .ok (.getfield 71, 3) := by decide +kernel
theorem d_Srv_countOwn_22 : decode b_Srv_countOwn 22 = .ok (.iconst 1, 1) := by decide +kernel
theorem d_Srv_countOwn_23 : decode b_Srv_countOwn 23 = .ok (.if_icmp .ne 6, 3) := by decide +kernel
theorem d_Srv_countOwn_26 : decode b_Srv_countOwn 26 = .ok (.iinc 1 1, 3) := by decide +kernel
theorem d_Srv_countOwn_29 : decode b_Srv_countOwn 29 = .ok (.iinc 2 1, 3) := by decide +kernel
theorem d_Srv_countOwn_32 : decode b_Srv_countOwn 32 = .ok (.goto (-28), 3) := by decide +kernel
theorem d_Srv_countOwn_35 : decode b_Srv_countOwn 35 = .ok (.iload_n 1, 1) := by decide +kernel
theorem d_Srv_countOwn_36 : decode b_Srv_countOwn 36 = .ok (.ireturn, 1) := by decide +kernel
set_option maxRecDepth 100000 in
set_option maxHeartbeats 4000000 in
theorem c_Srv_countOwn (l : Launch) (K : Kx) (V : Vx) (A B C D : MI) (P : MP) (n : Nat) (cs : CS K V P n) (s : Nat) (hs : s < 2) : Ct l K md_Srv_countOwn (0, 0) 0 0 [.ref (K.ad 1 s)] V (bk4 A B C D) P (EQ V (some (.int (cOwn A s n 0 0))) (bk4 A B C D) P) := by
  refine ct_of [(0, .ref (K.ad 1 s))] (by decide) (Nat.le_of_ble_eq_true rfl) (ca_r ca_n) rfl ?_
  intro X hl hX
  have h : OkX X b_Srv_countOwn R_Srv K := hX.1
  have hN : X.nL = 3 := hX.2.1
  have hsv := cs_sv cs hs
  have hL : ∀ (k i : Nat) (g : Int32), i + k = n → cOwn A s n 0 0 = cOwn A s k i g → J X K V (bk4 A B C D) P 0 0 4 [(0, .ref (K.ad 1 s)), (1, .int g), (2, .int (nI i))] [] := by
    intro k
    induction k with
    | zero =>
      intro i g hi hv
      have hi2 : i = n := by omega
      subst hi2
      refine j_iload_n h d_Srv_countOwn_4 rfl ?_
      refine j_aload_n h d_Srv_countOwn_5 rfl ?_
      refine j_getR h d_Srv_countOwn_6 fl_Srv_26 rfl (by assumption) (cs_rp cs hs) ?_
      refine j_recl h cs hs d_Srv_countOwn_9 ?_
      refine j_ic_ge (tgt := 35) h d_Srv_countOwn_10 (by decide) (fun _ => ?_) (fun c => absurd (nI_le (Nat.le_refl _) (cs_n31 cs)) c)
      refine j_iload_n h d_Srv_countOwn_35 rfl ?_
      exact j_iret hX d_Srv_countOwn_36 rfl (Nat.le_refl _) (Nat.le_refl _) ⟨rfl, by rw [hv]; rfl, rfl, rfl⟩
    | succ k ih =>
      intro i g hi hv
      have hi2 : i < n := by omega
      have hr := cs_rv cs hs hi2
      refine j_iload_n h d_Srv_countOwn_4 rfl ?_
      refine j_aload_n h d_Srv_countOwn_5 rfl ?_
      refine j_getR h d_Srv_countOwn_6 fl_Srv_26 rfl (by assumption) (cs_rp cs hs) ?_
      refine j_recl h cs hs d_Srv_countOwn_9 ?_
      refine j_ic_ge (tgt := 35) h d_Srv_countOwn_10 (by decide) (fun c => absurd c (nI_ge hi2 (cs_n31 cs))) (fun _ => ?_)
      refine j_aload_n h d_Srv_countOwn_13 rfl ?_
      refine j_getR h d_Srv_countOwn_14 fl_Srv_26 rfl (by assumption) (cs_rp cs hs) ?_
      refine j_iload_n h d_Srv_countOwn_17 rfl ?_
      refine j_recs h cs hs hi2 d_Srv_countOwn_18 ?_
      refine j_get0 h d_Srv_countOwn_19 fl_Srv_71 rfl (by assumption) ?_
      refine j_iconst (v := 1) h d_Srv_countOwn_22 (by decide) ?_
      refine j_ic_ne (tgt := 29) h d_Srv_countOwn_23 (by decide) (fun c1 => ?_) (fun c1 => ?_)
      · refine j_iinc (v := nI (i + 1)) h d_Srv_countOwn_29 rfl (nI_i i) (Nat.lt_of_lt_of_eq (m := 3) (by decide) hN.symm) ?_
        refine j_goto (tgt := 4) h d_Srv_countOwn_32 (by decide) ?_
        refine j_lv (lv' := [(0, .ref (K.ad 1 s)), (1, .int _), (2, .int (nI (i + 1)))]) (lvs rfl (lvs rfl (lvs rfl lvs0))) ?_
        exact ih (i + 1) _ (by omega) (hv.trans (by simp_all [cOwn]))
      · refine j_iinc (v := g + 1) h d_Srv_countOwn_26 rfl rfl (Nat.lt_of_lt_of_eq (m := 3) (by decide) hN.symm) ?_
        refine j_iinc (v := nI (i + 1)) h d_Srv_countOwn_29 rfl (nI_i i) (Nat.lt_of_lt_of_eq (m := 3) (by decide) hN.symm) ?_
        refine j_goto (tgt := 4) h d_Srv_countOwn_32 (by decide) ?_
        refine j_lv (lv' := [(0, .ref (K.ad 1 s)), (1, .int _), (2, .int (nI (i + 1)))]) (lvs rfl (lvs rfl (lvs rfl lvs0))) ?_
        exact ih (i + 1) _ (by omega) (hv.trans (by simp_all [cOwn]))
  refine j_iconst (v := 0) h d_Srv_countOwn_0 (by decide) ?_
  refine j_istore_n h d_Srv_countOwn_1 (Nat.lt_of_lt_of_eq (m := 3) (by decide) hN.symm) ?_
  refine j_iconst (v := 0) h d_Srv_countOwn_2 (by decide) ?_
  refine j_istore_n h d_Srv_countOwn_3 (Nat.lt_of_lt_of_eq (m := 3) (by decide) hN.symm) ?_
  refine j_lv (lv' := [(0, .ref (K.ad 1 s)), (1, .int 0), (2, .int (nI 0))]) (lvs rfl (lvs rfl (lvs rfl lvs0))) ?_
  exact hL n 0 0 (by omega) rfl
theorem d_Srv_countPending_0 : decode b_Srv_countPending 0 = .ok (.iconst 0, 1) := by decide +kernel
theorem d_Srv_countPending_1 : decode b_Srv_countPending 1 = .ok (.istore_n 1, 1) := by decide +kernel
theorem d_Srv_countPending_2 : decode b_Srv_countPending 2 = .ok (.iconst 0, 1) := by decide +kernel
theorem d_Srv_countPending_3 : decode b_Srv_countPending 3 = .ok (.istore_n 2, 1) := by decide +kernel
theorem d_Srv_countPending_4 : decode b_Srv_countPending 4 = .ok (.iload_n 2, 1) := by decide +kernel
theorem d_Srv_countPending_5 : decode b_Srv_countPending 5 = .ok (.aload_n 0, 1) := by decide +kernel
theorem d_Srv_countPending_6 : decode b_Srv_countPending 6 = .ok (.getfield 26, 3) := by decide +kernel
theorem d_Srv_countPending_9 : decode b_Srv_countPending 9 = .ok (.arraylength, 1) := by decide +kernel
theorem d_Srv_countPending_10 : decode b_Srv_countPending 10 = .ok (.if_icmp .ge 24, 3) := by decide +kernel
theorem d_Srv_countPending_13 : decode b_Srv_countPending 13 = .ok (.aload_n 0, 1) := by decide +kernel
theorem d_Srv_countPending_14 : decode b_Srv_countPending 14 = .ok (.getfield 26, 3) := by decide +kernel
theorem d_Srv_countPending_17 : decode b_Srv_countPending 17 = .ok (.iload_n 2, 1) := by decide +kernel
theorem d_Srv_countPending_18 : decode b_Srv_countPending 18 = .ok (.aaload, 1) := by decide +kernel
theorem d_Srv_countPending_19 : decode b_Srv_countPending 19 = .ok (.getfield 225, 3) := by decide +kernel
theorem d_Srv_countPending_22 : decode b_Srv_countPending 22 = .ok (.ifCond .eq 6, 3) := by decide +kernel
theorem d_Srv_countPending_25 : decode b_Srv_countPending 25 = .ok (.iinc 1 1, 3) := by decide +kernel
theorem d_Srv_countPending_28 : decode b_Srv_countPending 28 = .ok (.iinc 2 1, 3) := by decide +kernel
theorem d_Srv_countPending_31 : decode b_Srv_countPending 31 = .ok (.goto (-27), 3) := by decide +kernel
theorem d_Srv_countPending_34 : decode b_Srv_countPending 34 = .ok (.iload_n 1, 1) := by decide +kernel
theorem d_Srv_countPending_35 : decode b_Srv_countPending 35 = .ok (.ireturn, 1) := by decide +kernel
set_option maxRecDepth 100000 in
set_option maxHeartbeats 4000000 in
theorem c_Srv_countPending (l : Launch) (K : Kx) (V : Vx) (A B C D : MI) (P : MP) (n : Nat) (cs : CS K V P n) (s : Nat) (hs : s < 2) : Ct l K md_Srv_countPending (0, 0) 0 0 [.ref (K.ad 1 s)] V (bk4 A B C D) P (EQ V (some (.int (cPen A s n 0 0))) (bk4 A B C D) P) := by
  refine ct_of [(0, .ref (K.ad 1 s))] (by decide) (Nat.le_of_ble_eq_true rfl) (ca_r ca_n) rfl ?_
  intro X hl hX
  have h : OkX X b_Srv_countPending R_Srv K := hX.1
  have hN : X.nL = 3 := hX.2.1
  have hsv := cs_sv cs hs
  have hL : ∀ (k i : Nat) (g : Int32), i + k = n → cPen A s n 0 0 = cPen A s k i g → J X K V (bk4 A B C D) P 0 0 4 [(0, .ref (K.ad 1 s)), (1, .int g), (2, .int (nI i))] [] := by
    intro k
    induction k with
    | zero =>
      intro i g hi hv
      have hi2 : i = n := by omega
      subst hi2
      refine j_iload_n h d_Srv_countPending_4 rfl ?_
      refine j_aload_n h d_Srv_countPending_5 rfl ?_
      refine j_getR h d_Srv_countPending_6 fl_Srv_26 rfl (by assumption) (cs_rp cs hs) ?_
      refine j_recl h cs hs d_Srv_countPending_9 ?_
      refine j_ic_ge (tgt := 34) h d_Srv_countPending_10 (by decide) (fun _ => ?_) (fun c => absurd (nI_le (Nat.le_refl _) (cs_n31 cs)) c)
      refine j_iload_n h d_Srv_countPending_34 rfl ?_
      exact j_iret hX d_Srv_countPending_35 rfl (Nat.le_refl _) (Nat.le_refl _) ⟨rfl, by rw [hv]; rfl, rfl, rfl⟩
    | succ k ih =>
      intro i g hi hv
      have hi2 : i < n := by omega
      have hr := cs_rv cs hs hi2
      refine j_iload_n h d_Srv_countPending_4 rfl ?_
      refine j_aload_n h d_Srv_countPending_5 rfl ?_
      refine j_getR h d_Srv_countPending_6 fl_Srv_26 rfl (by assumption) (cs_rp cs hs) ?_
      refine j_recl h cs hs d_Srv_countPending_9 ?_
      refine j_ic_ge (tgt := 34) h d_Srv_countPending_10 (by decide) (fun c => absurd c (nI_ge hi2 (cs_n31 cs))) (fun _ => ?_)
      refine j_aload_n h d_Srv_countPending_13 rfl ?_
      refine j_getR h d_Srv_countPending_14 fl_Srv_26 rfl (by assumption) (cs_rp cs hs) ?_
      refine j_iload_n h d_Srv_countPending_17 rfl ?_
      refine j_recs h cs hs hi2 d_Srv_countPending_18 ?_
      refine j_get0 h d_Srv_countPending_19 fl_Srv_225 rfl (by assumption) ?_
      refine j_if_eq (tgt := 28) h d_Srv_countPending_22 (by decide) (fun c1 => ?_) (fun c1 => ?_)
      · refine j_iinc (v := nI (i + 1)) h d_Srv_countPending_28 rfl (nI_i i) (Nat.lt_of_lt_of_eq (m := 3) (by decide) hN.symm) ?_
        refine j_goto (tgt := 4) h d_Srv_countPending_31 (by decide) ?_
        refine j_lv (lv' := [(0, .ref (K.ad 1 s)), (1, .int _), (2, .int (nI (i + 1)))]) (lvs rfl (lvs rfl (lvs rfl lvs0))) ?_
        exact ih (i + 1) _ (by omega) (hv.trans (by simp_all [cPen]))
      · refine j_iinc (v := g + 1) h d_Srv_countPending_25 rfl rfl (Nat.lt_of_lt_of_eq (m := 3) (by decide) hN.symm) ?_
        refine j_iinc (v := nI (i + 1)) h d_Srv_countPending_28 rfl (nI_i i) (Nat.lt_of_lt_of_eq (m := 3) (by decide) hN.symm) ?_
        refine j_goto (tgt := 4) h d_Srv_countPending_31 (by decide) ?_
        refine j_lv (lv' := [(0, .ref (K.ad 1 s)), (1, .int _), (2, .int (nI (i + 1)))]) (lvs rfl (lvs rfl (lvs rfl lvs0))) ?_
        exact ih (i + 1) _ (by omega) (hv.trans (by simp_all [cPen]))
  refine j_iconst (v := 0) h d_Srv_countPending_0 (by decide) ?_
  refine j_istore_n h d_Srv_countPending_1 (Nat.lt_of_lt_of_eq (m := 3) (by decide) hN.symm) ?_
  refine j_iconst (v := 0) h d_Srv_countPending_2 (by decide) ?_
  refine j_istore_n h d_Srv_countPending_3 (Nat.lt_of_lt_of_eq (m := 3) (by decide) hN.symm) ?_
  refine j_lv (lv' := [(0, .ref (K.ad 1 s)), (1, .int 0), (2, .int (nI 0))]) (lvs rfl (lvs rfl (lvs rfl lvs0))) ?_
  exact hL n 0 0 (by omega) rfl
theorem d_Srv_endTogether_0 : decode b_Srv_endTogether 0 = .ok (.aload_n 1, 1) := by decide +kernel
theorem d_Srv_endTogether_1 : decode b_Srv_endTogether 1 = .ok (.getfield 71, 3) := by decide +kernel
theorem d_Srv_endTogether_4 : decode b_Srv_endTogether 4 = .ok (.iconst 2, 1) := by decide +kernel
theorem d_Srv_endTogether_5 : decode b_Srv_endTogether 5 = .ok (.if_icmp .ne 11, 3) := by decide +kernel
theorem d_Srv_endTogether_8 : decode b_Srv_endTogether 8 = .ok (.aload_n 1, 1) := by decide +kernel
theorem d_Srv_endTogether_9 : decode b_Srv_endTogether 9 = .ok (.getfield 107, 3) := by decide +kernel
theorem d_Srv_endTogether_12 : decode b_Srv_endTogether 12 = .ok (.iload_n 2, 1) := by decide +kernel
theorem d_Srv_endTogether_13 : decode b_Srv_endTogether 13 = .ok (.if_icmp .le 5, 3) := by decide +kernel
theorem d_Srv_endTogether_16 : decode b_Srv_endTogether 16 = .ok (.iconst 0, 1) := by decide +kernel
theorem d_Srv_endTogether_17 : decode b_Srv_endTogether 17 = .ok (.ireturn, 1) := by decide +kernel
theorem d_Srv_endTogether_18 : decode b_Srv_endTogether 18 = .ok (.aload_n 1, 1) := by decide +kernel
theorem d_Srv_endTogether_19 : decode b_Srv_endTogether 19 = .ok (.iconst 3, 1) := by decide +kernel
theorem d_Srv_endTogether_20 : decode b_Srv_endTogether 20 = .ok (.invokevirtual 151, 3) := by decide +kernel
theorem d_Srv_endTogether_23 : decode b_Srv_endTogether 23 = .ok (.iconst 1, 1) := by decide +kernel
theorem d_Srv_endTogether_24 : decode b_Srv_endTogether 24 = .ok (.ireturn, 1) := by decide +kernel
set_option maxRecDepth 100000 in
set_option maxHeartbeats 4000000 in
theorem c_Srv_endTogether (l : Launch) (K : Kx) (V : Vx) (A B C D : MI) (P : MP) (s : Nat) (hs : V.1 1 s) (r : Nat) (hr : V.1 2 r) (t : Int32) : Ct l K md_Srv_endTogether (2, 41) 0 0 [.ref (K.ad 1 s), .ref (K.ad 2 r), .int t] V (bk4 A B C D) P (EQ V (some (.int (endT A r t).1)) (bk4 (endT A r t).2 B C D) P) := by
  refine ct_of [(0, .ref (K.ad 1 s)), (1, .ref (K.ad 2 r)), (2, .int t)] (by decide) (Nat.le_of_ble_eq_true rfl) (ca_r (ca_r (ca_i ca_n))) rfl ?_
  intro X hl hX
  have h : OkX X b_Srv_endTogether R_Srv K := hX.1
  have hN : X.nL = 3 := hX.2.1
  refine j_aload_n h d_Srv_endTogether_0 rfl ?_
  refine j_get0 h d_Srv_endTogether_1 fl_Srv_71 rfl (by assumption) ?_
  refine j_iconst (v := 2) h d_Srv_endTogether_4 (by decide) ?_
  refine j_ic_ne (tgt := 16) h d_Srv_endTogether_5 (by decide) (fun c1 => ?_) (fun c1 => ?_)
  · refine j_iconst (v := 0) h d_Srv_endTogether_16 (by decide) ?_
    exact j_zret hX d_Srv_endTogether_17 rfl (by first | exact Or.inl rfl | exact Or.inr rfl | exact b01_z _ | assumption | exact tkB_z _ _ _ _ _ | exact tkE_z _ _ _ _ _ _ _ _ | exact tkG_z _ _ | exact enS_z _ _ _ | exact enO_z _ _ _ _ _ _) (Nat.le_refl _) (Nat.le_refl _) ⟨rfl, by clear hX h hl; first | rfl | (simp_all [endT]; done) | grind [endT], by clear hX h hl; first | rfl | (simp_all [endT, up_rd]; done) | grind [endT, up_rd, chgTo_rd, chg_rd, settle_rd, bnd_rd], rfl⟩
  · refine j_aload_n h d_Srv_endTogether_8 rfl ?_
    refine j_get0 h d_Srv_endTogether_9 fl_Srv_107 rfl (by assumption) ?_
    refine j_iload_n h d_Srv_endTogether_12 rfl ?_
    refine j_ic_le (tgt := 18) h d_Srv_endTogether_13 (by decide) (fun c2 => ?_) (fun c2 => ?_)
    · refine j_aload_n h d_Srv_endTogether_18 rfl ?_
      refine j_iconst (v := 3) h d_Srv_endTogether_19 (by decide) ?_
      refine j_callV h (c_Rec_changeTo _ _ _ _ _ _ _ _ _ hr _) d_Srv_endTogether_20 ml_Srv_151 mv_Rec_changeTo (by assumption) ⟨rfl, rfl⟩ rfl rfl (Nat.le_of_ble_eq_true rfl) (hR_of hX (by decide) (by decide)) (hf_of hX (by decide) (by decide)) ?_
      rintro _ _ _ _ ⟨rfl, rfl, rfl, rfl⟩
      refine j_iconst (v := 1) h d_Srv_endTogether_23 (by decide) ?_
      exact j_zret hX d_Srv_endTogether_24 rfl (by first | exact Or.inl rfl | exact Or.inr rfl | exact b01_z _ | assumption | exact tkB_z _ _ _ _ _ | exact tkE_z _ _ _ _ _ _ _ _ | exact tkG_z _ _ | exact enS_z _ _ _ | exact enO_z _ _ _ _ _ _) (Nat.le_refl _) (Nat.le_refl _) ⟨rfl, by clear hX h hl; first | rfl | (simp_all [endT]; done) | grind [endT], by clear hX h hl; first | rfl | (simp_all [endT, up_rd]; done) | grind [endT, up_rd, chgTo_rd, chg_rd, settle_rd, bnd_rd], rfl⟩
    · refine j_iconst (v := 0) h d_Srv_endTogether_16 (by decide) ?_
      exact j_zret hX d_Srv_endTogether_17 rfl (by first | exact Or.inl rfl | exact Or.inr rfl | exact b01_z _ | assumption | exact tkB_z _ _ _ _ _ | exact tkE_z _ _ _ _ _ _ _ _ | exact tkG_z _ _ | exact enS_z _ _ _ | exact enO_z _ _ _ _ _ _) (Nat.le_refl _) (Nat.le_refl _) ⟨rfl, by clear hX h hl; first | rfl | (simp_all [endT]; done) | grind [endT], by clear hX h hl; first | rfl | (simp_all [endT, up_rd]; done) | grind [endT, up_rd, chgTo_rd, chg_rd, settle_rd, bnd_rd], rfl⟩
theorem d_Srv_endSole_0 : decode b_Srv_endSole 0 = .ok (.aload_n 1, 1) := by decide +kernel
theorem d_Srv_endSole_1 : decode b_Srv_endSole 1 = .ok (.getfield 71, 3) := by decide +kernel
theorem d_Srv_endSole_4 : decode b_Srv_endSole 4 = .ok (.iconst 3, 1) := by decide +kernel
theorem d_Srv_endSole_5 : decode b_Srv_endSole 5 = .ok (.if_icmp .eq 19, 3) := by decide +kernel
theorem d_Srv_endSole_8 : decode b_Srv_endSole 8 = .ok (.aload_n 1, 1) := by decide +kernel
theorem d_Srv_endSole_9 : decode b_Srv_endSole 9 = .ok (.getfield 71, 3) := by decide +kernel
theorem d_Srv_endSole_12 : decode b_Srv_endSole 12 = .ok (.iconst 2, 1) := by decide +kernel
theorem d_Srv_endSole_13 : decode b_Srv_endSole 13 = .ok (.if_icmp .ne 15, 3) := by decide +kernel
theorem d_Srv_endSole_16 : decode b_Srv_endSole 16 = .ok (.aload_n 1, 1) := by decide +kernel
theorem d_Srv_endSole_17 : decode b_Srv_endSole 17 = .ok (.getfield 107, 3) := by decide +kernel
theorem d_Srv_endSole_20 : decode b_Srv_endSole 20 = .ok (.iload_n 2, 1) := by decide +kernel
theorem d_Srv_endSole_21 : decode b_Srv_endSole 21 = .ok (.if_icmp .gt 7, 3) := by decide +kernel
theorem d_Srv_endSole_24 : decode b_Srv_endSole 24 = .ok (.iconst 1, 1) := by decide +kernel
theorem d_Srv_endSole_25 : decode b_Srv_endSole 25 = .ok (.goto 4, 3) := by decide +kernel
theorem d_Srv_endSole_28 : decode b_Srv_endSole 28 = .ok (.iconst 0, 1) := by decide +kernel
theorem d_Srv_endSole_29 : decode b_Srv_endSole 29 = .ok (.istore_n 3, 1) := by decide +kernel
theorem d_Srv_endSole_30 : decode b_Srv_endSole 30 = .ok (.iload_n 3, 1) := by decide +kernel
theorem d_Srv_endSole_31 : decode b_Srv_endSole 31 = .ok (.ifCond .eq 8, 3) := by decide +kernel
theorem d_Srv_endSole_34 : decode b_Srv_endSole 34 = .ok (.aload_n 1, 1) := by decide +kernel
theorem d_Srv_endSole_35 : decode b_Srv_endSole 35 = .ok (.iconst 1, 1) := by decide +kernel
theorem d_Srv_endSole_36 : decode b_Srv_endSole 36 = .ok (.invokevirtual 151, 3) := by decide +kernel
theorem d_Srv_endSole_39 : decode b_Srv_endSole 39 = .ok (.iload_n 3, 1) := by decide +kernel
theorem d_Srv_endSole_40 : decode b_Srv_endSole 40 = .ok (.ireturn, 1) := by decide +kernel
set_option maxRecDepth 100000 in
set_option maxHeartbeats 4000000 in
theorem c_Srv_endSole (l : Launch) (K : Kx) (V : Vx) (A B C D : MI) (P : MP) (s : Nat) (hs : V.1 1 s) (r : Nat) (hr : V.1 2 r) (t : Int32) : Ct l K md_Srv_endSole (2, 41) 0 0 [.ref (K.ad 1 s), .ref (K.ad 2 r), .int t] V (bk4 A B C D) P (EQ V (some (.int (enSole A r t).1)) (bk4 (enSole A r t).2 B C D) P) := by
  refine ct_of [(0, .ref (K.ad 1 s)), (1, .ref (K.ad 2 r)), (2, .int t)] (by decide) (Nat.le_of_ble_eq_true rfl) (ca_r (ca_r (ca_i ca_n))) rfl ?_
  intro X hl hX
  have h : OkX X b_Srv_endSole R_Srv K := hX.1
  have hN : X.nL = 4 := hX.2.1
  refine j_aload_n h d_Srv_endSole_0 rfl ?_
  refine j_get0 h d_Srv_endSole_1 fl_Srv_71 rfl (by assumption) ?_
  refine j_iconst (v := 3) h d_Srv_endSole_4 (by decide) ?_
  refine j_ic_eq (tgt := 24) h d_Srv_endSole_5 (by decide) (fun c1 => ?_) (fun c1 => ?_)
  · refine j_iconst (v := 1) h d_Srv_endSole_24 (by decide) ?_
    refine j_goto (tgt := 29) h d_Srv_endSole_25 (by decide) ?_
    refine j_istore_n h d_Srv_endSole_29 (Nat.lt_of_lt_of_eq (m := 4) (by decide) hN.symm) ?_
    refine j_iload_n h d_Srv_endSole_30 rfl ?_
    refine j_if_eq (tgt := 39) h d_Srv_endSole_31 (by decide) (fun c2 => absurd c2 (by decide)) (fun c2 => ?_)
    refine j_aload_n h d_Srv_endSole_34 rfl ?_
    refine j_iconst (v := 1) h d_Srv_endSole_35 (by decide) ?_
    refine j_callV h (c_Rec_changeTo _ _ _ _ _ _ _ _ _ hr _) d_Srv_endSole_36 ml_Srv_151 mv_Rec_changeTo (by assumption) ⟨rfl, rfl⟩ rfl rfl (Nat.le_of_ble_eq_true rfl) (hR_of hX (by decide) (by decide)) (hf_of hX (by decide) (by decide)) ?_
    rintro _ _ _ _ ⟨rfl, rfl, rfl, rfl⟩
    refine j_iload_n h d_Srv_endSole_39 rfl ?_
    exact j_zret hX d_Srv_endSole_40 rfl (by first | exact Or.inl rfl | exact Or.inr rfl | exact b01_z _ | assumption | exact tkB_z _ _ _ _ _ | exact tkE_z _ _ _ _ _ _ _ _ | exact tkG_z _ _ | exact enS_z _ _ _ | exact enO_z _ _ _ _ _ _) (Nat.le_refl _) (Nat.le_refl _) ⟨rfl, by clear hX h hl; first | rfl | (simp_all [enSole]; done) | grind [enSole], by clear hX h hl; first | rfl | (simp_all [enSole, up_rd]; done) | grind [enSole, up_rd, chgTo_rd, chg_rd, settle_rd, bnd_rd], rfl⟩
  · refine j_aload_n h d_Srv_endSole_8 rfl ?_
    refine j_get0 h d_Srv_endSole_9 fl_Srv_71 rfl (by assumption) ?_
    refine j_iconst (v := 2) h d_Srv_endSole_12 (by decide) ?_
    refine j_ic_ne (tgt := 28) h d_Srv_endSole_13 (by decide) (fun c3 => ?_) (fun c3 => ?_)
    · refine j_iconst (v := 0) h d_Srv_endSole_28 (by decide) ?_
      refine j_istore_n h d_Srv_endSole_29 (Nat.lt_of_lt_of_eq (m := 4) (by decide) hN.symm) ?_
      refine j_iload_n h d_Srv_endSole_30 rfl ?_
      refine j_if_eq (tgt := 39) h d_Srv_endSole_31 (by decide) (fun c4 => ?_) (fun c4 => absurd c4 (by decide))
      refine j_iload_n h d_Srv_endSole_39 rfl ?_
      exact j_zret hX d_Srv_endSole_40 rfl (by first | exact Or.inl rfl | exact Or.inr rfl | exact b01_z _ | assumption | exact tkB_z _ _ _ _ _ | exact tkE_z _ _ _ _ _ _ _ _ | exact tkG_z _ _ | exact enS_z _ _ _ | exact enO_z _ _ _ _ _ _) (Nat.le_refl _) (Nat.le_refl _) ⟨rfl, by clear hX h hl; first | rfl | (simp_all [enSole]; done) | grind [enSole], by clear hX h hl; first | rfl | (simp_all [enSole, up_rd]; done) | grind [enSole, up_rd, chgTo_rd, chg_rd, settle_rd, bnd_rd], rfl⟩
    · refine j_aload_n h d_Srv_endSole_16 rfl ?_
      refine j_get0 h d_Srv_endSole_17 fl_Srv_107 rfl (by assumption) ?_
      refine j_iload_n h d_Srv_endSole_20 rfl ?_
      refine j_ic_gt (tgt := 28) h d_Srv_endSole_21 (by decide) (fun c5 => ?_) (fun c5 => ?_)
      · refine j_iconst (v := 0) h d_Srv_endSole_28 (by decide) ?_
        refine j_istore_n h d_Srv_endSole_29 (Nat.lt_of_lt_of_eq (m := 4) (by decide) hN.symm) ?_
        refine j_iload_n h d_Srv_endSole_30 rfl ?_
        refine j_if_eq (tgt := 39) h d_Srv_endSole_31 (by decide) (fun c6 => ?_) (fun c6 => absurd c6 (by decide))
        refine j_iload_n h d_Srv_endSole_39 rfl ?_
        exact j_zret hX d_Srv_endSole_40 rfl (by first | exact Or.inl rfl | exact Or.inr rfl | exact b01_z _ | assumption | exact tkB_z _ _ _ _ _ | exact tkE_z _ _ _ _ _ _ _ _ | exact tkG_z _ _ | exact enS_z _ _ _ | exact enO_z _ _ _ _ _ _) (Nat.le_refl _) (Nat.le_refl _) ⟨rfl, by clear hX h hl; first | rfl | (simp_all [enSole]; done) | grind [enSole], by clear hX h hl; first | rfl | (simp_all [enSole, up_rd]; done) | grind [enSole, up_rd, chgTo_rd, chg_rd, settle_rd, bnd_rd], rfl⟩
      · refine j_iconst (v := 1) h d_Srv_endSole_24 (by decide) ?_
        refine j_goto (tgt := 29) h d_Srv_endSole_25 (by decide) ?_
        refine j_istore_n h d_Srv_endSole_29 (Nat.lt_of_lt_of_eq (m := 4) (by decide) hN.symm) ?_
        refine j_iload_n h d_Srv_endSole_30 rfl ?_
        refine j_if_eq (tgt := 39) h d_Srv_endSole_31 (by decide) (fun c7 => absurd c7 (by decide)) (fun c7 => ?_)
        refine j_aload_n h d_Srv_endSole_34 rfl ?_
        refine j_iconst (v := 1) h d_Srv_endSole_35 (by decide) ?_
        refine j_callV h (c_Rec_changeTo _ _ _ _ _ _ _ _ _ hr _) d_Srv_endSole_36 ml_Srv_151 mv_Rec_changeTo (by assumption) ⟨rfl, rfl⟩ rfl rfl (Nat.le_of_ble_eq_true rfl) (hR_of hX (by decide) (by decide)) (hf_of hX (by decide) (by decide)) ?_
        rintro _ _ _ _ ⟨rfl, rfl, rfl, rfl⟩
        refine j_iload_n h d_Srv_endSole_39 rfl ?_
        exact j_zret hX d_Srv_endSole_40 rfl (by first | exact Or.inl rfl | exact Or.inr rfl | exact b01_z _ | assumption | exact tkB_z _ _ _ _ _ | exact tkE_z _ _ _ _ _ _ _ _ | exact tkG_z _ _ | exact enS_z _ _ _ | exact enO_z _ _ _ _ _ _) (Nat.le_refl _) (Nat.le_refl _) ⟨rfl, by clear hX h hl; first | rfl | (simp_all [enSole]; done) | grind [enSole], by clear hX h hl; first | rfl | (simp_all [enSole, up_rd]; done) | grind [enSole, up_rd, chgTo_rd, chg_rd, settle_rd, bnd_rd], rfl⟩
theorem d_Srv_takeOver_0 : decode b_Srv_takeOver 0 = .ok (.aload_n 1, 1) := by decide +kernel
theorem d_Srv_takeOver_1 : decode b_Srv_takeOver 1 = .ok (.getfield 107, 3) := by decide +kernel
theorem d_Srv_takeOver_4 : decode b_Srv_takeOver 4 = .ok (.aload_n 0, 1) := by decide +kernel
theorem d_Srv_takeOver_5 : decode b_Srv_takeOver 5 = .ok (.getfield 68, 3) := by decide +kernel
theorem d_Srv_takeOver_8 : decode b_Srv_takeOver 8 = .ok (.aload_n 0, 1) := by decide +kernel
theorem d_Srv_takeOver_9 : decode b_Srv_takeOver 9 = .ok (.getfield 21, 3) := by decide +kernel
theorem d_Srv_takeOver_12 : decode b_Srv_takeOver 12 = .ok (.iadd, 1) := by decide +kernel
theorem d_Srv_takeOver_13 : decode b_Srv_takeOver 13 = .ok (.invokestatic 139, 3) := by decide +kernel
theorem d_Srv_takeOver_16 : decode b_Srv_takeOver 16 = .ok (.aload_n 0, 1) := by decide +kernel
theorem d_Srv_takeOver_17 : decode b_Srv_takeOver 17 = .ok (.getfield 18, 3) := by decide +kernel
theorem d_Srv_takeOver_20 : decode b_Srv_takeOver 20 = .ok (.iadd, 1) := by decide +kernel
theorem d_Srv_takeOver_21 : decode b_Srv_takeOver 21 = .ok (.istore_n 3, 1) := by decide +kernel
theorem d_Srv_takeOver_22 : decode b_Srv_takeOver 22 = .ok (.aload_n 1, 1) := by decide +kernel
theorem d_Srv_takeOver_23 : decode b_Srv_takeOver 23 = .ok (.getfield 71, 3) := by decide +kernel
theorem d_Srv_takeOver_26 : decode b_Srv_takeOver 26 = .ok (.iconst 1, 1) := by decide +kernel
theorem d_Srv_takeOver_27 : decode b_Srv_takeOver 27 = .ok (.if_icmp .eq 8, 3) := by decide +kernel
theorem d_Srv_takeOver_30 : decode b_Srv_takeOver 30 = .ok (.iload_n 2, 1) := by decide +kernel
theorem d_Srv_takeOver_31 : decode b_Srv_takeOver 31 = .ok (.iload_n 3, 1) := by decide +kernel
theorem d_Srv_takeOver_32 : decode b_Srv_takeOver 32 = .ok (.if_icmp .ge 5, 3) := by decide +kernel
theorem d_Srv_takeOver_35 : decode b_Srv_takeOver 35 = .ok (.iconst 0, 1) := by decide +kernel
theorem d_Srv_takeOver_36 : decode b_Srv_takeOver 36 = .ok (.ireturn, 1) := by decide +kernel
theorem d_Srv_takeOver_37 : decode b_Srv_takeOver 37 = .ok (.aload_n 1, 1) := by decide +kernel
theorem d_Srv_takeOver_38 : decode b_Srv_takeOver 38 = .ok (.iconst 1, 1) := by decide +kernel
theorem d_Srv_takeOver_39 : decode b_Srv_takeOver 39 = .ok (.putfield 62, 3) := by decide +kernel
theorem d_Srv_takeOver_42 : decode b_Srv_takeOver 42 = .ok (.aload_n 1, 1) := by decide +kernel
theorem d_Srv_takeOver_43 : decode b_Srv_takeOver 43 = .ok (.aload_n 0, 1) := by decide +kernel
theorem d_Srv_takeOver_44 : decode b_Srv_takeOver 44 = .ok (.getfield 42, 3) := by decide +kernel
theorem d_Srv_takeOver_47 : decode b_Srv_takeOver 47 = .ok (.putfield 162, 3) := by decide +kernel
theorem d_Srv_takeOver_50 : decode b_Srv_takeOver 50 = .ok (.aload_n 1, 1) := by decide +kernel
theorem d_Srv_takeOver_51 : decode b_Srv_takeOver 51 = .ok (.iconst (-1), 1) := by decide +kernel
theorem d_Srv_takeOver_52 : decode b_Srv_takeOver 52 = .ok (.putfield 166, 3) := by decide +kernel
theorem d_Srv_takeOver_55 : decode b_Srv_takeOver 55 = .ok (.aload_n 1, 1) := by decide +kernel
theorem d_Srv_takeOver_56 : decode b_Srv_takeOver 56 = .ok (.iconst 1, 1) := by decide +kernel
theorem d_Srv_takeOver_57 : decode b_Srv_takeOver 57 = .ok (.invokevirtual 151, 3) := by decide +kernel
theorem d_Srv_takeOver_60 : decode b_Srv_takeOver 60 = .ok (.iconst 1, 1) := by decide +kernel
theorem d_Srv_takeOver_61 : decode b_Srv_takeOver 61 = .ok (.ireturn, 1) := by decide +kernel
set_option maxRecDepth 100000 in
set_option maxHeartbeats 4000000 in
theorem c_Srv_takeOver (l : Launch) (K : Kx) (V : Vx) (A B C D : MI) (P : MP) (s : Nat) (hs : V.1 1 s) (r : Nat) (hr : V.1 2 r) (t : Int32) : Ct l K md_Srv_takeOver (2, 41) 0 0 [.ref (K.ad 1 s), .ref (K.ad 2 r), .int t] V (bk4 A B C D) P (EQ V (some (.int (tkOver A r s (B 62 s) (B 63 s) t).1)) (bk4 (tkOver A r s (B 62 s) (B 63 s) t).2 B C D) P) := by
  refine ct_of [(0, .ref (K.ad 1 s)), (1, .ref (K.ad 2 r)), (2, .int t)] (by decide) (Nat.le_of_ble_eq_true rfl) (ca_r (ca_r (ca_i ca_n))) rfl ?_
  intro X hl hX
  have h : OkX X b_Srv_takeOver R_Srv K := hX.1
  have hN : X.nL = 4 := hX.2.1
  refine j_aload_n h d_Srv_takeOver_0 rfl ?_
  refine j_get0 h d_Srv_takeOver_1 fl_Srv_107 rfl (by assumption) ?_
  refine j_aload_n h d_Srv_takeOver_4 rfl ?_
  refine j_get0 h d_Srv_takeOver_5 fl_Srv_68 rfl (by assumption) ?_
  refine j_aload_n h d_Srv_takeOver_8 rfl ?_
  refine j_get1 h d_Srv_takeOver_9 fl_Srv_21 rfl (by assumption) ?_
  refine j_iadd h d_Srv_takeOver_12 ?_
  refine j_mmax h d_Srv_takeOver_13 wm_Srv_139 (hM_of hX (by decide) (Nat.le_of_ble_eq_true rfl)) (hf_of (mc' := 0) (ms' := 0) hX (by decide) (by decide)) ?_
  refine j_aload_n h d_Srv_takeOver_16 rfl ?_
  refine j_get1 h d_Srv_takeOver_17 fl_Srv_18 rfl (by assumption) ?_
  refine j_iadd h d_Srv_takeOver_20 ?_
  refine j_istore_n h d_Srv_takeOver_21 (Nat.lt_of_lt_of_eq (m := 4) (by decide) hN.symm) ?_
  refine j_aload_n h d_Srv_takeOver_22 rfl ?_
  refine j_get0 h d_Srv_takeOver_23 fl_Srv_71 rfl (by assumption) ?_
  refine j_iconst (v := 1) h d_Srv_takeOver_26 (by decide) ?_
  refine j_ic_eq (tgt := 35) h d_Srv_takeOver_27 (by decide) (fun c1 => ?_) (fun c1 => ?_)
  · refine j_iconst (v := 0) h d_Srv_takeOver_35 (by decide) ?_
    exact j_zret hX d_Srv_takeOver_36 rfl (by first | exact Or.inl rfl | exact Or.inr rfl | exact b01_z _ | assumption | exact tkB_z _ _ _ _ _ | exact tkE_z _ _ _ _ _ _ _ _ | exact tkG_z _ _ | exact enS_z _ _ _ | exact enO_z _ _ _ _ _ _) (Nat.le_refl _) (Nat.le_refl _) ⟨rfl, by clear hX h hl; first | rfl | (simp_all [tkOver]; done) | grind [tkOver], by clear hX h hl; first | rfl | (simp_all [tkOver, up_rd]; done) | grind [tkOver, up_rd, chgTo_rd, chg_rd, settle_rd, bnd_rd], rfl⟩
  · refine j_iload_n h d_Srv_takeOver_30 rfl ?_
    refine j_iload_n h d_Srv_takeOver_31 rfl ?_
    refine j_ic_ge (tgt := 37) h d_Srv_takeOver_32 (by decide) (fun c2 => ?_) (fun c2 => ?_)
    · refine j_aload_n h d_Srv_takeOver_37 rfl ?_
      refine j_iconst (v := 1) h d_Srv_takeOver_38 (by decide) ?_
      refine j_putZ0 h d_Srv_takeOver_39 fw_Srv_62 rfl rfl (by assumption) (by first | exact Or.inl rfl | exact Or.inr rfl | assumption) ?_
      refine j_aload_n h d_Srv_takeOver_42 rfl ?_
      refine j_aload_n h d_Srv_takeOver_43 rfl ?_
      refine j_get0 h d_Srv_takeOver_44 fl_Srv_42 rfl (by assumption) ?_
      refine j_put0 h d_Srv_takeOver_47 fw_Srv_162 rfl rfl (by assumption) ?_
      refine j_aload_n h d_Srv_takeOver_50 rfl ?_
      refine j_iconst (v := -1) h d_Srv_takeOver_51 (by decide) ?_
      refine j_put0 h d_Srv_takeOver_52 fw_Srv_166 rfl rfl (by assumption) ?_
      refine j_aload_n h d_Srv_takeOver_55 rfl ?_
      refine j_iconst (v := 1) h d_Srv_takeOver_56 (by decide) ?_
      refine j_callV h (c_Rec_changeTo _ _ _ _ _ _ _ _ _ hr _) d_Srv_takeOver_57 ml_Srv_151 mv_Rec_changeTo (by assumption) ⟨rfl, rfl⟩ rfl rfl (Nat.le_of_ble_eq_true rfl) (hR_of hX (by decide) (by decide)) (hf_of hX (by decide) (by decide)) ?_
      rintro _ _ _ _ ⟨rfl, rfl, rfl, rfl⟩
      refine j_iconst (v := 1) h d_Srv_takeOver_60 (by decide) ?_
      exact j_zret hX d_Srv_takeOver_61 rfl (by first | exact Or.inl rfl | exact Or.inr rfl | exact b01_z _ | assumption | exact tkB_z _ _ _ _ _ | exact tkE_z _ _ _ _ _ _ _ _ | exact tkG_z _ _ | exact enS_z _ _ _ | exact enO_z _ _ _ _ _ _) (Nat.le_refl _) (Nat.le_refl _) ⟨rfl, by clear hX h hl; first | rfl | (simp_all [tkOver]; done) | grind [tkOver], by clear hX h hl; first | rfl | (simp_all [tkOver, up_rd]; done) | grind [tkOver, up_rd, chgTo_rd, chg_rd, settle_rd, bnd_rd], rfl⟩
    · refine j_iconst (v := 0) h d_Srv_takeOver_35 (by decide) ?_
      exact j_zret hX d_Srv_takeOver_36 rfl (by first | exact Or.inl rfl | exact Or.inr rfl | exact b01_z _ | assumption | exact tkB_z _ _ _ _ _ | exact tkE_z _ _ _ _ _ _ _ _ | exact tkG_z _ _ | exact enS_z _ _ _ | exact enO_z _ _ _ _ _ _) (Nat.le_refl _) (Nat.le_refl _) ⟨rfl, by clear hX h hl; first | rfl | (simp_all [tkOver]; done) | grind [tkOver], by clear hX h hl; first | rfl | (simp_all [tkOver, up_rd]; done) | grind [tkOver, up_rd, chgTo_rd, chg_rd, settle_rd, bnd_rd], rfl⟩
theorem d_Srv_endAlone_0 : decode b_Srv_endAlone 0 = .ok (.aload_n 1, 1) := by decide +kernel
theorem d_Srv_endAlone_1 : decode b_Srv_endAlone 1 = .ok (.getfield 62, 3) := by decide +kernel
theorem d_Srv_endAlone_4 : decode b_Srv_endAlone 4 = .ok (.ifCond .eq 12, 3) := by decide +kernel
theorem d_Srv_endAlone_7 : decode b_Srv_endAlone 7 = .ok (.aload_n 0, 1) := by decide +kernel
theorem d_Srv_endAlone_8 : decode b_Srv_endAlone 8 = .ok (.aload_n 1, 1) := by decide +kernel
theorem d_Srv_endAlone_9 : decode b_Srv_endAlone 9 = .ok (.iload_n 2, 1) := by decide +kernel
theorem d_Srv_endAlone_10 : decode b_Srv_endAlone 10 = .ok (.invokevirtual 235, 3) := by decide +kernel
theorem d_Srv_endAlone_13 : decode b_Srv_endAlone 13 = .ok (.goto 9, 3) := by decide +kernel
theorem d_Srv_endAlone_16 : decode b_Srv_endAlone 16 = .ok (.aload_n 0, 1) := by decide +kernel
theorem d_Srv_endAlone_17 : decode b_Srv_endAlone 17 = .ok (.aload_n 1, 1) := by decide +kernel
theorem d_Srv_endAlone_18 : decode b_Srv_endAlone 18 = .ok (.iload_n 2, 1) := by decide +kernel
theorem d_Srv_endAlone_19 : decode b_Srv_endAlone 19 = .ok (.invokevirtual 238, 3) := by decide +kernel
theorem d_Srv_endAlone_22 : decode b_Srv_endAlone 22 = .ok (.ireturn, 1) := by decide +kernel
set_option maxRecDepth 100000 in
set_option maxHeartbeats 4000000 in
theorem c_Srv_endAlone (l : Launch) (K : Kx) (V : Vx) (A B C D : MI) (P : MP) (s : Nat) (hs : V.1 1 s) (r : Nat) (hr : V.1 2 r) (t : Int32) : Ct l K md_Srv_endAlone (3, 64) 0 0 [.ref (K.ad 1 s), .ref (K.ad 2 r), .int t] V (bk4 A B C D) P (EQ V (some (.int (enAlone A r s (B 62 s) (B 63 s) t).1)) (bk4 (enAlone A r s (B 62 s) (B 63 s) t).2 B C D) P) := by
  refine ct_of [(0, .ref (K.ad 1 s)), (1, .ref (K.ad 2 r)), (2, .int t)] (by decide) (Nat.le_of_ble_eq_true rfl) (ca_r (ca_r (ca_i ca_n))) rfl ?_
  intro X hl hX
  have h : OkX X b_Srv_endAlone R_Srv K := hX.1
  have hN : X.nL = 3 := hX.2.1
  refine j_aload_n h d_Srv_endAlone_0 rfl ?_
  refine j_get0 h d_Srv_endAlone_1 fl_Srv_62 rfl (by assumption) ?_
  refine j_if_eq (tgt := 16) h d_Srv_endAlone_4 (by decide) (fun c1 => ?_) (fun c1 => ?_)
  · refine j_aload_n h d_Srv_endAlone_16 rfl ?_
    refine j_aload_n h d_Srv_endAlone_17 rfl ?_
    refine j_iload_n h d_Srv_endAlone_18 rfl ?_
    refine j_callV h (c_Srv_takeOver _ _ _ _ _ _ _ _ _ hs _ hr _) d_Srv_endAlone_19 ml_Srv_238 mv_Srv_takeOver (by assumption) ⟨rfl, rfl⟩ rfl rfl (Nat.le_of_ble_eq_true rfl) (hR_of hX (by decide) (by decide)) (hf_of hX (by decide) (by decide)) ?_
    rintro _ _ _ _ ⟨rfl, rfl, rfl, rfl⟩
    exact j_zret hX d_Srv_endAlone_22 rfl (by first | exact Or.inl rfl | exact Or.inr rfl | exact b01_z _ | assumption | exact tkB_z _ _ _ _ _ | exact tkE_z _ _ _ _ _ _ _ _ | exact tkG_z _ _ | exact enS_z _ _ _ | exact enO_z _ _ _ _ _ _) (Nat.le_refl _) (Nat.le_refl _) ⟨rfl, by clear hX h hl; first | rfl | (simp_all [enAlone]; done) | grind [enAlone], by clear hX h hl; first | rfl | (simp_all [enAlone, up_rd]; done) | grind [enAlone, up_rd, chgTo_rd, chg_rd, settle_rd, bnd_rd], rfl⟩
  · refine j_aload_n h d_Srv_endAlone_7 rfl ?_
    refine j_aload_n h d_Srv_endAlone_8 rfl ?_
    refine j_iload_n h d_Srv_endAlone_9 rfl ?_
    refine j_callV h (c_Srv_endSole _ _ _ _ _ _ _ _ _ hs _ hr _) d_Srv_endAlone_10 ml_Srv_235 mv_Srv_endSole (by assumption) ⟨rfl, rfl⟩ rfl rfl (Nat.le_of_ble_eq_true rfl) (hR_of hX (by decide) (by decide)) (hf_of hX (by decide) (by decide)) ?_
    rintro _ _ _ _ ⟨rfl, rfl, rfl, rfl⟩
    refine j_goto (tgt := 22) h d_Srv_endAlone_13 (by decide) ?_
    exact j_zret hX d_Srv_endAlone_22 rfl (by first | exact Or.inl rfl | exact Or.inr rfl | exact b01_z _ | assumption | exact tkB_z _ _ _ _ _ | exact tkE_z _ _ _ _ _ _ _ _ | exact tkG_z _ _ | exact enS_z _ _ _ | exact enO_z _ _ _ _ _ _) (Nat.le_refl _) (Nat.le_refl _) ⟨rfl, by clear hX h hl; first | rfl | (simp_all [enAlone]; done) | grind [enAlone], by clear hX h hl; first | rfl | (simp_all [enAlone, up_rd]; done) | grind [enAlone, up_rd, chgTo_rd, chg_rd, settle_rd, bnd_rd], rfl⟩
theorem d_Srv_giveWay_0 : decode b_Srv_giveWay 0 = .ok (.aload_n 0, 1) := by decide +kernel
theorem d_Srv_giveWay_1 : decode b_Srv_giveWay 1 = .ok (.getfield 33, 3) := by decide +kernel
theorem d_Srv_giveWay_4 : decode b_Srv_giveWay 4 = .ok (.iconst 1, 1) := by decide +kernel
theorem d_Srv_giveWay_5 : decode b_Srv_giveWay 5 = .ok (.if_icmp .ne 18, 3) := by decide +kernel
theorem d_Srv_giveWay_8 : decode b_Srv_giveWay 8 = .ok (.aload_n 1, 1) := by decide +kernel
theorem d_Srv_giveWay_9 : decode b_Srv_giveWay 9 = .ok (.getfield 195, 3) := by decide +kernel
theorem d_Srv_giveWay_12 : decode b_Srv_giveWay 12 = .ok (.aload_n 0, 1) := by decide +kernel
theorem d_Srv_giveWay_13 : decode b_Srv_giveWay 13 = .ok (.getfield 39, 3) := by decide +kernel
theorem d_Srv_giveWay_16 : decode b_Srv_giveWay 16 = .ok (.if_icmp .lt 7, 3) := by decide +kernel
theorem d_Srv_giveWay_19 : decode b_Srv_giveWay 19 = .ok (.iconst 1, 1) := by decide +kernel
theorem d_Srv_giveWay_20 : decode b_Srv_giveWay 20 = .ok (.goto 4, 3) := by decide +kernel
theorem d_Srv_giveWay_23 : decode b_Srv_giveWay 23 = .ok (.iconst 0, 1) := by decide +kernel
theorem d_Srv_giveWay_24 : decode b_Srv_giveWay 24 = .ok (.istore_n 3, 1) := by decide +kernel
theorem d_Srv_giveWay_25 : decode b_Srv_giveWay 25 = .ok (.aload_n 2, 1) := by decide +kernel
theorem d_Srv_giveWay_26 : decode b_Srv_giveWay 26 = .ok (.getfield 71, 3) := by decide +kernel
theorem d_Srv_giveWay_29 : decode b_Srv_giveWay 29 = .ok (.iconst 4, 1) := by decide +kernel
theorem d_Srv_giveWay_30 : decode b_Srv_giveWay 30 = .ok (.if_icmp .ne 25, 3) := by decide +kernel
theorem d_Srv_giveWay_33 : decode b_Srv_giveWay 33 = .ok (.aload_n 1, 1) := by decide +kernel
theorem d_Srv_giveWay_34 : decode b_Srv_giveWay 34 = .ok (.getfield 196, 3) := by decide +kernel
theorem d_Srv_giveWay_37 : decode b_Srv_giveWay 37 = .ok (.aload_n 2, 1) := by decide +kernel
theorem d_Srv_giveWay_38 : decode b_Srv_giveWay 38 = .ok (.getfield 126, 3) := by decide +kernel
theorem d_Srv_giveWay_41 : decode b_Srv_giveWay 41 = .ok (.if_icmp .ne 14, 3) := by decide +kernel
theorem d_Srv_giveWay_44 : decode b_Srv_giveWay 44 = .ok (.aload_n 1, 1) := by decide +kernel
theorem d_Srv_giveWay_45 : decode b_Srv_giveWay 45 = .ok (.getfield 74, 3) := by decide +kernel
theorem d_Srv_giveWay_48 : decode b_Srv_giveWay 48 = .ok (.ifCond .eq 7, 3) := by decide +kernel
theorem d_Srv_giveWay_51 : decode b_Srv_giveWay 51 = .ok (.iconst 1, 1) := by decide +kernel
theorem d_Srv_giveWay_52 : decode b_Srv_giveWay 52 = .ok (.goto 4, 3) := by decide +kernel
theorem d_Srv_giveWay_55 : decode b_Srv_giveWay 55 = .ok (.iconst 0, 1) := by decide +kernel
theorem d_Srv_giveWay_56 : decode b_Srv_giveWay 56 = .ok (.istore 4, 2) := by decide +kernel
theorem d_Srv_giveWay_58 : decode b_Srv_giveWay 58 = .ok (.iload_n 3, 1) := by decide +kernel
theorem d_Srv_giveWay_59 : decode b_Srv_giveWay 59 = .ok (.ifCond .ne 8, 3) := by decide +kernel
theorem d_Srv_giveWay_62 : decode b_Srv_giveWay 62 = .ok (.iload 4, 2) := by decide +kernel
theorem d_Srv_giveWay_64 : decode b_Srv_giveWay 64 = .ok (.ifCond .eq 23, 3) := by decide +kernel
theorem d_Srv_giveWay_67 : decode b_Srv_giveWay 67 = .ok (.aload_n 2, 1) := by decide +kernel
theorem d_Srv_giveWay_68 : decode b_Srv_giveWay 68 = .ok (.iload_n 3, 1) := by decide +kernel
theorem d_Srv_giveWay_69 : decode b_Srv_giveWay 69 = .ok (.ifCond .eq 14, 3) := by decide +kernel
theorem d_Srv_giveWay_72 : decode b_Srv_giveWay 72 = .ok (.aload_n 1, 1) := by decide +kernel
theorem d_Srv_giveWay_73 : decode b_Srv_giveWay 73 = .ok (.getfield 74, 3) := by decide +kernel
theorem d_Srv_giveWay_76 : decode b_Srv_giveWay 76 = .ok (.ifCond .ne 7, 3) := by decide +kernel
theorem d_Srv_giveWay_79 : decode b_Srv_giveWay 79 = .ok (.iconst 1, 1) := by decide +kernel
theorem d_Srv_giveWay_80 : decode b_Srv_giveWay 80 = .ok (.goto 4, 3) := by decide +kernel
theorem d_Srv_giveWay_83 : decode b_Srv_giveWay 83 = .ok (.iconst 0, 1) := by decide +kernel
theorem d_Srv_giveWay_84 : decode b_Srv_giveWay 84 = .ok (.invokevirtual 197, 3) := by decide +kernel
theorem d_Srv_giveWay_87 : decode b_Srv_giveWay 87 = .ok (.return_, 1) := by decide +kernel
set_option maxRecDepth 100000 in
set_option maxHeartbeats 4000000 in
theorem c_Srv_giveWay (l : Launch) (K : Kx) (V : Vx) (A B C D : MI) (P : MP) (s : Nat) (hs : V.1 1 s) (q : Nat) (hq : V.1 5 q) (r : Nat) (hr : V.1 2 r) : Ct l K md_Srv_giveWay (1, 21) 0 0 [.ref (K.ad 1 s), .ref (K.ad 5 q), .ref (K.ad 2 r)] V (bk4 A B C D) P (EQ V (none) (bk4 (gvWay A r s (B 83 q) (B 93 q) (B 92 q)) B C D) P) := by
  refine ct_of [(0, .ref (K.ad 1 s)), (1, .ref (K.ad 5 q)), (2, .ref (K.ad 2 r))] (by decide) (Nat.le_of_ble_eq_true rfl) (ca_r (ca_r (ca_r ca_n))) rfl ?_
  intro X hl hX
  have h : OkX X b_Srv_giveWay R_Srv K := hX.1
  have hN : X.nL = 5 := hX.2.1
  refine j_aload_n h d_Srv_giveWay_0 rfl ?_
  refine j_get0 h d_Srv_giveWay_1 fl_Srv_33 rfl (by assumption) ?_
  refine j_iconst (v := 1) h d_Srv_giveWay_4 (by decide) ?_
  refine j_ic_ne (tgt := 23) h d_Srv_giveWay_5 (by decide) (fun c1 => ?_) (fun c1 => ?_)
  · refine j_iconst (v := 0) h d_Srv_giveWay_23 (by decide) ?_
    refine j_istore_n h d_Srv_giveWay_24 (Nat.lt_of_lt_of_eq (m := 5) (by decide) hN.symm) ?_
    refine j_aload_n h d_Srv_giveWay_25 rfl ?_
    refine j_get0 h d_Srv_giveWay_26 fl_Srv_71 rfl (by assumption) ?_
    refine j_iconst (v := 4) h d_Srv_giveWay_29 (by decide) ?_
    refine j_ic_ne (tgt := 55) h d_Srv_giveWay_30 (by decide) (fun c2 => ?_) (fun c2 => ?_)
    · refine j_iconst (v := 0) h d_Srv_giveWay_55 (by decide) ?_
      refine j_istore h d_Srv_giveWay_56 (Nat.lt_of_lt_of_eq (m := 5) (by decide) hN.symm) ?_
      refine j_iload_n h d_Srv_giveWay_58 rfl ?_
      refine j_if_ne (tgt := 67) h d_Srv_giveWay_59 (by decide) (fun c3 => absurd c3 (by decide)) (fun c3 => ?_)
      refine j_iload h d_Srv_giveWay_62 rfl ?_
      refine j_if_eq (tgt := 87) h d_Srv_giveWay_64 (by decide) (fun c4 => ?_) (fun c4 => absurd c4 (by decide))
      exact j_vret hX d_Srv_giveWay_87 rfl (Nat.le_refl _) (Nat.le_refl _) ⟨rfl, by clear hX h hl; first | rfl | (simp_all [gvWay]; done) | grind [gvWay], by clear hX h hl; first | rfl | (simp_all [gvWay, up_rd]; done) | grind [gvWay, up_rd, chgTo_rd, chg_rd, settle_rd, bnd_rd], rfl⟩
    · refine j_aload_n h d_Srv_giveWay_33 rfl ?_
      refine j_get1 h d_Srv_giveWay_34 fl_Srv_196 rfl (by assumption) ?_
      refine j_aload_n h d_Srv_giveWay_37 rfl ?_
      refine j_get0 h d_Srv_giveWay_38 fl_Srv_126 rfl (by assumption) ?_
      refine j_ic_ne (tgt := 55) h d_Srv_giveWay_41 (by decide) (fun c5 => ?_) (fun c5 => ?_)
      · refine j_iconst (v := 0) h d_Srv_giveWay_55 (by decide) ?_
        refine j_istore h d_Srv_giveWay_56 (Nat.lt_of_lt_of_eq (m := 5) (by decide) hN.symm) ?_
        refine j_iload_n h d_Srv_giveWay_58 rfl ?_
        refine j_if_ne (tgt := 67) h d_Srv_giveWay_59 (by decide) (fun c6 => absurd c6 (by decide)) (fun c6 => ?_)
        refine j_iload h d_Srv_giveWay_62 rfl ?_
        refine j_if_eq (tgt := 87) h d_Srv_giveWay_64 (by decide) (fun c7 => ?_) (fun c7 => absurd c7 (by decide))
        exact j_vret hX d_Srv_giveWay_87 rfl (Nat.le_refl _) (Nat.le_refl _) ⟨rfl, by clear hX h hl; first | rfl | (simp_all [gvWay]; done) | grind [gvWay], by clear hX h hl; first | rfl | (simp_all [gvWay, up_rd]; done) | grind [gvWay, up_rd, chgTo_rd, chg_rd, settle_rd, bnd_rd], rfl⟩
      · refine j_aload_n h d_Srv_giveWay_44 rfl ?_
        refine j_get1 h d_Srv_giveWay_45 fl_Srv_74 rfl (by assumption) ?_
        refine j_if_eq (tgt := 55) h d_Srv_giveWay_48 (by decide) (fun c8 => ?_) (fun c8 => ?_)
        · refine j_iconst (v := 0) h d_Srv_giveWay_55 (by decide) ?_
          refine j_istore h d_Srv_giveWay_56 (Nat.lt_of_lt_of_eq (m := 5) (by decide) hN.symm) ?_
          refine j_iload_n h d_Srv_giveWay_58 rfl ?_
          refine j_if_ne (tgt := 67) h d_Srv_giveWay_59 (by decide) (fun c9 => absurd c9 (by decide)) (fun c9 => ?_)
          refine j_iload h d_Srv_giveWay_62 rfl ?_
          refine j_if_eq (tgt := 87) h d_Srv_giveWay_64 (by decide) (fun c10 => ?_) (fun c10 => absurd c10 (by decide))
          exact j_vret hX d_Srv_giveWay_87 rfl (Nat.le_refl _) (Nat.le_refl _) ⟨rfl, by clear hX h hl; first | rfl | (simp_all [gvWay]; done) | grind [gvWay], by clear hX h hl; first | rfl | (simp_all [gvWay, up_rd]; done) | grind [gvWay, up_rd, chgTo_rd, chg_rd, settle_rd, bnd_rd], rfl⟩
        · refine j_iconst (v := 1) h d_Srv_giveWay_51 (by decide) ?_
          refine j_goto (tgt := 56) h d_Srv_giveWay_52 (by decide) ?_
          refine j_istore h d_Srv_giveWay_56 (Nat.lt_of_lt_of_eq (m := 5) (by decide) hN.symm) ?_
          refine j_iload_n h d_Srv_giveWay_58 rfl ?_
          refine j_if_ne (tgt := 67) h d_Srv_giveWay_59 (by decide) (fun c11 => absurd c11 (by decide)) (fun c11 => ?_)
          refine j_iload h d_Srv_giveWay_62 rfl ?_
          refine j_if_eq (tgt := 87) h d_Srv_giveWay_64 (by decide) (fun c12 => absurd c12 (by decide)) (fun c12 => ?_)
          refine j_aload_n h d_Srv_giveWay_67 rfl ?_
          refine j_iload_n h d_Srv_giveWay_68 rfl ?_
          refine j_if_eq (tgt := 83) h d_Srv_giveWay_69 (by decide) (fun c13 => ?_) (fun c13 => absurd c13 (by decide))
          refine j_iconst (v := 0) h d_Srv_giveWay_83 (by decide) ?_
          refine j_callV h (c_Rec_settle _ _ _ _ _ _ _ _ _ hr _) d_Srv_giveWay_84 ml_Srv_197 mv_Rec_settle (by assumption) ⟨rfl, rfl⟩ rfl rfl (Nat.le_of_ble_eq_true rfl) (hR_of hX (by decide) (by decide)) (hf_of hX (by decide) (by decide)) ?_
          rintro _ _ _ _ ⟨rfl, rfl, rfl, rfl⟩
          exact j_vret hX d_Srv_giveWay_87 rfl (Nat.le_refl _) (Nat.le_refl _) ⟨rfl, by clear hX h hl; first | rfl | (simp_all [gvWay]; done) | grind [gvWay], by clear hX h hl; first | rfl | (simp_all [gvWay, up_rd]; done) | grind [gvWay, up_rd, chgTo_rd, chg_rd, settle_rd, bnd_rd], rfl⟩
  · refine j_aload_n h d_Srv_giveWay_8 rfl ?_
    refine j_get1 h d_Srv_giveWay_9 fl_Srv_195 rfl (by assumption) ?_
    refine j_aload_n h d_Srv_giveWay_12 rfl ?_
    refine j_get0 h d_Srv_giveWay_13 fl_Srv_39 rfl (by assumption) ?_
    refine j_ic_lt (tgt := 23) h d_Srv_giveWay_16 (by decide) (fun c14 => ?_) (fun c14 => ?_)
    · refine j_iconst (v := 0) h d_Srv_giveWay_23 (by decide) ?_
      refine j_istore_n h d_Srv_giveWay_24 (Nat.lt_of_lt_of_eq (m := 5) (by decide) hN.symm) ?_
      refine j_aload_n h d_Srv_giveWay_25 rfl ?_
      refine j_get0 h d_Srv_giveWay_26 fl_Srv_71 rfl (by assumption) ?_
      refine j_iconst (v := 4) h d_Srv_giveWay_29 (by decide) ?_
      refine j_ic_ne (tgt := 55) h d_Srv_giveWay_30 (by decide) (fun c15 => ?_) (fun c15 => ?_)
      · refine j_iconst (v := 0) h d_Srv_giveWay_55 (by decide) ?_
        refine j_istore h d_Srv_giveWay_56 (Nat.lt_of_lt_of_eq (m := 5) (by decide) hN.symm) ?_
        refine j_iload_n h d_Srv_giveWay_58 rfl ?_
        refine j_if_ne (tgt := 67) h d_Srv_giveWay_59 (by decide) (fun c16 => absurd c16 (by decide)) (fun c16 => ?_)
        refine j_iload h d_Srv_giveWay_62 rfl ?_
        refine j_if_eq (tgt := 87) h d_Srv_giveWay_64 (by decide) (fun c17 => ?_) (fun c17 => absurd c17 (by decide))
        exact j_vret hX d_Srv_giveWay_87 rfl (Nat.le_refl _) (Nat.le_refl _) ⟨rfl, by clear hX h hl; first | rfl | (simp_all [gvWay]; done) | grind [gvWay], by clear hX h hl; first | rfl | (simp_all [gvWay, up_rd]; done) | grind [gvWay, up_rd, chgTo_rd, chg_rd, settle_rd, bnd_rd], rfl⟩
      · refine j_aload_n h d_Srv_giveWay_33 rfl ?_
        refine j_get1 h d_Srv_giveWay_34 fl_Srv_196 rfl (by assumption) ?_
        refine j_aload_n h d_Srv_giveWay_37 rfl ?_
        refine j_get0 h d_Srv_giveWay_38 fl_Srv_126 rfl (by assumption) ?_
        refine j_ic_ne (tgt := 55) h d_Srv_giveWay_41 (by decide) (fun c18 => ?_) (fun c18 => ?_)
        · refine j_iconst (v := 0) h d_Srv_giveWay_55 (by decide) ?_
          refine j_istore h d_Srv_giveWay_56 (Nat.lt_of_lt_of_eq (m := 5) (by decide) hN.symm) ?_
          refine j_iload_n h d_Srv_giveWay_58 rfl ?_
          refine j_if_ne (tgt := 67) h d_Srv_giveWay_59 (by decide) (fun c19 => absurd c19 (by decide)) (fun c19 => ?_)
          refine j_iload h d_Srv_giveWay_62 rfl ?_
          refine j_if_eq (tgt := 87) h d_Srv_giveWay_64 (by decide) (fun c20 => ?_) (fun c20 => absurd c20 (by decide))
          exact j_vret hX d_Srv_giveWay_87 rfl (Nat.le_refl _) (Nat.le_refl _) ⟨rfl, by clear hX h hl; first | rfl | (simp_all [gvWay]; done) | grind [gvWay], by clear hX h hl; first | rfl | (simp_all [gvWay, up_rd]; done) | grind [gvWay, up_rd, chgTo_rd, chg_rd, settle_rd, bnd_rd], rfl⟩
        · refine j_aload_n h d_Srv_giveWay_44 rfl ?_
          refine j_get1 h d_Srv_giveWay_45 fl_Srv_74 rfl (by assumption) ?_
          refine j_if_eq (tgt := 55) h d_Srv_giveWay_48 (by decide) (fun c21 => ?_) (fun c21 => ?_)
          · refine j_iconst (v := 0) h d_Srv_giveWay_55 (by decide) ?_
            refine j_istore h d_Srv_giveWay_56 (Nat.lt_of_lt_of_eq (m := 5) (by decide) hN.symm) ?_
            refine j_iload_n h d_Srv_giveWay_58 rfl ?_
            refine j_if_ne (tgt := 67) h d_Srv_giveWay_59 (by decide) (fun c22 => absurd c22 (by decide)) (fun c22 => ?_)
            refine j_iload h d_Srv_giveWay_62 rfl ?_
            refine j_if_eq (tgt := 87) h d_Srv_giveWay_64 (by decide) (fun c23 => ?_) (fun c23 => absurd c23 (by decide))
            exact j_vret hX d_Srv_giveWay_87 rfl (Nat.le_refl _) (Nat.le_refl _) ⟨rfl, by clear hX h hl; first | rfl | (simp_all [gvWay]; done) | grind [gvWay], by clear hX h hl; first | rfl | (simp_all [gvWay, up_rd]; done) | grind [gvWay, up_rd, chgTo_rd, chg_rd, settle_rd, bnd_rd], rfl⟩
          · refine j_iconst (v := 1) h d_Srv_giveWay_51 (by decide) ?_
            refine j_goto (tgt := 56) h d_Srv_giveWay_52 (by decide) ?_
            refine j_istore h d_Srv_giveWay_56 (Nat.lt_of_lt_of_eq (m := 5) (by decide) hN.symm) ?_
            refine j_iload_n h d_Srv_giveWay_58 rfl ?_
            refine j_if_ne (tgt := 67) h d_Srv_giveWay_59 (by decide) (fun c24 => absurd c24 (by decide)) (fun c24 => ?_)
            refine j_iload h d_Srv_giveWay_62 rfl ?_
            refine j_if_eq (tgt := 87) h d_Srv_giveWay_64 (by decide) (fun c25 => absurd c25 (by decide)) (fun c25 => ?_)
            refine j_aload_n h d_Srv_giveWay_67 rfl ?_
            refine j_iload_n h d_Srv_giveWay_68 rfl ?_
            refine j_if_eq (tgt := 83) h d_Srv_giveWay_69 (by decide) (fun c26 => ?_) (fun c26 => absurd c26 (by decide))
            refine j_iconst (v := 0) h d_Srv_giveWay_83 (by decide) ?_
            refine j_callV h (c_Rec_settle _ _ _ _ _ _ _ _ _ hr _) d_Srv_giveWay_84 ml_Srv_197 mv_Rec_settle (by assumption) ⟨rfl, rfl⟩ rfl rfl (Nat.le_of_ble_eq_true rfl) (hR_of hX (by decide) (by decide)) (hf_of hX (by decide) (by decide)) ?_
            rintro _ _ _ _ ⟨rfl, rfl, rfl, rfl⟩
            exact j_vret hX d_Srv_giveWay_87 rfl (Nat.le_refl _) (Nat.le_refl _) ⟨rfl, by clear hX h hl; first | rfl | (simp_all [gvWay]; done) | grind [gvWay], by clear hX h hl; first | rfl | (simp_all [gvWay, up_rd]; done) | grind [gvWay, up_rd, chgTo_rd, chg_rd, settle_rd, bnd_rd], rfl⟩
    · refine j_iconst (v := 1) h d_Srv_giveWay_19 (by decide) ?_
      refine j_goto (tgt := 24) h d_Srv_giveWay_20 (by decide) ?_
      refine j_istore_n h d_Srv_giveWay_24 (Nat.lt_of_lt_of_eq (m := 5) (by decide) hN.symm) ?_
      refine j_aload_n h d_Srv_giveWay_25 rfl ?_
      refine j_get0 h d_Srv_giveWay_26 fl_Srv_71 rfl (by assumption) ?_
      refine j_iconst (v := 4) h d_Srv_giveWay_29 (by decide) ?_
      refine j_ic_ne (tgt := 55) h d_Srv_giveWay_30 (by decide) (fun c27 => ?_) (fun c27 => ?_)
      · refine j_iconst (v := 0) h d_Srv_giveWay_55 (by decide) ?_
        refine j_istore h d_Srv_giveWay_56 (Nat.lt_of_lt_of_eq (m := 5) (by decide) hN.symm) ?_
        refine j_iload_n h d_Srv_giveWay_58 rfl ?_
        refine j_if_ne (tgt := 67) h d_Srv_giveWay_59 (by decide) (fun c28 => ?_) (fun c28 => absurd c28 (by decide))
        refine j_aload_n h d_Srv_giveWay_67 rfl ?_
        refine j_iload_n h d_Srv_giveWay_68 rfl ?_
        refine j_if_eq (tgt := 83) h d_Srv_giveWay_69 (by decide) (fun c29 => absurd c29 (by decide)) (fun c29 => ?_)
        refine j_aload_n h d_Srv_giveWay_72 rfl ?_
        refine j_get1 h d_Srv_giveWay_73 fl_Srv_74 rfl (by assumption) ?_
        refine j_if_ne (tgt := 83) h d_Srv_giveWay_76 (by decide) (fun c30 => ?_) (fun c30 => ?_)
        · refine j_iconst (v := 0) h d_Srv_giveWay_83 (by decide) ?_
          refine j_callV h (c_Rec_settle _ _ _ _ _ _ _ _ _ hr _) d_Srv_giveWay_84 ml_Srv_197 mv_Rec_settle (by assumption) ⟨rfl, rfl⟩ rfl rfl (Nat.le_of_ble_eq_true rfl) (hR_of hX (by decide) (by decide)) (hf_of hX (by decide) (by decide)) ?_
          rintro _ _ _ _ ⟨rfl, rfl, rfl, rfl⟩
          exact j_vret hX d_Srv_giveWay_87 rfl (Nat.le_refl _) (Nat.le_refl _) ⟨rfl, by clear hX h hl; first | rfl | (simp_all [gvWay]; done) | grind [gvWay], by clear hX h hl; first | rfl | (simp_all [gvWay, up_rd]; done) | grind [gvWay, up_rd, chgTo_rd, chg_rd, settle_rd, bnd_rd], rfl⟩
        · refine j_iconst (v := 1) h d_Srv_giveWay_79 (by decide) ?_
          refine j_goto (tgt := 84) h d_Srv_giveWay_80 (by decide) ?_
          refine j_callV h (c_Rec_settle _ _ _ _ _ _ _ _ _ hr _) d_Srv_giveWay_84 ml_Srv_197 mv_Rec_settle (by assumption) ⟨rfl, rfl⟩ rfl rfl (Nat.le_of_ble_eq_true rfl) (hR_of hX (by decide) (by decide)) (hf_of hX (by decide) (by decide)) ?_
          rintro _ _ _ _ ⟨rfl, rfl, rfl, rfl⟩
          exact j_vret hX d_Srv_giveWay_87 rfl (Nat.le_refl _) (Nat.le_refl _) ⟨rfl, by clear hX h hl; first | rfl | (simp_all [gvWay]; done) | grind [gvWay], by clear hX h hl; first | rfl | (simp_all [gvWay, up_rd]; done) | grind [gvWay, up_rd, chgTo_rd, chg_rd, settle_rd, bnd_rd], rfl⟩
      · refine j_aload_n h d_Srv_giveWay_33 rfl ?_
        refine j_get1 h d_Srv_giveWay_34 fl_Srv_196 rfl (by assumption) ?_
        refine j_aload_n h d_Srv_giveWay_37 rfl ?_
        refine j_get0 h d_Srv_giveWay_38 fl_Srv_126 rfl (by assumption) ?_
        refine j_ic_ne (tgt := 55) h d_Srv_giveWay_41 (by decide) (fun c31 => ?_) (fun c31 => ?_)
        · refine j_iconst (v := 0) h d_Srv_giveWay_55 (by decide) ?_
          refine j_istore h d_Srv_giveWay_56 (Nat.lt_of_lt_of_eq (m := 5) (by decide) hN.symm) ?_
          refine j_iload_n h d_Srv_giveWay_58 rfl ?_
          refine j_if_ne (tgt := 67) h d_Srv_giveWay_59 (by decide) (fun c32 => ?_) (fun c32 => absurd c32 (by decide))
          refine j_aload_n h d_Srv_giveWay_67 rfl ?_
          refine j_iload_n h d_Srv_giveWay_68 rfl ?_
          refine j_if_eq (tgt := 83) h d_Srv_giveWay_69 (by decide) (fun c33 => absurd c33 (by decide)) (fun c33 => ?_)
          refine j_aload_n h d_Srv_giveWay_72 rfl ?_
          refine j_get1 h d_Srv_giveWay_73 fl_Srv_74 rfl (by assumption) ?_
          refine j_if_ne (tgt := 83) h d_Srv_giveWay_76 (by decide) (fun c34 => ?_) (fun c34 => ?_)
          · refine j_iconst (v := 0) h d_Srv_giveWay_83 (by decide) ?_
            refine j_callV h (c_Rec_settle _ _ _ _ _ _ _ _ _ hr _) d_Srv_giveWay_84 ml_Srv_197 mv_Rec_settle (by assumption) ⟨rfl, rfl⟩ rfl rfl (Nat.le_of_ble_eq_true rfl) (hR_of hX (by decide) (by decide)) (hf_of hX (by decide) (by decide)) ?_
            rintro _ _ _ _ ⟨rfl, rfl, rfl, rfl⟩
            exact j_vret hX d_Srv_giveWay_87 rfl (Nat.le_refl _) (Nat.le_refl _) ⟨rfl, by clear hX h hl; first | rfl | (simp_all [gvWay]; done) | grind [gvWay], by clear hX h hl; first | rfl | (simp_all [gvWay, up_rd]; done) | grind [gvWay, up_rd, chgTo_rd, chg_rd, settle_rd, bnd_rd], rfl⟩
          · refine j_iconst (v := 1) h d_Srv_giveWay_79 (by decide) ?_
            refine j_goto (tgt := 84) h d_Srv_giveWay_80 (by decide) ?_
            refine j_callV h (c_Rec_settle _ _ _ _ _ _ _ _ _ hr _) d_Srv_giveWay_84 ml_Srv_197 mv_Rec_settle (by assumption) ⟨rfl, rfl⟩ rfl rfl (Nat.le_of_ble_eq_true rfl) (hR_of hX (by decide) (by decide)) (hf_of hX (by decide) (by decide)) ?_
            rintro _ _ _ _ ⟨rfl, rfl, rfl, rfl⟩
            exact j_vret hX d_Srv_giveWay_87 rfl (Nat.le_refl _) (Nat.le_refl _) ⟨rfl, by clear hX h hl; first | rfl | (simp_all [gvWay]; done) | grind [gvWay], by clear hX h hl; first | rfl | (simp_all [gvWay, up_rd]; done) | grind [gvWay, up_rd, chgTo_rd, chg_rd, settle_rd, bnd_rd], rfl⟩
        · refine j_aload_n h d_Srv_giveWay_44 rfl ?_
          refine j_get1 h d_Srv_giveWay_45 fl_Srv_74 rfl (by assumption) ?_
          refine j_if_eq (tgt := 55) h d_Srv_giveWay_48 (by decide) (fun c35 => ?_) (fun c35 => ?_)
          · refine j_iconst (v := 0) h d_Srv_giveWay_55 (by decide) ?_
            refine j_istore h d_Srv_giveWay_56 (Nat.lt_of_lt_of_eq (m := 5) (by decide) hN.symm) ?_
            refine j_iload_n h d_Srv_giveWay_58 rfl ?_
            refine j_if_ne (tgt := 67) h d_Srv_giveWay_59 (by decide) (fun c36 => ?_) (fun c36 => absurd c36 (by decide))
            refine j_aload_n h d_Srv_giveWay_67 rfl ?_
            refine j_iload_n h d_Srv_giveWay_68 rfl ?_
            refine j_if_eq (tgt := 83) h d_Srv_giveWay_69 (by decide) (fun c37 => absurd c37 (by decide)) (fun c37 => ?_)
            refine j_aload_n h d_Srv_giveWay_72 rfl ?_
            refine j_get1 h d_Srv_giveWay_73 fl_Srv_74 rfl (by assumption) ?_
            refine j_if_ne (tgt := 83) h d_Srv_giveWay_76 (by decide) (fun c38 => ?_) (fun c38 => ?_)
            · refine j_iconst (v := 0) h d_Srv_giveWay_83 (by decide) ?_
              refine j_callV h (c_Rec_settle _ _ _ _ _ _ _ _ _ hr _) d_Srv_giveWay_84 ml_Srv_197 mv_Rec_settle (by assumption) ⟨rfl, rfl⟩ rfl rfl (Nat.le_of_ble_eq_true rfl) (hR_of hX (by decide) (by decide)) (hf_of hX (by decide) (by decide)) ?_
              rintro _ _ _ _ ⟨rfl, rfl, rfl, rfl⟩
              exact j_vret hX d_Srv_giveWay_87 rfl (Nat.le_refl _) (Nat.le_refl _) ⟨rfl, by clear hX h hl; first | rfl | (simp_all [gvWay]; done) | grind [gvWay], by clear hX h hl; first | rfl | (simp_all [gvWay, up_rd]; done) | grind [gvWay, up_rd, chgTo_rd, chg_rd, settle_rd, bnd_rd], rfl⟩
            · refine j_iconst (v := 1) h d_Srv_giveWay_79 (by decide) ?_
              refine j_goto (tgt := 84) h d_Srv_giveWay_80 (by decide) ?_
              refine j_callV h (c_Rec_settle _ _ _ _ _ _ _ _ _ hr _) d_Srv_giveWay_84 ml_Srv_197 mv_Rec_settle (by assumption) ⟨rfl, rfl⟩ rfl rfl (Nat.le_of_ble_eq_true rfl) (hR_of hX (by decide) (by decide)) (hf_of hX (by decide) (by decide)) ?_
              rintro _ _ _ _ ⟨rfl, rfl, rfl, rfl⟩
              exact j_vret hX d_Srv_giveWay_87 rfl (Nat.le_refl _) (Nat.le_refl _) ⟨rfl, by clear hX h hl; first | rfl | (simp_all [gvWay]; done) | grind [gvWay], by clear hX h hl; first | rfl | (simp_all [gvWay, up_rd]; done) | grind [gvWay, up_rd, chgTo_rd, chg_rd, settle_rd, bnd_rd], rfl⟩
          · refine j_iconst (v := 1) h d_Srv_giveWay_51 (by decide) ?_
            refine j_goto (tgt := 56) h d_Srv_giveWay_52 (by decide) ?_
            refine j_istore h d_Srv_giveWay_56 (Nat.lt_of_lt_of_eq (m := 5) (by decide) hN.symm) ?_
            refine j_iload_n h d_Srv_giveWay_58 rfl ?_
            refine j_if_ne (tgt := 67) h d_Srv_giveWay_59 (by decide) (fun c39 => ?_) (fun c39 => absurd c39 (by decide))
            refine j_aload_n h d_Srv_giveWay_67 rfl ?_
            refine j_iload_n h d_Srv_giveWay_68 rfl ?_
            refine j_if_eq (tgt := 83) h d_Srv_giveWay_69 (by decide) (fun c40 => absurd c40 (by decide)) (fun c40 => ?_)
            refine j_aload_n h d_Srv_giveWay_72 rfl ?_
            refine j_get1 h d_Srv_giveWay_73 fl_Srv_74 rfl (by assumption) ?_
            refine j_if_ne (tgt := 83) h d_Srv_giveWay_76 (by decide) (fun c41 => ?_) (fun c41 => ?_)
            · refine j_iconst (v := 0) h d_Srv_giveWay_83 (by decide) ?_
              refine j_callV h (c_Rec_settle _ _ _ _ _ _ _ _ _ hr _) d_Srv_giveWay_84 ml_Srv_197 mv_Rec_settle (by assumption) ⟨rfl, rfl⟩ rfl rfl (Nat.le_of_ble_eq_true rfl) (hR_of hX (by decide) (by decide)) (hf_of hX (by decide) (by decide)) ?_
              rintro _ _ _ _ ⟨rfl, rfl, rfl, rfl⟩
              exact j_vret hX d_Srv_giveWay_87 rfl (Nat.le_refl _) (Nat.le_refl _) ⟨rfl, by clear hX h hl; first | rfl | (simp_all [gvWay]; done) | grind [gvWay], by clear hX h hl; first | rfl | (simp_all [gvWay, up_rd]; done) | grind [gvWay, up_rd, chgTo_rd, chg_rd, settle_rd, bnd_rd], rfl⟩
            · refine j_iconst (v := 1) h d_Srv_giveWay_79 (by decide) ?_
              refine j_goto (tgt := 84) h d_Srv_giveWay_80 (by decide) ?_
              refine j_callV h (c_Rec_settle _ _ _ _ _ _ _ _ _ hr _) d_Srv_giveWay_84 ml_Srv_197 mv_Rec_settle (by assumption) ⟨rfl, rfl⟩ rfl rfl (Nat.le_of_ble_eq_true rfl) (hR_of hX (by decide) (by decide)) (hf_of hX (by decide) (by decide)) ?_
              rintro _ _ _ _ ⟨rfl, rfl, rfl, rfl⟩
              exact j_vret hX d_Srv_giveWay_87 rfl (Nat.le_refl _) (Nat.le_refl _) ⟨rfl, by clear hX h hl; first | rfl | (simp_all [gvWay]; done) | grind [gvWay], by clear hX h hl; first | rfl | (simp_all [gvWay, up_rd]; done) | grind [gvWay, up_rd, chgTo_rd, chg_rd, settle_rd, bnd_rd], rfl⟩
theorem d_Srv_recover_0 : decode b_Srv_recover 0 = .ok (.aload_n 0, 1) := by decide +kernel
theorem d_Srv_recover_1 : decode b_Srv_recover 1 = .ok (.getfield 33, 3) := by decide +kernel
theorem d_Srv_recover_4 : decode b_Srv_recover 4 = .ok (.iconst 1, 1) := by decide +kernel
theorem d_Srv_recover_5 : decode b_Srv_recover 5 = .ok (.if_icmp .ne 10, 3) := by decide +kernel
theorem d_Srv_recover_8 : decode b_Srv_recover 8 = .ok (.aload_n 0, 1) := by decide +kernel
theorem d_Srv_recover_9 : decode b_Srv_recover 9 = .ok (.invokevirtual 200, 3) := by decide +kernel
theorem d_Srv_recover_12 : decode b_Srv_recover 12 = .ok (.ifCond .ne 5, 3) := by decide +kernel
theorem d_Srv_recover_15 : decode b_Srv_recover 15 = .ok (.iconst 0, 1) := by decide +kernel
theorem d_Srv_recover_16 : decode b_Srv_recover 16 = .ok (.ireturn, 1) := by decide +kernel
theorem d_Srv_recover_17 : decode b_Srv_recover 17 = .ok (.aload_n 0, 1) := by decide +kernel
theorem d_Srv_recover_18 : decode b_Srv_recover 18 = .ok (.iconst 2, 1) := by decide +kernel
theorem d_Srv_recover_19 : decode b_Srv_recover 19 = .ok (.putfield 33, 3) := by decide +kernel
theorem d_Srv_recover_22 : decode b_Srv_recover 22 = .ok (.aload_n 0, 1) := by decide +kernel
theorem d_Srv_recover_23 : decode b_Srv_recover 23 = .ok (.aload_n 0, 1) := by decide +kernel
theorem d_Srv_recover_24 : decode b_Srv_recover 24 = .ok (.getfield 36, 3) := by decide +kernel
theorem d_Srv_recover_27 : decode b_Srv_recover 27 = .ok (.putfield 39, 3) := by decide +kernel
theorem d_Srv_recover_30 : decode b_Srv_recover 30 = .ok (.iconst 1, 1) := by decide +kernel
theorem d_Srv_recover_31 : decode b_Srv_recover 31 = .ok (.ireturn, 1) := by decide +kernel
set_option maxRecDepth 100000 in
set_option maxHeartbeats 4000000 in
theorem c_Srv_recover (l : Launch) (K : Kx) (V : Vx) (A B C D : MI) (P : MP) (n : Nat) (cs : CS K V P n) (s : Nat) (hs : s < 2) : Ct l K md_Srv_recover (1, 21) 0 0 [.ref (K.ad 1 s)] V (bk4 A B C D) P (EQ V (some (.int (b01 (A 0 s = 1 ∧ ¬ allF A s n 0 = 0)))) (bk4 (if A 0 s = 1 ∧ ¬ allF A s n 0 = 0 then up (up A 0 s 2) 3 s (A 2 s) else A) B C D) P) := by
  refine ct_of [(0, .ref (K.ad 1 s))] (by decide) (Nat.le_of_ble_eq_true rfl) (ca_r ca_n) rfl ?_
  intro X hl hX
  have h : OkX X b_Srv_recover R_Srv K := hX.1
  have hN : X.nL = 1 := hX.2.1
  have hsv := cs_sv cs hs
  refine j_aload_n h d_Srv_recover_0 rfl ?_
  refine j_get0 h d_Srv_recover_1 fl_Srv_33 rfl (by assumption) ?_
  refine j_iconst (v := 1) h d_Srv_recover_4 (by decide) ?_
  refine j_ic_ne (tgt := 15) h d_Srv_recover_5 (by decide) (fun c1 => ?_) (fun c1 => ?_)
  · refine j_iconst (v := 0) h d_Srv_recover_15 (by decide) ?_
    exact j_zret hX d_Srv_recover_16 rfl (by first | exact Or.inl rfl | exact Or.inr rfl | exact b01_z _ | assumption | exact tkB_z _ _ _ _ _ | exact tkE_z _ _ _ _ _ _ _ _ | exact tkG_z _ _ | exact enS_z _ _ _ | exact enO_z _ _ _ _ _ _) (Nat.le_refl _) (Nat.le_refl _) ⟨rfl, by clear hX h hl; first | rfl | (simp_all [b01]; done) | grind [b01], by clear hX h hl; first | rfl | (simp_all [b01, up_rd]; done) | grind [b01, up_rd, chgTo_rd, chg_rd, settle_rd, bnd_rd], rfl⟩
  · refine j_aload_n h d_Srv_recover_8 rfl ?_
    refine j_callV h (c_Srv_allFresh _ _ _ _ _ _ _ _ _ cs _ hs) d_Srv_recover_9 ml_Srv_200 mv_Srv_allFresh (by assumption) ⟨rfl, rfl⟩ rfl rfl (Nat.le_of_ble_eq_true rfl) (hR_of hX (by decide) (by decide)) (hf_of hX (by decide) (by decide)) ?_
    rintro _ _ _ _ ⟨rfl, rfl, rfl, rfl⟩
    refine j_if_ne (tgt := 17) h d_Srv_recover_12 (by decide) (fun c2 => ?_) (fun c2 => ?_)
    · refine j_aload_n h d_Srv_recover_17 rfl ?_
      refine j_iconst (v := 2) h d_Srv_recover_18 (by decide) ?_
      refine j_put0 h d_Srv_recover_19 fw_Srv_33 rfl rfl (by assumption) ?_
      refine j_aload_n h d_Srv_recover_22 rfl ?_
      refine j_aload_n h d_Srv_recover_23 rfl ?_
      refine j_get0 h d_Srv_recover_24 fl_Srv_36 rfl (by assumption) ?_
      refine j_put0 h d_Srv_recover_27 fw_Srv_39 rfl rfl (by assumption) ?_
      refine j_iconst (v := 1) h d_Srv_recover_30 (by decide) ?_
      exact j_zret hX d_Srv_recover_31 rfl (by first | exact Or.inl rfl | exact Or.inr rfl | exact b01_z _ | assumption | exact tkB_z _ _ _ _ _ | exact tkE_z _ _ _ _ _ _ _ _ | exact tkG_z _ _ | exact enS_z _ _ _ | exact enO_z _ _ _ _ _ _) (Nat.le_refl _) (Nat.le_refl _) ⟨rfl, by clear hX h hl; first | rfl | (simp_all [b01]; done) | grind [b01], by clear hX h hl; first | rfl | (simp_all [b01, up_rd]; done) | grind [b01, up_rd, chgTo_rd, chg_rd, settle_rd, bnd_rd], rfl⟩
    · refine j_iconst (v := 0) h d_Srv_recover_15 (by decide) ?_
      exact j_zret hX d_Srv_recover_16 rfl (by first | exact Or.inl rfl | exact Or.inr rfl | exact b01_z _ | assumption | exact tkB_z _ _ _ _ _ | exact tkE_z _ _ _ _ _ _ _ _ | exact tkG_z _ _ | exact enS_z _ _ _ | exact enO_z _ _ _ _ _ _) (Nat.le_refl _) (Nat.le_refl _) ⟨rfl, by clear hX h hl; first | rfl | (simp_all [b01]; done) | grind [b01], by clear hX h hl; first | rfl | (simp_all [b01, up_rd]; done) | grind [b01, up_rd, chgTo_rd, chg_rd, settle_rd, bnd_rd], rfl⟩
end
section
/-! .. and those that hear -/
def hndR (s : Nat) (m : Int32) : Nat → Nat → Int32 → MI → Int32 × MI
  | 0, _, g, A => (g, A)
  | k + 1, i, g, A => if m ≤ g then (g, A) else if A 10 (32 * s + i) = 1 then hndR s m k (i + 1) (g + 1) (chgTo A (32 * s + i) 4) else hndR s m k (i + 1) g A
def wrIf (c : Int32) (A : MI) (s : Nat) : MI := if c ≤ 0 then A else wr A s
def enOne (A : MI) (r s : Nat) (ld sk t : Int32) : Int32 × MI := if A 0 s = 2 then endT A r t else enAlone A r s ld sk t
def endR (s : Nat) (ld sk t : Int32) : Nat → Nat → Int32 → MI → Int32 × MI
  | 0, _, g, A => (g, A)
  | k + 1, i, g, A => endR s ld sk t k (i + 1) (if (enOne A (32 * s + i) s ld sk t).1 = 0 then g else g + 1) (enOne A (32 * s + i) s ld sk t).2
noncomputable def tkIn (A : MI) (r s : Nat) (num t k c e rq rel vd sn : Int32) : Int32 × MI :=
  if k = 2 then tkBound (gvWay A r s k vd sn) r c e rq
  else if k = 3 then tkEnding (gvWay A r s k vd sn) r c e t rel rq (b01 (num = 1))
  else if k = 4 then tkGiven (gvWay A r s k vd sn) r
  else if k = 1 then (b01 (gvWay A r s k vd sn 10 r = 0), gvWay A r s k vd sn)
  else (1, gvWay A r s k vd sn)
def hrAck (A : MI) (r s : Nat) (num amt ep ov : Int32) : MI :=
  if ¬ A 20 r < ep then A
  else if ¬ (lnKnown A r num amt).1 = 0 ∨ ¬ (lnAck (lnKnown A r num amt).2 r num ov).1 = 0 then wr (lnAck (lnKnown A r num amt).2 r num ov).2 s
  else (lnAck (lnKnown A r num amt).2 r num ov).2
def hrRel (A : MI) (r s : Nat) (c num : Int32) : MI :=
  if (A 10 r = 2 ∧ A 11 r = c) ∧ A 13 r ≤ num then wr (chgTo (up (up A 13 r num) 14 r 1) r (if A 0 s = 3 ∧ ¬ A 21 r = 0 then 1 else 3)) s else A
def lsNew (A : MI) (r s : Nat) (ld t c amt num : Int32) : MI :=
  if A 0 s = 2 then bnd (chg A r) r c (ls_ (t + amt) (t + ld)) num (A 15 r + 1)
  else bnd (chg (up A 21 r 1) r) r c (t + amt) num (A 15 r + 1)
def rnw (A : MI) (r s a : Nat) (ld t c amt num : Int32) : Int32 × MI :=
  if ¬ (A 10 r = 2 ∧ A 11 r = c) then (-1, A)
  else if ¬ A 13 r ≤ num then (-2, A)
  else if ¬ t < A 12 r then (-1, A)
  else (nI a, chg (up (up A 13 r num) 12 r (gr (A 12 r) (if A 0 s = 2 then ls_ (t + amt) (gr (A 18 r) t + ld) else t + amt))) r)
theorem lstOwn_c (A : MI) (s : Nat) : ∀ k i, lstOwn A s k i = -1 ∨ ∃ a, a < i + k ∧ lstOwn A s k i = nI a ∧ A 10 (32 * s + a) = 1
  | 0, _ => Or.inl rfl
  | k + 1, i => by
    unfold lstOwn
    split
    · exact Or.inr ⟨i, by omega, rfl, by assumption⟩
    · rcases lstOwn_c A s k (i + 1) with h | ⟨a, h1, h2, h3⟩
      · exact Or.inl h
      · exact Or.inr ⟨a, by omega, h2, h3⟩
theorem lsdTo_c (A : MI) (s : Nat) (c t : Int32) : ∀ k i, lsdTo A s c t k i = -1 ∨ ∃ a, a < i + k ∧ lsdTo A s c t k i = nI a
  | 0, _ => Or.inl rfl
  | k + 1, i => by
    unfold lsdTo
    split
    · exact Or.inr ⟨i, by omega, rfl⟩
    · rcases lsdTo_c A s c t k (i + 1) with h | ⟨a, h1, h2⟩
      · exact Or.inl h
      · exact Or.inr ⟨a, by omega, h2⟩
theorem nI_m1 {a : Nat} (h : a < 2 ^ 31) : ¬ nI a = -1 := by
  intro q
  have := nI_toInt h
  rw [q] at this
  simp at this
theorem d_Srv_handOver_0 : decode b_Srv_handOver 0 = .ok (.iconst 0, 1) := by decide +kernel
theorem d_Srv_handOver_1 : decode b_Srv_handOver 1 = .ok (.istore_n 2, 1) := by decide +kernel
theorem d_Srv_handOver_2 : decode b_Srv_handOver 2 = .ok (.iconst 0, 1) := by decide +kernel
theorem d_Srv_handOver_3 : decode b_Srv_handOver 3 = .ok (.istore_n 3, 1) := by decide +kernel
theorem d_Srv_handOver_4 : decode b_Srv_handOver 4 = .ok (.iload_n 3, 1) := by decide +kernel
theorem d_Srv_handOver_5 : decode b_Srv_handOver 5 = .ok (.aload_n 0, 1) := by decide +kernel
theorem d_Srv_handOver_6 : decode b_Srv_handOver 6 = .ok (.getfield 26, 3) := by decide +kernel
theorem d_Srv_handOver_9 : decode b_Srv_handOver 9 = .ok (.arraylength, 1) := by decide +kernel
theorem d_Srv_handOver_10 : decode b_Srv_handOver 10 = .ok (.if_icmp .ge 40, 3) := by decide +kernel
theorem d_Srv_handOver_13 : decode b_Srv_handOver 13 = .ok (.iload_n 2, 1) := by decide +kernel
theorem d_Srv_handOver_14 : decode b_Srv_handOver 14 = .ok (.iload_n 1, 1) := by decide +kernel
theorem d_Srv_handOver_15 : decode b_Srv_handOver 15 = .ok (.if_icmp .ge 35, 3) := by decide +kernel
theorem d_Srv_handOver_18 : decode b_Srv_handOver 18 = .ok (.aload_n 0, 1) := by decide +kernel
theorem d_Srv_handOver_19 : decode b_Srv_handOver 19 = .ok (.getfield 26, 3) := by decide +kernel
theorem d_Srv_handOver_22 : decode b_Srv_handOver 22 = .ok (.iload_n 3, 1) := by decide +kernel
theorem d_Srv_handOver_23 : decode b_Srv_handOver 23 = .ok (.aaload, 1) := by decide +kernel
theorem d_Srv_handOver_24 : decode b_Srv_handOver 24 = .ok (.getfield 71, 3) := by decide +kernel
theorem d_Srv_handOver_27 : decode b_Srv_handOver 27 = .ok (.iconst 1, 1) := by decide +kernel
theorem d_Srv_handOver_28 : decode b_Srv_handOver 28 = .ok (.if_icmp .ne 16, 3) := by decide +kernel
theorem d_Srv_handOver_31 : decode b_Srv_handOver 31 = .ok (.aload_n 0, 1) := by decide +kernel
theorem d_Srv_handOver_32 : decode b_Srv_handOver 32 = .ok (.getfield 26, 3) := by decide +kernel
theorem d_Srv_handOver_35 : decode b_Srv_handOver 35 = .ok (.iload_n 3, 1) := by decide +kernel
theorem d_Srv_handOver_36 : decode b_Srv_handOver 36 = .ok (.aaload, 1) := by decide +kernel
theorem d_Srv_handOver_37 : decode b_Srv_handOver 37 = .ok (.iconst 4, 1) := by decide +kernel
theorem d_Srv_handOver_38 : decode b_Srv_handOver 38 = .ok (.invokevirtual 151, 3) := by decide +kernel
theorem d_Srv_handOver_41 : decode b_Srv_handOver 41 = .ok (.iinc 2 1, 3) := by decide +kernel
theorem d_Srv_handOver_44 : decode b_Srv_handOver 44 = .ok (.iinc 3 1, 3) := by decide +kernel
theorem d_Srv_handOver_47 : decode b_Srv_handOver 47 = .ok (.goto (-43), 3) := by decide +kernel
theorem d_Srv_handOver_50 : decode b_Srv_handOver 50 = .ok (.iload_n 2, 1) := by decide +kernel
theorem d_Srv_handOver_51 : decode b_Srv_handOver 51 = .ok (.ifCond .le 7, 3) := by decide +kernel
theorem d_Srv_handOver_54 : decode b_Srv_handOver 54 = .ok (.aload_n 0, 1) := by decide +kernel
theorem d_Srv_handOver_55 : decode b_Srv_handOver 55 = .ok (.invokevirtual 65, 3) := by decide +kernel
theorem d_Srv_handOver_58 : decode b_Srv_handOver 58 = .ok (.iload_n 2, 1) := by decide +kernel
theorem d_Srv_handOver_59 : decode b_Srv_handOver 59 = .ok (.ireturn, 1) := by decide +kernel
set_option maxRecDepth 100000 in
set_option maxHeartbeats 4000000 in
theorem c_Srv_handOver (l : Launch) (K : Kx) (V : Vx) (A B C D : MI) (P : MP) (n : Nat) (cs : CS K V P n) (s : Nat) (hs : s < 2) (m : Int32) : Ct l K md_Srv_handOver (2, 41) 0 0 [.ref (K.ad 1 s), .int m] V (bk4 A B C D) P (EQ V (some (.int (hndR s m n 0 0 A).1)) (bk4 (wrIf (hndR s m n 0 0 A).1 (hndR s m n 0 0 A).2 s) B C D) P) := by
  refine ct_of [(0, .ref (K.ad 1 s)), (1, .int m)] (by decide) (Nat.le_of_ble_eq_true rfl) (ca_r (ca_i ca_n)) rfl ?_
  intro X hl hX
  have h : OkX X b_Srv_handOver R_Srv K := hX.1
  have hN : X.nL = 4 := hX.2.1
  have hsv := cs_sv cs hs
  have hL : ∀ (k i : Nat) (g : Int32) (A1 : MI), i + k = n → hndR s m n 0 0 A = hndR s m k i g A1 → J X K V (bk4 A1 B C D) P 0 0 4 [(0, .ref (K.ad 1 s)), (1, .int m), (2, .int g), (3, .int (nI i))] [] := by
    intro k
    induction k with
    | zero =>
      intro i g A1 hi hv
      have hi2 : i = n := by omega
      subst hi2
      refine j_iload_n h d_Srv_handOver_4 rfl ?_
      refine j_aload_n h d_Srv_handOver_5 rfl ?_
      refine j_getR h d_Srv_handOver_6 fl_Srv_26 rfl (by assumption) (cs_rp cs hs) ?_
      refine j_recl h cs hs d_Srv_handOver_9 ?_
      refine j_ic_ge (tgt := 50) h d_Srv_handOver_10 (by decide) (fun _ => ?_) (fun c => absurd (nI_le (Nat.le_refl _) (cs_n31 cs)) c)
      refine j_iload_n h d_Srv_handOver_50 rfl ?_
      refine j_if_le (tgt := 58) h d_Srv_handOver_51 (by decide) (fun c1 => ?_) (fun c1 => ?_)
      · refine j_iload_n h d_Srv_handOver_58 rfl ?_
        exact j_iret hX d_Srv_handOver_59 rfl (Nat.le_refl _) (Nat.le_refl _) ⟨rfl, by rw [hv]; clear hX h hl; first | rfl | simp_all [hndR], by rw [hv]; clear hX h hl; first | (simp_all [hndR, wrIf]; done) | grind [hndR, wrIf], rfl⟩
      · refine j_aload_n h d_Srv_handOver_54 rfl ?_
        refine j_callV h (c_Srv_write _ _ _ _ _ _ _ _ _ hsv) d_Srv_handOver_55 ml_Srv_65 mv_Srv_write (by assumption) ⟨rfl, rfl⟩ rfl rfl (Nat.le_of_ble_eq_true rfl) (hR_of hX (by decide) (by decide)) (hf_of hX (by decide) (by decide)) ?_
        rintro _ _ _ _ ⟨rfl, rfl, rfl, rfl⟩
        refine j_iload_n h d_Srv_handOver_58 rfl ?_
        exact j_iret hX d_Srv_handOver_59 rfl (Nat.le_refl _) (Nat.le_refl _) ⟨rfl, by rw [hv]; clear hX h hl; first | rfl | simp_all [hndR], by rw [hv]; clear hX h hl; first | (simp_all [hndR, wrIf]; done) | grind [hndR, wrIf], rfl⟩
    | succ k ih =>
      intro i g A1 hi hv
      have hi2 : i < n := by omega
      have hr := cs_rv cs hs hi2
      refine j_iload_n h d_Srv_handOver_4 rfl ?_
      refine j_aload_n h d_Srv_handOver_5 rfl ?_
      refine j_getR h d_Srv_handOver_6 fl_Srv_26 rfl (by assumption) (cs_rp cs hs) ?_
      refine j_recl h cs hs d_Srv_handOver_9 ?_
      refine j_ic_ge (tgt := 50) h d_Srv_handOver_10 (by decide) (fun c => absurd c (nI_ge hi2 (cs_n31 cs))) (fun _ => ?_)
      refine j_iload_n h d_Srv_handOver_13 rfl ?_
      refine j_iload_n h d_Srv_handOver_14 rfl ?_
      refine j_ic_ge (tgt := 50) h d_Srv_handOver_15 (by decide) (fun c1 => ?_) (fun c1 => ?_)
      · refine j_iload_n h d_Srv_handOver_50 rfl ?_
        refine j_if_le (tgt := 58) h d_Srv_handOver_51 (by decide) (fun c2 => ?_) (fun c2 => ?_)
        · refine j_iload_n h d_Srv_handOver_58 rfl ?_
          exact j_iret hX d_Srv_handOver_59 rfl (Nat.le_refl _) (Nat.le_refl _) ⟨rfl, by rw [hv]; clear hX h hl; first | rfl | simp_all [hndR], by rw [hv]; clear hX h hl; first | (simp_all [hndR, wrIf]; done) | grind [hndR, wrIf], rfl⟩
        · refine j_aload_n h d_Srv_handOver_54 rfl ?_
          refine j_callV h (c_Srv_write _ _ _ _ _ _ _ _ _ hsv) d_Srv_handOver_55 ml_Srv_65 mv_Srv_write (by assumption) ⟨rfl, rfl⟩ rfl rfl (Nat.le_of_ble_eq_true rfl) (hR_of hX (by decide) (by decide)) (hf_of hX (by decide) (by decide)) ?_
          rintro _ _ _ _ ⟨rfl, rfl, rfl, rfl⟩
          refine j_iload_n h d_Srv_handOver_58 rfl ?_
          exact j_iret hX d_Srv_handOver_59 rfl (Nat.le_refl _) (Nat.le_refl _) ⟨rfl, by rw [hv]; clear hX h hl; first | rfl | simp_all [hndR], by rw [hv]; clear hX h hl; first | (simp_all [hndR, wrIf]; done) | grind [hndR, wrIf], rfl⟩
      · refine j_aload_n h d_Srv_handOver_18 rfl ?_
        refine j_getR h d_Srv_handOver_19 fl_Srv_26 rfl (by assumption) (cs_rp cs hs) ?_
        refine j_iload_n h d_Srv_handOver_22 rfl ?_
        refine j_recs h cs hs hi2 d_Srv_handOver_23 ?_
        refine j_get0 h d_Srv_handOver_24 fl_Srv_71 rfl (by assumption) ?_
        refine j_iconst (v := 1) h d_Srv_handOver_27 (by decide) ?_
        refine j_ic_ne (tgt := 44) h d_Srv_handOver_28 (by decide) (fun c3 => ?_) (fun c3 => ?_)
        · refine j_iinc (v := nI (i + 1)) h d_Srv_handOver_44 rfl (nI_i i) (Nat.lt_of_lt_of_eq (m := 4) (by decide) hN.symm) ?_
          refine j_goto (tgt := 4) h d_Srv_handOver_47 (by decide) ?_
          refine j_lv (lv' := [(0, .ref (K.ad 1 s)), (1, .int m), (2, .int _), (3, .int (nI (i + 1)))]) (lvs rfl (lvs rfl (lvs rfl (lvs rfl lvs0)))) ?_
          exact ih (i + 1) _ _ (by omega) (hv.trans (by clear ih hX h; grind [hndR]))
        · refine j_aload_n h d_Srv_handOver_31 rfl ?_
          refine j_getR h d_Srv_handOver_32 fl_Srv_26 rfl (by assumption) (cs_rp cs hs) ?_
          refine j_iload_n h d_Srv_handOver_35 rfl ?_
          refine j_recs h cs hs hi2 d_Srv_handOver_36 ?_
          refine j_iconst (v := 4) h d_Srv_handOver_37 (by decide) ?_
          refine j_callV h (c_Rec_changeTo _ _ _ _ _ _ _ _ _ hr _) d_Srv_handOver_38 ml_Srv_151 mv_Rec_changeTo (by assumption) ⟨rfl, rfl⟩ rfl rfl (Nat.le_of_ble_eq_true rfl) (hR_of hX (by decide) (by decide)) (hf_of hX (by decide) (by decide)) ?_
          rintro _ _ _ _ ⟨rfl, rfl, rfl, rfl⟩
          refine j_iinc (v := g + 1) h d_Srv_handOver_41 rfl rfl (Nat.lt_of_lt_of_eq (m := 4) (by decide) hN.symm) ?_
          refine j_iinc (v := nI (i + 1)) h d_Srv_handOver_44 rfl (nI_i i) (Nat.lt_of_lt_of_eq (m := 4) (by decide) hN.symm) ?_
          refine j_goto (tgt := 4) h d_Srv_handOver_47 (by decide) ?_
          refine j_lv (lv' := [(0, .ref (K.ad 1 s)), (1, .int m), (2, .int _), (3, .int (nI (i + 1)))]) (lvs rfl (lvs rfl (lvs rfl (lvs rfl lvs0)))) ?_
          exact ih (i + 1) _ _ (by omega) (hv.trans (by clear ih hX h; grind [hndR]))
  refine j_iconst (v := 0) h d_Srv_handOver_0 (by decide) ?_
  refine j_istore_n h d_Srv_handOver_1 (Nat.lt_of_lt_of_eq (m := 4) (by decide) hN.symm) ?_
  refine j_iconst (v := 0) h d_Srv_handOver_2 (by decide) ?_
  refine j_istore_n h d_Srv_handOver_3 (Nat.lt_of_lt_of_eq (m := 4) (by decide) hN.symm) ?_
  refine j_lv (lv' := [(0, .ref (K.ad 1 s)), (1, .int m), (2, .int 0), (3, .int (nI 0))]) (lvs rfl (lvs rfl (lvs rfl (lvs rfl lvs0)))) ?_
  exact hL n 0 0 _ (by omega) rfl
theorem d_Srv_endWhatIsOver_0 : decode b_Srv_endWhatIsOver 0 = .ok (.iconst 0, 1) := by decide +kernel
theorem d_Srv_endWhatIsOver_1 : decode b_Srv_endWhatIsOver 1 = .ok (.istore_n 2, 1) := by decide +kernel
theorem d_Srv_endWhatIsOver_2 : decode b_Srv_endWhatIsOver 2 = .ok (.iconst 0, 1) := by decide +kernel
theorem d_Srv_endWhatIsOver_3 : decode b_Srv_endWhatIsOver 3 = .ok (.istore_n 3, 1) := by decide +kernel
theorem d_Srv_endWhatIsOver_4 : decode b_Srv_endWhatIsOver 4 = .ok (.iload_n 3, 1) := by decide +kernel
theorem d_Srv_endWhatIsOver_5 : decode b_Srv_endWhatIsOver 5 = .ok (.aload_n 0, 1) := by decide +kernel
theorem d_Srv_endWhatIsOver_6 : decode b_Srv_endWhatIsOver 6 = .ok (.getfield 26, 3) := by decide +kernel
theorem d_Srv_endWhatIsOver_9 : decode b_Srv_endWhatIsOver 9 = .ok (.arraylength, 1) := by decide +kernel
theorem d_Srv_endWhatIsOver_10 : decode b_Srv_endWhatIsOver 10 = .ok (.if_icmp .ge 51, 3) := by decide +kernel
theorem d_Srv_endWhatIsOver_13 : decode b_Srv_endWhatIsOver 13 = .ok (.aload_n 0, 1) := by decide +kernel
theorem d_Srv_endWhatIsOver_14 : decode b_Srv_endWhatIsOver 14 = .ok (.getfield 26, 3) := by decide +kernel
theorem d_Srv_endWhatIsOver_17 : decode b_Srv_endWhatIsOver 17 = .ok (.iload_n 3, 1) := by decide +kernel
theorem d_Srv_endWhatIsOver_18 : decode b_Srv_endWhatIsOver 18 = .ok (.aaload, 1) := by decide +kernel
theorem d_Srv_endWhatIsOver_19 : decode b_Srv_endWhatIsOver 19 = .ok (.astore 4, 2) := by decide +kernel
theorem d_Srv_endWhatIsOver_21 : decode b_Srv_endWhatIsOver 21 = .ok (.aload_n 0, 1) := by decide +kernel
theorem d_Srv_endWhatIsOver_22 : decode b_Srv_endWhatIsOver 22 = .ok (.getfield 33, 3) := by decide +kernel
theorem d_Srv_endWhatIsOver_25 : decode b_Srv_endWhatIsOver 25 = .ok (.iconst 2, 1) := by decide +kernel
theorem d_Srv_endWhatIsOver_26 : decode b_Srv_endWhatIsOver 26 = .ok (.if_icmp .ne 16, 3) := by decide +kernel
theorem d_Srv_endWhatIsOver_29 : decode b_Srv_endWhatIsOver 29 = .ok (.aload_n 0, 1) := by decide +kernel
theorem d_Srv_endWhatIsOver_30 : decode b_Srv_endWhatIsOver 30 = .ok (.aload 4, 2) := by decide +kernel
theorem d_Srv_endWhatIsOver_32 : decode b_Srv_endWhatIsOver 32 = .ok (.iload_n 1, 1) := by decide +kernel
theorem d_Srv_endWhatIsOver_33 : decode b_Srv_endWhatIsOver 33 = .ok (.invokevirtual 228, 3) := by decide +kernel
theorem d_Srv_endWhatIsOver_36 : decode b_Srv_endWhatIsOver 36 = .ok (.ifCond .eq 19, 3) := by decide +kernel
theorem d_Srv_endWhatIsOver_39 : decode b_Srv_endWhatIsOver 39 = .ok (.goto 13, 3) := by decide +kernel
theorem d_Srv_endWhatIsOver_42 : decode b_Srv_endWhatIsOver 42 = .ok (.aload_n 0, 1) := by decide +kernel
theorem d_Srv_endWhatIsOver_43 : decode b_Srv_endWhatIsOver 43 = .ok (.aload 4, 2) := by decide +kernel
theorem d_Srv_endWhatIsOver_45 : decode b_Srv_endWhatIsOver 45 = .ok (.iload_n 1, 1) := by decide +kernel
theorem d_Srv_endWhatIsOver_46 : decode b_Srv_endWhatIsOver 46 = .ok (.invokevirtual 232, 3) := by decide +kernel
theorem d_Srv_endWhatIsOver_49 : decode b_Srv_endWhatIsOver 49 = .ok (.ifCond .eq 6, 3) := by decide +kernel
theorem d_Srv_endWhatIsOver_52 : decode b_Srv_endWhatIsOver 52 = .ok (.iinc 2 1, 3) := by decide +kernel
theorem d_Srv_endWhatIsOver_55 : decode b_Srv_endWhatIsOver 55 = .ok (.iinc 3 1, 3) := by decide +kernel
theorem d_Srv_endWhatIsOver_58 : decode b_Srv_endWhatIsOver 58 = .ok (.goto (-54), 3) := by decide +kernel
theorem d_Srv_endWhatIsOver_61 : decode b_Srv_endWhatIsOver 61 = .ok (.iload_n 2, 1) := by decide +kernel
theorem d_Srv_endWhatIsOver_62 : decode b_Srv_endWhatIsOver 62 = .ok (.ifCond .le 7, 3) := by decide +kernel
theorem d_Srv_endWhatIsOver_65 : decode b_Srv_endWhatIsOver 65 = .ok (.aload_n 0, 1) := by decide +kernel
theorem d_Srv_endWhatIsOver_66 : decode b_Srv_endWhatIsOver 66 = .ok (.invokevirtual 65, 3) := by decide +kernel
theorem d_Srv_endWhatIsOver_69 : decode b_Srv_endWhatIsOver 69 = .ok (.iload_n 2, 1) := by decide +kernel
theorem d_Srv_endWhatIsOver_70 : decode b_Srv_endWhatIsOver 70 = .ok (.ireturn, 1) := by decide +kernel
set_option maxRecDepth 100000 in
set_option maxHeartbeats 4000000 in
theorem c_Srv_endWhatIsOver (l : Launch) (K : Kx) (V : Vx) (A B C D : MI) (P : MP) (n : Nat) (cs : CS K V P n) (s : Nat) (hs : s < 2) (t : Int32) : Ct l K md_Srv_endWhatIsOver (4, 86) 0 0 [.ref (K.ad 1 s), .int t] V (bk4 A B C D) P (EQ V (some (.int (endR s (B 62 s) (B 63 s) t n 0 0 A).1)) (bk4 (wrIf (endR s (B 62 s) (B 63 s) t n 0 0 A).1 (endR s (B 62 s) (B 63 s) t n 0 0 A).2 s) B C D) P) := by
  refine ct_of [(0, .ref (K.ad 1 s)), (1, .int t)] (by decide) (Nat.le_of_ble_eq_true rfl) (ca_r (ca_i ca_n)) rfl ?_
  intro X hl hX
  have h : OkX X b_Srv_endWhatIsOver R_Srv K := hX.1
  have hN : X.nL = 5 := hX.2.1
  have hsv := cs_sv cs hs
  have hL : ∀ (k i : Nat) (g : Int32) (A1 : MI), i + k = n → endR s (B 62 s) (B 63 s) t n 0 0 A = endR s (B 62 s) (B 63 s) t k i g A1 → J X K V (bk4 A1 B C D) P 0 0 4 [(0, .ref (K.ad 1 s)), (1, .int t), (2, .int g), (3, .int (nI i))] [] := by
    intro k
    induction k with
    | zero =>
      intro i g A1 hi hv
      have hi2 : i = n := by omega
      subst hi2
      refine j_iload_n h d_Srv_endWhatIsOver_4 rfl ?_
      refine j_aload_n h d_Srv_endWhatIsOver_5 rfl ?_
      refine j_getR h d_Srv_endWhatIsOver_6 fl_Srv_26 rfl (by assumption) (cs_rp cs hs) ?_
      refine j_recl h cs hs d_Srv_endWhatIsOver_9 ?_
      refine j_ic_ge (tgt := 61) h d_Srv_endWhatIsOver_10 (by decide) (fun _ => ?_) (fun c => absurd (nI_le (Nat.le_refl _) (cs_n31 cs)) c)
      refine j_iload_n h d_Srv_endWhatIsOver_61 rfl ?_
      refine j_if_le (tgt := 69) h d_Srv_endWhatIsOver_62 (by decide) (fun c1 => ?_) (fun c1 => ?_)
      · refine j_iload_n h d_Srv_endWhatIsOver_69 rfl ?_
        exact j_iret hX d_Srv_endWhatIsOver_70 rfl (Nat.le_refl _) (Nat.le_refl _) ⟨rfl, by rw [hv]; clear hX h hl; first | rfl | simp_all [endR], by rw [hv]; clear hX h hl; first | (simp_all [endR, wrIf]; done) | grind [endR, wrIf], rfl⟩
      · refine j_aload_n h d_Srv_endWhatIsOver_65 rfl ?_
        refine j_callV h (c_Srv_write _ _ _ _ _ _ _ _ _ hsv) d_Srv_endWhatIsOver_66 ml_Srv_65 mv_Srv_write (by assumption) ⟨rfl, rfl⟩ rfl rfl (Nat.le_of_ble_eq_true rfl) (hR_of hX (by decide) (by decide)) (hf_of hX (by decide) (by decide)) ?_
        rintro _ _ _ _ ⟨rfl, rfl, rfl, rfl⟩
        refine j_iload_n h d_Srv_endWhatIsOver_69 rfl ?_
        exact j_iret hX d_Srv_endWhatIsOver_70 rfl (Nat.le_refl _) (Nat.le_refl _) ⟨rfl, by rw [hv]; clear hX h hl; first | rfl | simp_all [endR], by rw [hv]; clear hX h hl; first | (simp_all [endR, wrIf]; done) | grind [endR, wrIf], rfl⟩
    | succ k ih =>
      intro i g A1 hi hv
      have hi2 : i < n := by omega
      have hr := cs_rv cs hs hi2
      refine j_iload_n h d_Srv_endWhatIsOver_4 rfl ?_
      refine j_aload_n h d_Srv_endWhatIsOver_5 rfl ?_
      refine j_getR h d_Srv_endWhatIsOver_6 fl_Srv_26 rfl (by assumption) (cs_rp cs hs) ?_
      refine j_recl h cs hs d_Srv_endWhatIsOver_9 ?_
      refine j_ic_ge (tgt := 61) h d_Srv_endWhatIsOver_10 (by decide) (fun c => absurd c (nI_ge hi2 (cs_n31 cs))) (fun _ => ?_)
      refine j_aload_n h d_Srv_endWhatIsOver_13 rfl ?_
      refine j_getR h d_Srv_endWhatIsOver_14 fl_Srv_26 rfl (by assumption) (cs_rp cs hs) ?_
      refine j_iload_n h d_Srv_endWhatIsOver_17 rfl ?_
      refine j_recs h cs hs hi2 d_Srv_endWhatIsOver_18 ?_
      refine j_astore h d_Srv_endWhatIsOver_19 (Nat.lt_of_lt_of_eq (m := 5) (by decide) hN.symm) ?_
      refine j_aload_n h d_Srv_endWhatIsOver_21 rfl ?_
      refine j_get0 h d_Srv_endWhatIsOver_22 fl_Srv_33 rfl (by assumption) ?_
      refine j_iconst (v := 2) h d_Srv_endWhatIsOver_25 (by decide) ?_
      refine j_ic_ne (tgt := 42) h d_Srv_endWhatIsOver_26 (by decide) (fun c1 => ?_) (fun c1 => ?_)
      · refine j_aload_n h d_Srv_endWhatIsOver_42 rfl ?_
        refine j_aload h d_Srv_endWhatIsOver_43 rfl ?_
        refine j_iload_n h d_Srv_endWhatIsOver_45 rfl ?_
        refine j_callV h (c_Srv_endAlone _ _ _ _ _ _ _ _ _ hsv _ hr _) d_Srv_endWhatIsOver_46 ml_Srv_232 mv_Srv_endAlone (by assumption) ⟨rfl, rfl⟩ rfl rfl (Nat.le_of_ble_eq_true rfl) (hR_of hX (by decide) (by decide)) (hf_of hX (by decide) (by decide)) ?_
        rintro _ _ _ _ ⟨rfl, rfl, rfl, rfl⟩
        refine j_if_eq (tgt := 55) h d_Srv_endWhatIsOver_49 (by decide) (fun c2 => ?_) (fun c2 => ?_)
        · refine j_iinc (v := nI (i + 1)) h d_Srv_endWhatIsOver_55 rfl (nI_i i) (Nat.lt_of_lt_of_eq (m := 5) (by decide) hN.symm) ?_
          refine j_goto (tgt := 4) h d_Srv_endWhatIsOver_58 (by decide) ?_
          refine j_lv (lv' := [(0, .ref (K.ad 1 s)), (1, .int t), (2, .int _), (3, .int (nI (i + 1)))]) (lvs rfl (lvs rfl (lvs rfl (lvs rfl lvs0)))) ?_
          exact ih (i + 1) _ _ (by omega) (hv.trans (by simp only [endR, enOne]; simp_all))
        · refine j_iinc (v := g + 1) h d_Srv_endWhatIsOver_52 rfl rfl (Nat.lt_of_lt_of_eq (m := 5) (by decide) hN.symm) ?_
          refine j_iinc (v := nI (i + 1)) h d_Srv_endWhatIsOver_55 rfl (nI_i i) (Nat.lt_of_lt_of_eq (m := 5) (by decide) hN.symm) ?_
          refine j_goto (tgt := 4) h d_Srv_endWhatIsOver_58 (by decide) ?_
          refine j_lv (lv' := [(0, .ref (K.ad 1 s)), (1, .int t), (2, .int _), (3, .int (nI (i + 1)))]) (lvs rfl (lvs rfl (lvs rfl (lvs rfl lvs0)))) ?_
          exact ih (i + 1) _ _ (by omega) (hv.trans (by simp only [endR, enOne]; simp_all))
      · refine j_aload_n h d_Srv_endWhatIsOver_29 rfl ?_
        refine j_aload h d_Srv_endWhatIsOver_30 rfl ?_
        refine j_iload_n h d_Srv_endWhatIsOver_32 rfl ?_
        refine j_callV h (c_Srv_endTogether _ _ _ _ _ _ _ _ _ hsv _ hr _) d_Srv_endWhatIsOver_33 ml_Srv_228 mv_Srv_endTogether (by assumption) ⟨rfl, rfl⟩ rfl rfl (Nat.le_of_ble_eq_true rfl) (hR_of hX (by decide) (by decide)) (hf_of hX (by decide) (by decide)) ?_
        rintro _ _ _ _ ⟨rfl, rfl, rfl, rfl⟩
        refine j_if_eq (tgt := 55) h d_Srv_endWhatIsOver_36 (by decide) (fun c3 => ?_) (fun c3 => ?_)
        · refine j_iinc (v := nI (i + 1)) h d_Srv_endWhatIsOver_55 rfl (nI_i i) (Nat.lt_of_lt_of_eq (m := 5) (by decide) hN.symm) ?_
          refine j_goto (tgt := 4) h d_Srv_endWhatIsOver_58 (by decide) ?_
          refine j_lv (lv' := [(0, .ref (K.ad 1 s)), (1, .int t), (2, .int _), (3, .int (nI (i + 1)))]) (lvs rfl (lvs rfl (lvs rfl (lvs rfl lvs0)))) ?_
          exact ih (i + 1) _ _ (by omega) (hv.trans (by simp only [endR, enOne]; simp_all))
        · refine j_goto (tgt := 52) h d_Srv_endWhatIsOver_39 (by decide) ?_
          refine j_iinc (v := g + 1) h d_Srv_endWhatIsOver_52 rfl rfl (Nat.lt_of_lt_of_eq (m := 5) (by decide) hN.symm) ?_
          refine j_iinc (v := nI (i + 1)) h d_Srv_endWhatIsOver_55 rfl (nI_i i) (Nat.lt_of_lt_of_eq (m := 5) (by decide) hN.symm) ?_
          refine j_goto (tgt := 4) h d_Srv_endWhatIsOver_58 (by decide) ?_
          refine j_lv (lv' := [(0, .ref (K.ad 1 s)), (1, .int t), (2, .int _), (3, .int (nI (i + 1)))]) (lvs rfl (lvs rfl (lvs rfl (lvs rfl lvs0)))) ?_
          exact ih (i + 1) _ _ (by omega) (hv.trans (by simp only [endR, enOne]; simp_all))
  refine j_iconst (v := 0) h d_Srv_endWhatIsOver_0 (by decide) ?_
  refine j_istore_n h d_Srv_endWhatIsOver_1 (Nat.lt_of_lt_of_eq (m := 5) (by decide) hN.symm) ?_
  refine j_iconst (v := 0) h d_Srv_endWhatIsOver_2 (by decide) ?_
  refine j_istore_n h d_Srv_endWhatIsOver_3 (Nat.lt_of_lt_of_eq (m := 5) (by decide) hN.symm) ?_
  refine j_lv (lv' := [(0, .ref (K.ad 1 s)), (1, .int t), (2, .int 0), (3, .int (nI 0))]) (lvs rfl (lvs rfl (lvs rfl (lvs rfl lvs0)))) ?_
  exact hL n 0 0 _ (by omega) rfl
theorem d_Srv_takeIn_0 : decode b_Srv_takeIn 0 = .ok (.aload_n 0, 1) := by decide +kernel
theorem d_Srv_takeIn_1 : decode b_Srv_takeIn 1 = .ok (.aload_n 1, 1) := by decide +kernel
theorem d_Srv_takeIn_2 : decode b_Srv_takeIn 2 = .ok (.aload_n 2, 1) := by decide +kernel
theorem d_Srv_takeIn_3 : decode b_Srv_takeIn 3 = .ok (.invokevirtual 180, 3) := by decide +kernel
theorem d_Srv_takeIn_6 : decode b_Srv_takeIn 6 = .ok (.aload_n 1, 1) := by decide +kernel
theorem d_Srv_takeIn_7 : decode b_Srv_takeIn 7 = .ok (.getfield 74, 3) := by decide +kernel
theorem d_Srv_takeIn_10 : decode b_Srv_takeIn 10 = .ok (.tableswitch 74 1 4 #[61, 30, 36, 56], 30) := by decide +kernel
theorem d_Srv_takeIn_40 : decode b_Srv_takeIn 40 = .ok (.aload_n 2, 1) := by decide +kernel
theorem d_Srv_takeIn_41 : decode b_Srv_takeIn 41 = .ok (.aload_n 1, 1) := by decide +kernel
theorem d_Srv_takeIn_42 : decode b_Srv_takeIn 42 = .ok (.invokevirtual 184, 3) := by decide +kernel
theorem d_Srv_takeIn_45 : decode b_Srv_takeIn 45 = .ok (.ireturn, 1) := by decide +kernel
theorem d_Srv_takeIn_46 : decode b_Srv_takeIn 46 = .ok (.aload_n 2, 1) := by decide +kernel
theorem d_Srv_takeIn_47 : decode b_Srv_takeIn 47 = .ok (.aload_n 1, 1) := by decide +kernel
theorem d_Srv_takeIn_48 : decode b_Srv_takeIn 48 = .ok (.iload_n 3, 1) := by decide +kernel
theorem d_Srv_takeIn_49 : decode b_Srv_takeIn 49 = .ok (.aload_n 0, 1) := by decide +kernel
theorem d_Srv_takeIn_50 : decode b_Srv_takeIn 50 = .ok (.getfield 9, 3) := by decide +kernel
theorem d_Srv_takeIn_53 : decode b_Srv_takeIn 53 = .ok (.iconst 1, 1) := by decide +kernel
theorem d_Srv_takeIn_54 : decode b_Srv_takeIn 54 = .ok (.if_icmp .ne 7, 3) := by decide +kernel
theorem d_Srv_takeIn_57 : decode b_Srv_takeIn 57 = .ok (.iconst 1, 1) := by decide +kernel
theorem d_Srv_takeIn_58 : decode b_Srv_takeIn 58 = .ok (.goto 4, 3) := by decide +kernel
theorem d_Srv_takeIn_61 : decode b_Srv_takeIn 61 = .ok (.iconst 0, 1) := by decide +kernel
theorem d_Srv_takeIn_62 : decode b_Srv_takeIn 62 = .ok (.invokevirtual 188, 3) := by decide +kernel
theorem d_Srv_takeIn_65 : decode b_Srv_takeIn 65 = .ok (.ireturn, 1) := by decide +kernel
theorem d_Srv_takeIn_66 : decode b_Srv_takeIn 66 = .ok (.aload_n 2, 1) := by decide +kernel
theorem d_Srv_takeIn_67 : decode b_Srv_takeIn 67 = .ok (.invokevirtual 192, 3) := by decide +kernel
theorem d_Srv_takeIn_70 : decode b_Srv_takeIn 70 = .ok (.ireturn, 1) := by decide +kernel
theorem d_Srv_takeIn_71 : decode b_Srv_takeIn 71 = .ok (.aload_n 2, 1) := by decide +kernel
theorem d_Srv_takeIn_72 : decode b_Srv_takeIn 72 = .ok (.getfield 71, 3) := by decide +kernel
theorem d_Srv_takeIn_75 : decode b_Srv_takeIn 75 = .ok (.ifCond .ne 7, 3) := by decide +kernel
theorem d_Srv_takeIn_78 : decode b_Srv_takeIn 78 = .ok (.iconst 1, 1) := by decide +kernel
theorem d_Srv_takeIn_79 : decode b_Srv_takeIn 79 = .ok (.goto 4, 3) := by decide +kernel
theorem d_Srv_takeIn_82 : decode b_Srv_takeIn 82 = .ok (.iconst 0, 1) := by decide +kernel
theorem d_Srv_takeIn_83 : decode b_Srv_takeIn 83 = .ok (.ireturn, 1) := by decide +kernel
theorem d_Srv_takeIn_84 : decode b_Srv_takeIn 84 = .ok (.iconst 1, 1) := by decide +kernel
theorem d_Srv_takeIn_85 : decode b_Srv_takeIn 85 = .ok (.ireturn, 1) := by decide +kernel
set_option maxRecDepth 100000 in
set_option maxHeartbeats 4000000 in
theorem c_Srv_takeIn (l : Launch) (K : Kx) (V : Vx) (A B C D : MI) (P : MP) (s : Nat) (hs : V.1 1 s) (q : Nat) (hq : V.1 5 q) (r : Nat) (hr : V.1 2 r) (t : Int32) : Ct l K md_Srv_takeIn (3, 62) 0 0 [.ref (K.ad 1 s), .ref (K.ad 5 q), .ref (K.ad 2 r), .int t] V (bk4 A B C D) P (EQ V (some (.int (tkIn A r s (B 60 s) t (B 83 q) (B 89 q) (B 86 q) (B 90 q) (B 91 q) (B 93 q) (B 92 q)).1)) (bk4 (tkIn A r s (B 60 s) t (B 83 q) (B 89 q) (B 86 q) (B 90 q) (B 91 q) (B 93 q) (B 92 q)).2 B C D) P) := by
  refine ct_of [(0, .ref (K.ad 1 s)), (1, .ref (K.ad 5 q)), (2, .ref (K.ad 2 r)), (3, .int t)] (by decide) (Nat.le_of_ble_eq_true rfl) (ca_r (ca_r (ca_r (ca_i ca_n)))) rfl ?_
  intro X hl hX
  have h : OkX X b_Srv_takeIn R_Srv K := hX.1
  have hN : X.nL = 4 := hX.2.1
  refine j_aload_n h d_Srv_takeIn_0 rfl ?_
  refine j_aload_n h d_Srv_takeIn_1 rfl ?_
  refine j_aload_n h d_Srv_takeIn_2 rfl ?_
  refine j_callV h (c_Srv_giveWay _ _ _ _ _ _ _ _ _ hs _ hq _ hr) d_Srv_takeIn_3 ml_Srv_180 mv_Srv_giveWay (by assumption) ⟨rfl, rfl⟩ rfl rfl (Nat.le_of_ble_eq_true rfl) (hR_of hX (by decide) (by decide)) (hf_of hX (by decide) (by decide)) ?_
  rintro _ _ _ _ ⟨rfl, rfl, rfl, rfl⟩
  refine j_aload_n h d_Srv_takeIn_6 rfl ?_
  refine j_get1 h d_Srv_takeIn_7 fl_Srv_74 rfl (by assumption) ?_
  have hkk : ∀ x : Int32, x = B 83 q → x = 1 ∨ x = 2 ∨ x = 3 ∨ x = 4 ∨ (x.toInt < 1 ∨ 4 < x.toInt) := by
    intro x _
    by_cases h1 : x = 1; · exact Or.inl h1
    by_cases h2 : x = 2; · exact Or.inr (Or.inl h2)
    by_cases h3 : x = 3; · exact Or.inr (Or.inr (Or.inl h3))
    by_cases h4 : x = 4; · exact Or.inr (Or.inr (Or.inr (Or.inl h4)))
    have g1 := lv_neT (a := 1) h1 rfl
    have g2 := lv_neT (a := 2) h2 rfl
    have g3 := lv_neT (a := 3) h3 rfl
    have g4 := lv_neT (a := 4) h4 rfl
    exact Or.inr (Or.inr (Or.inr (Or.inr (by omega))))
  rcases hkk _ rfl with hk | hk | hk | hk | hk
  · rw [show (Value.int (B 83 q)) = Value.int 1 by rw [hk]]
    refine j_tabIn (off := 61) (tgt := 71) h d_Srv_takeIn_10 (by decide +kernel) (by decide +kernel) (by decide +kernel) (by decide) ?_
    refine j_aload_n h d_Srv_takeIn_71 rfl ?_
    refine j_get0 h d_Srv_takeIn_72 fl_Srv_71 rfl (by assumption) ?_
    refine j_if_ne (tgt := 82) h d_Srv_takeIn_75 (by decide) (fun c1 => ?_) (fun c1 => ?_)
    · refine j_iconst (v := 0) h d_Srv_takeIn_82 (by decide) ?_
      exact j_zret hX d_Srv_takeIn_83 rfl (by first | exact Or.inl rfl | exact Or.inr rfl | exact b01_z _ | assumption | exact tkB_z _ _ _ _ _ | exact tkE_z _ _ _ _ _ _ _ _ | exact tkG_z _ _ | exact enS_z _ _ _ | exact enO_z _ _ _ _ _ _) (Nat.le_refl _) (Nat.le_refl _) ⟨rfl, by clear hX h hl; first | rfl | (simp_all [tkIn, b01]; done) | grind [tkIn, b01], by clear hX h hl; first | rfl | (simp_all [tkIn, b01, up_rd]; done) | grind [tkIn, b01, up_rd, chgTo_rd, chg_rd, settle_rd, bnd_rd], rfl⟩
    · refine j_iconst (v := 1) h d_Srv_takeIn_78 (by decide) ?_
      refine j_goto (tgt := 83) h d_Srv_takeIn_79 (by decide) ?_
      exact j_zret hX d_Srv_takeIn_83 rfl (by first | exact Or.inl rfl | exact Or.inr rfl | exact b01_z _ | assumption | exact tkB_z _ _ _ _ _ | exact tkE_z _ _ _ _ _ _ _ _ | exact tkG_z _ _ | exact enS_z _ _ _ | exact enO_z _ _ _ _ _ _) (Nat.le_refl _) (Nat.le_refl _) ⟨rfl, by clear hX h hl; first | rfl | (simp_all [tkIn, b01]; done) | grind [tkIn, b01], by clear hX h hl; first | rfl | (simp_all [tkIn, b01, up_rd]; done) | grind [tkIn, b01, up_rd, chgTo_rd, chg_rd, settle_rd, bnd_rd], rfl⟩
  · rw [show (Value.int (B 83 q)) = Value.int 2 by rw [hk]]
    refine j_tabIn (off := 30) (tgt := 40) h d_Srv_takeIn_10 (by decide +kernel) (by decide +kernel) (by decide +kernel) (by decide) ?_
    refine j_aload_n h d_Srv_takeIn_40 rfl ?_
    refine j_aload_n h d_Srv_takeIn_41 rfl ?_
    refine j_callV h (c_Rec_takeBound _ _ _ _ _ _ _ _ _ hr _ hq) d_Srv_takeIn_42 ml_Srv_184 mv_Rec_takeBound (by assumption) ⟨rfl, rfl⟩ rfl rfl (Nat.le_of_ble_eq_true rfl) (hR_of hX (by decide) (by decide)) (hf_of hX (by decide) (by decide)) ?_
    rintro _ _ _ _ ⟨rfl, rfl, rfl, rfl⟩
    exact j_zret hX d_Srv_takeIn_45 rfl (by first | exact Or.inl rfl | exact Or.inr rfl | exact b01_z _ | assumption | exact tkB_z _ _ _ _ _ | exact tkE_z _ _ _ _ _ _ _ _ | exact tkG_z _ _ | exact enS_z _ _ _ | exact enO_z _ _ _ _ _ _) (Nat.le_refl _) (Nat.le_refl _) ⟨rfl, by clear hX h hl; first | rfl | (simp_all [tkIn, b01]; done) | grind [tkIn, b01], by clear hX h hl; first | rfl | (simp_all [tkIn, b01, up_rd]; done) | grind [tkIn, b01, up_rd, chgTo_rd, chg_rd, settle_rd, bnd_rd], rfl⟩
  · rw [show (Value.int (B 83 q)) = Value.int 3 by rw [hk]]
    refine j_tabIn (off := 36) (tgt := 46) h d_Srv_takeIn_10 (by decide +kernel) (by decide +kernel) (by decide +kernel) (by decide) ?_
    refine j_aload_n h d_Srv_takeIn_46 rfl ?_
    refine j_aload_n h d_Srv_takeIn_47 rfl ?_
    refine j_iload_n h d_Srv_takeIn_48 rfl ?_
    refine j_aload_n h d_Srv_takeIn_49 rfl ?_
    refine j_get1 h d_Srv_takeIn_50 fl_Srv_9 rfl (by assumption) ?_
    refine j_iconst (v := 1) h d_Srv_takeIn_53 (by decide) ?_
    refine j_ic_ne (tgt := 61) h d_Srv_takeIn_54 (by decide) (fun c1 => ?_) (fun c1 => ?_)
    · refine j_iconst (v := 0) h d_Srv_takeIn_61 (by decide) ?_
      refine j_callV h (c_Rec_takeEnding _ _ _ _ _ _ _ _ _ hr _ hq _ _) d_Srv_takeIn_62 ml_Srv_188 mv_Rec_takeEnding (by assumption) ⟨rfl, rfl⟩ rfl rfl (Nat.le_of_ble_eq_true rfl) (hR_of hX (by decide) (by decide)) (hf_of hX (by decide) (by decide)) ?_
      rintro _ _ _ _ ⟨rfl, rfl, rfl, rfl⟩
      exact j_zret hX d_Srv_takeIn_65 rfl (by first | exact Or.inl rfl | exact Or.inr rfl | exact b01_z _ | assumption | exact tkB_z _ _ _ _ _ | exact tkE_z _ _ _ _ _ _ _ _ | exact tkG_z _ _ | exact enS_z _ _ _ | exact enO_z _ _ _ _ _ _) (Nat.le_refl _) (Nat.le_refl _) ⟨rfl, by clear hX h hl; first | rfl | (simp_all [tkIn, b01]; done) | grind [tkIn, b01], by clear hX h hl; first | rfl | (simp_all [tkIn, b01, up_rd]; done) | grind [tkIn, b01, up_rd, chgTo_rd, chg_rd, settle_rd, bnd_rd], rfl⟩
    · refine j_iconst (v := 1) h d_Srv_takeIn_57 (by decide) ?_
      refine j_goto (tgt := 62) h d_Srv_takeIn_58 (by decide) ?_
      refine j_callV h (c_Rec_takeEnding _ _ _ _ _ _ _ _ _ hr _ hq _ _) d_Srv_takeIn_62 ml_Srv_188 mv_Rec_takeEnding (by assumption) ⟨rfl, rfl⟩ rfl rfl (Nat.le_of_ble_eq_true rfl) (hR_of hX (by decide) (by decide)) (hf_of hX (by decide) (by decide)) ?_
      rintro _ _ _ _ ⟨rfl, rfl, rfl, rfl⟩
      exact j_zret hX d_Srv_takeIn_65 rfl (by first | exact Or.inl rfl | exact Or.inr rfl | exact b01_z _ | assumption | exact tkB_z _ _ _ _ _ | exact tkE_z _ _ _ _ _ _ _ _ | exact tkG_z _ _ | exact enS_z _ _ _ | exact enO_z _ _ _ _ _ _) (Nat.le_refl _) (Nat.le_refl _) ⟨rfl, by clear hX h hl; first | rfl | (simp_all [tkIn, b01]; done) | grind [tkIn, b01], by clear hX h hl; first | rfl | (simp_all [tkIn, b01, up_rd]; done) | grind [tkIn, b01, up_rd, chgTo_rd, chg_rd, settle_rd, bnd_rd], rfl⟩
  · rw [show (Value.int (B 83 q)) = Value.int 4 by rw [hk]]
    refine j_tabIn (off := 56) (tgt := 66) h d_Srv_takeIn_10 (by decide +kernel) (by decide +kernel) (by decide +kernel) (by decide) ?_
    refine j_aload_n h d_Srv_takeIn_66 rfl ?_
    refine j_callV h (c_Rec_takeGiven _ _ _ _ _ _ _ _ _ hr) d_Srv_takeIn_67 ml_Srv_192 mv_Rec_takeGiven (by assumption) ⟨rfl, rfl⟩ rfl rfl (Nat.le_of_ble_eq_true rfl) (hR_of hX (by decide) (by decide)) (hf_of hX (by decide) (by decide)) ?_
    rintro _ _ _ _ ⟨rfl, rfl, rfl, rfl⟩
    exact j_zret hX d_Srv_takeIn_70 rfl (by first | exact Or.inl rfl | exact Or.inr rfl | exact b01_z _ | assumption | exact tkB_z _ _ _ _ _ | exact tkE_z _ _ _ _ _ _ _ _ | exact tkG_z _ _ | exact enS_z _ _ _ | exact enO_z _ _ _ _ _ _) (Nat.le_refl _) (Nat.le_refl _) ⟨rfl, by clear hX h hl; first | rfl | (simp_all [tkIn, b01]; done) | grind [tkIn, b01], by clear hX h hl; first | rfl | (simp_all [tkIn, b01, up_rd]; done) | grind [tkIn, b01, up_rd, chgTo_rd, chg_rd, settle_rd, bnd_rd], rfl⟩
  · have k1 : ¬ B 83 q = 1 := fun z => by rw [z] at hk; revert hk; decide
    have k2 : ¬ B 83 q = 2 := fun z => by rw [z] at hk; revert hk; decide
    have k3 : ¬ B 83 q = 3 := fun z => by rw [z] at hk; revert hk; decide
    have k4 : ¬ B 83 q = 4 := fun z => by rw [z] at hk; revert hk; decide
    refine j_tabOut (tgt := 84) h d_Srv_takeIn_10 hk (by decide) ?_
    refine j_iconst (v := 1) h d_Srv_takeIn_84 (by decide) ?_
    exact j_zret hX d_Srv_takeIn_85 rfl (by first | exact Or.inl rfl | exact Or.inr rfl | exact b01_z _ | assumption | exact tkB_z _ _ _ _ _ | exact tkE_z _ _ _ _ _ _ _ _ | exact tkG_z _ _ | exact enS_z _ _ _ | exact enO_z _ _ _ _ _ _) (Nat.le_refl _) (Nat.le_refl _) ⟨rfl, by clear hX h hl; first | rfl | (simp_all [tkIn, b01]; done) | grind [tkIn, b01], by clear hX h hl; first | rfl | (simp_all [tkIn, b01, up_rd]; done) | grind [tkIn, b01, up_rd, chgTo_rd, chg_rd, settle_rd, bnd_rd], rfl⟩
theorem d_Srv_hearAck_0 : decode b_Srv_hearAck 0 = .ok (.aload_n 0, 1) := by decide +kernel
theorem d_Srv_hearAck_1 : decode b_Srv_hearAck 1 = .ok (.getfield 26, 3) := by decide +kernel
theorem d_Srv_hearAck_4 : decode b_Srv_hearAck 4 = .ok (.aload_n 1, 1) := by decide +kernel
theorem d_Srv_hearAck_5 : decode b_Srv_hearAck 5 = .ok (.getfield 81, 3) := by decide +kernel
theorem d_Srv_hearAck_8 : decode b_Srv_hearAck 8 = .ok (.aaload, 1) := by decide +kernel
theorem d_Srv_hearAck_9 : decode b_Srv_hearAck 9 = .ok (.astore_n 2, 1) := by decide +kernel
theorem d_Srv_hearAck_10 : decode b_Srv_hearAck 10 = .ok (.aload_n 1, 1) := by decide +kernel
theorem d_Srv_hearAck_11 : decode b_Srv_hearAck 11 = .ok (.getfield 161, 3) := by decide +kernel
theorem d_Srv_hearAck_14 : decode b_Srv_hearAck 14 = .ok (.aload_n 2, 1) := by decide +kernel
theorem d_Srv_hearAck_15 : decode b_Srv_hearAck 15 = .ok (.getfield 162, 3) := by decide +kernel
theorem d_Srv_hearAck_18 : decode b_Srv_hearAck 18 = .ok (.if_icmp .gt 4, 3) := by decide +kernel
theorem d_Srv_hearAck_21 : decode b_Srv_hearAck 21 = .ok (.return_, 1) := by decide +kernel
theorem d_Srv_hearAck_22 : decode b_Srv_hearAck 22 = .ok (.aload_n 2, 1) := by decide +kernel
theorem d_Srv_hearAck_23 : decode b_Srv_hearAck 23 = .ok (.aload_n 1, 1) := by decide +kernel
theorem d_Srv_hearAck_24 : decode b_Srv_hearAck 24 = .ok (.invokevirtual 206, 3) := by decide +kernel
theorem d_Srv_hearAck_27 : decode b_Srv_hearAck 27 = .ok (.istore_n 3, 1) := by decide +kernel
theorem d_Srv_hearAck_28 : decode b_Srv_hearAck 28 = .ok (.aload_n 2, 1) := by decide +kernel
theorem d_Srv_hearAck_29 : decode b_Srv_hearAck 29 = .ok (.aload_n 1, 1) := by decide +kernel
theorem d_Srv_hearAck_30 : decode b_Srv_hearAck 30 = .ok (.invokevirtual 209, 3) := by decide +kernel
theorem d_Srv_hearAck_33 : decode b_Srv_hearAck 33 = .ok (.istore 4, 2) := by decide +kernel
theorem d_Srv_hearAck_35 : decode b_Srv_hearAck 35 = .ok (.iload_n 3, 1) := by decide +kernel
theorem d_Srv_hearAck_36 : decode b_Srv_hearAck 36 = .ok (.ifCond .ne 8, 3) := by decide +kernel
theorem d_Srv_hearAck_39 : decode b_Srv_hearAck 39 = .ok (.iload 4, 2) := by decide +kernel
theorem d_Srv_hearAck_41 : decode b_Srv_hearAck 41 = .ok (.ifCond .eq 7, 3) := by decide +kernel
theorem d_Srv_hearAck_44 : decode b_Srv_hearAck 44 = .ok (.aload_n 0, 1) := by decide +kernel
theorem d_Srv_hearAck_45 : decode b_Srv_hearAck 45 = .ok (.invokevirtual 65, 3) := by decide +kernel
theorem d_Srv_hearAck_48 : decode b_Srv_hearAck 48 = .ok (.return_, 1) := by decide +kernel
set_option maxRecDepth 100000 in
set_option maxHeartbeats 4000000 in
theorem c_Srv_hearAck (l : Launch) (K : Kx) (V : Vx) (A B C D : MI) (P : MP) (n : Nat) (cs : CS K V P n) (s : Nat) (hs : s < 2) (q : Nat) (hq : V.1 5 q) (a : Nat) (ha : a < n) (hqa : B 84 q = nI a) : Ct l K md_Srv_hearAck (2, 41) 0 0 [.ref (K.ad 1 s), .ref (K.ad 5 q)] V (bk4 A B C D) P (EQ V (none) (bk4 (hrAck A (32 * s + a) s (B 85 q) (B 86 q) (B 87 q) (B 94 q)) B C D) P) := by
  refine ct_of [(0, .ref (K.ad 1 s)), (1, .ref (K.ad 5 q))] (by decide) (Nat.le_of_ble_eq_true rfl) (ca_r (ca_r ca_n)) rfl ?_
  intro X hl hX
  have h : OkX X b_Srv_hearAck R_Srv K := hX.1
  have hN : X.nL = 5 := hX.2.1
  have hsv := cs_sv cs hs
  have hr := cs_rv cs hs ha
  refine j_aload_n h d_Srv_hearAck_0 rfl ?_
  refine j_getR h d_Srv_hearAck_1 fl_Srv_26 rfl (by assumption) (cs_rp cs hs) ?_
  refine j_aload_n h d_Srv_hearAck_4 rfl ?_
  refine j_get1e (v := nI a) h d_Srv_hearAck_5 fl_Srv_81 rfl (by assumption) hqa ?_
  refine j_recs h cs hs ha d_Srv_hearAck_8 ?_
  refine j_astore_n h d_Srv_hearAck_9 (Nat.lt_of_lt_of_eq (m := 5) (by decide) hN.symm) ?_
  refine j_aload_n h d_Srv_hearAck_10 rfl ?_
  refine j_get1 h d_Srv_hearAck_11 fl_Srv_161 rfl (by assumption) ?_
  refine j_aload_n h d_Srv_hearAck_14 rfl ?_
  refine j_get0 h d_Srv_hearAck_15 fl_Srv_162 rfl (by assumption) ?_
  refine j_ic_gt (tgt := 22) h d_Srv_hearAck_18 (by decide) (fun c1 => ?_) (fun c1 => ?_)
  · refine j_aload_n h d_Srv_hearAck_22 rfl ?_
    refine j_aload_n h d_Srv_hearAck_23 rfl ?_
    refine j_callV h (c_Rec_learnKnown _ _ _ _ _ _ _ _ _ hr _ hq) d_Srv_hearAck_24 ml_Srv_206 mv_Rec_learnKnown (by assumption) ⟨rfl, rfl⟩ rfl rfl (Nat.le_of_ble_eq_true rfl) (hR_of hX (by decide) (by decide)) (hf_of hX (by decide) (by decide)) ?_
    rintro _ _ _ _ ⟨rfl, rfl, rfl, rfl⟩
    refine j_istore_n h d_Srv_hearAck_27 (Nat.lt_of_lt_of_eq (m := 5) (by decide) hN.symm) ?_
    refine j_aload_n h d_Srv_hearAck_28 rfl ?_
    refine j_aload_n h d_Srv_hearAck_29 rfl ?_
    refine j_callV h (c_Rec_learnAcknowledged _ _ _ _ _ _ _ _ _ hr _ hq) d_Srv_hearAck_30 ml_Srv_209 mv_Rec_learnAcknowledged (by assumption) ⟨rfl, rfl⟩ rfl rfl (Nat.le_of_ble_eq_true rfl) (hR_of hX (by decide) (by decide)) (hf_of hX (by decide) (by decide)) ?_
    rintro _ _ _ _ ⟨rfl, rfl, rfl, rfl⟩
    refine j_istore h d_Srv_hearAck_33 (Nat.lt_of_lt_of_eq (m := 5) (by decide) hN.symm) ?_
    refine j_iload_n h d_Srv_hearAck_35 rfl ?_
    refine j_if_ne (tgt := 44) h d_Srv_hearAck_36 (by decide) (fun c2 => ?_) (fun c2 => ?_)
    · refine j_aload_n h d_Srv_hearAck_44 rfl ?_
      refine j_callV h (c_Srv_write _ _ _ _ _ _ _ _ _ hsv) d_Srv_hearAck_45 ml_Srv_65 mv_Srv_write (by assumption) ⟨rfl, rfl⟩ rfl rfl (Nat.le_of_ble_eq_true rfl) (hR_of hX (by decide) (by decide)) (hf_of hX (by decide) (by decide)) ?_
      rintro _ _ _ _ ⟨rfl, rfl, rfl, rfl⟩
      exact j_vret hX d_Srv_hearAck_48 rfl (Nat.le_refl _) (Nat.le_refl _) ⟨rfl, by clear hX h hl; first | rfl | (simp_all [hrAck]; done) | grind [hrAck], by clear hX h hl; first | rfl | (simp_all [hrAck, up_rd]; done) | grind [hrAck, up_rd, chgTo_rd, chg_rd, settle_rd, bnd_rd], rfl⟩
    · refine j_iload h d_Srv_hearAck_39 rfl ?_
      refine j_if_eq (tgt := 48) h d_Srv_hearAck_41 (by decide) (fun c3 => ?_) (fun c3 => ?_)
      · exact j_vret hX d_Srv_hearAck_48 rfl (Nat.le_refl _) (Nat.le_refl _) ⟨rfl, by clear hX h hl; first | rfl | (simp_all [hrAck]; done) | grind [hrAck], by clear hX h hl; first | rfl | (simp_all [hrAck, up_rd]; done) | grind [hrAck, up_rd, chgTo_rd, chg_rd, settle_rd, bnd_rd], rfl⟩
      · refine j_aload_n h d_Srv_hearAck_44 rfl ?_
        refine j_callV h (c_Srv_write _ _ _ _ _ _ _ _ _ hsv) d_Srv_hearAck_45 ml_Srv_65 mv_Srv_write (by assumption) ⟨rfl, rfl⟩ rfl rfl (Nat.le_of_ble_eq_true rfl) (hR_of hX (by decide) (by decide)) (hf_of hX (by decide) (by decide)) ?_
        rintro _ _ _ _ ⟨rfl, rfl, rfl, rfl⟩
        exact j_vret hX d_Srv_hearAck_48 rfl (Nat.le_refl _) (Nat.le_refl _) ⟨rfl, by clear hX h hl; first | rfl | (simp_all [hrAck]; done) | grind [hrAck], by clear hX h hl; first | rfl | (simp_all [hrAck, up_rd]; done) | grind [hrAck, up_rd, chgTo_rd, chg_rd, settle_rd, bnd_rd], rfl⟩
  · exact j_vret hX d_Srv_hearAck_21 rfl (Nat.le_refl _) (Nat.le_refl _) ⟨rfl, by clear hX h hl; first | rfl | (simp_all [hrAck]; done) | grind [hrAck], by clear hX h hl; first | rfl | (simp_all [hrAck, up_rd]; done) | grind [hrAck, up_rd, chgTo_rd, chg_rd, settle_rd, bnd_rd], rfl⟩
theorem d_Srv_release_0 : decode b_Srv_release 0 = .ok (.aload_n 0, 1) := by decide +kernel
theorem d_Srv_release_1 : decode b_Srv_release 1 = .ok (.getfield 26, 3) := by decide +kernel
theorem d_Srv_release_4 : decode b_Srv_release 4 = .ok (.aload_n 1, 1) := by decide +kernel
theorem d_Srv_release_5 : decode b_Srv_release 5 = .ok (.getfield 81, 3) := by decide +kernel
theorem d_Srv_release_8 : decode b_Srv_release 8 = .ok (.aaload, 1) := by decide +kernel
theorem d_Srv_release_9 : decode b_Srv_release 9 = .ok (.astore_n 2, 1) := by decide +kernel
theorem d_Srv_release_10 : decode b_Srv_release 10 = .ok (.aload_n 2, 1) := by decide +kernel
theorem d_Srv_release_11 : decode b_Srv_release 11 = .ok (.aload_n 1, 1) := by decide +kernel
theorem d_Srv_release_12 : decode b_Srv_release 12 = .ok (.getfield 84, 3) := by decide +kernel
theorem d_Srv_release_15 : decode b_Srv_release 15 = .ok (.invokevirtual 103, 3) := by decide +kernel
theorem d_Srv_release_18 : decode b_Srv_release 18 = .ok (.ifCond .eq 14, 3) := by decide +kernel
theorem d_Srv_release_21 : decode b_Srv_release 21 = .ok (.aload_n 2, 1) := by decide +kernel
theorem d_Srv_release_22 : decode b_Srv_release 22 = .ok (.getfield 133, 3) := by decide +kernel
theorem d_Srv_release_25 : decode b_Srv_release 25 = .ok (.aload_n 1, 1) := by decide +kernel
theorem d_Srv_release_26 : decode b_Srv_release 26 = .ok (.getfield 125, 3) := by decide +kernel
theorem d_Srv_release_29 : decode b_Srv_release 29 = .ok (.if_icmp .le 4, 3) := by decide +kernel
theorem d_Srv_release_32 : decode b_Srv_release 32 = .ok (.return_, 1) := by decide +kernel
theorem d_Srv_release_33 : decode b_Srv_release 33 = .ok (.aload_n 2, 1) := by decide +kernel
theorem d_Srv_release_34 : decode b_Srv_release 34 = .ok (.aload_n 1, 1) := by decide +kernel
theorem d_Srv_release_35 : decode b_Srv_release 35 = .ok (.getfield 125, 3) := by decide +kernel
theorem d_Srv_release_38 : decode b_Srv_release 38 = .ok (.putfield 133, 3) := by decide +kernel
theorem d_Srv_release_41 : decode b_Srv_release 41 = .ok (.aload_n 2, 1) := by decide +kernel
theorem d_Srv_release_42 : decode b_Srv_release 42 = .ok (.iconst 1, 1) := by decide +kernel
theorem d_Srv_release_43 : decode b_Srv_release 43 = .ok (.putfield 148, 3) := by decide +kernel
theorem d_Srv_release_46 : decode b_Srv_release 46 = .ok (.aload_n 2, 1) := by decide +kernel
theorem d_Srv_release_47 : decode b_Srv_release 47 = .ok (.aload_n 0, 1) := by decide +kernel
theorem d_Srv_release_48 : decode b_Srv_release 48 = .ok (.getfield 33, 3) := by decide +kernel
theorem d_Srv_release_51 : decode b_Srv_release 51 = .ok (.iconst 3, 1) := by decide +kernel
theorem d_Srv_release_52 : decode b_Srv_release 52 = .ok (.if_icmp .ne 14, 3) := by decide +kernel
theorem d_Srv_release_55 : decode b_Srv_release 55 = .ok (.aload_n 2, 1) := by decide +kernel
theorem d_Srv_release_56 : decode b_Srv_release 56 = .ok (.getfield 62, 3) := by decide +kernel
theorem d_Srv_release_59 : decode b_Srv_release 59 = .ok (.ifCond .eq 7, 3) := by decide +kernel
theorem d_Srv_release_62 : decode b_Srv_release 62 = .ok (.iconst 1, 1) := by decide +kernel
theorem d_Srv_release_63 : decode b_Srv_release 63 = .ok (.goto 4, 3) := by decide +kernel
theorem d_Srv_release_66 : decode b_Srv_release 66 = .ok (.iconst 3, 1) := by decide +kernel
theorem d_Srv_release_67 : decode b_Srv_release 67 = .ok (.invokevirtual 151, 3) := by decide +kernel
theorem d_Srv_release_70 : decode b_Srv_release 70 = .ok (.aload_n 0, 1) := by decide +kernel
theorem d_Srv_release_71 : decode b_Srv_release 71 = .ok (.invokevirtual 65, 3) := by decide +kernel
theorem d_Srv_release_74 : decode b_Srv_release 74 = .ok (.return_, 1) := by decide +kernel
set_option maxRecDepth 100000 in
set_option maxHeartbeats 4000000 in
theorem c_Srv_release (l : Launch) (K : Kx) (V : Vx) (A B C D : MI) (P : MP) (n : Nat) (cs : CS K V P n) (s : Nat) (hs : s < 2) (q : Nat) (hq : V.1 5 q) (a : Nat) (ha : a < n) (hqa : B 84 q = nI a) : Ct l K md_Srv_release (2, 41) 0 0 [.ref (K.ad 1 s), .ref (K.ad 5 q)] V (bk4 A B C D) P (EQ V (none) (bk4 (hrRel A (32 * s + a) s (B 82 q) (B 85 q)) B C D) P) := by
  refine ct_of [(0, .ref (K.ad 1 s)), (1, .ref (K.ad 5 q))] (by decide) (Nat.le_of_ble_eq_true rfl) (ca_r (ca_r ca_n)) rfl ?_
  intro X hl hX
  have h : OkX X b_Srv_release R_Srv K := hX.1
  have hN : X.nL = 3 := hX.2.1
  have hsv := cs_sv cs hs
  have hr := cs_rv cs hs ha
  refine j_aload_n h d_Srv_release_0 rfl ?_
  refine j_getR h d_Srv_release_1 fl_Srv_26 rfl (by assumption) (cs_rp cs hs) ?_
  refine j_aload_n h d_Srv_release_4 rfl ?_
  refine j_get1e (v := nI a) h d_Srv_release_5 fl_Srv_81 rfl (by assumption) hqa ?_
  refine j_recs h cs hs ha d_Srv_release_8 ?_
  refine j_astore_n h d_Srv_release_9 (Nat.lt_of_lt_of_eq (m := 3) (by decide) hN.symm) ?_
  refine j_aload_n h d_Srv_release_10 rfl ?_
  refine j_aload_n h d_Srv_release_11 rfl ?_
  refine j_get1 h d_Srv_release_12 fl_Srv_84 rfl (by assumption) ?_
  refine j_callV h (c_Rec_isBoundTo _ _ _ _ _ _ _ _ _ hr _) d_Srv_release_15 ml_Srv_103 mv_Rec_isBoundTo (by assumption) ⟨rfl, rfl⟩ rfl rfl (Nat.le_of_ble_eq_true rfl) (hR_of hX (by decide) (by decide)) (hf_of hX (by decide) (by decide)) ?_
  rintro _ _ _ _ ⟨rfl, rfl, rfl, rfl⟩
  refine j_if_eq (tgt := 32) h d_Srv_release_18 (by decide) (fun c1 => ?_) (fun c1 => ?_)
  · exact j_vret hX d_Srv_release_32 rfl (Nat.le_refl _) (Nat.le_refl _) ⟨rfl, by clear hX h hl; first | rfl | (simp_all [hrRel, b01]; done) | grind [hrRel, b01], by clear hX h hl; first | rfl | (simp_all [hrRel, b01, up_rd]; done) | grind [hrRel, b01, up_rd, chgTo_rd, chg_rd, settle_rd, bnd_rd], rfl⟩
  · refine j_aload_n h d_Srv_release_21 rfl ?_
    refine j_get0 h d_Srv_release_22 fl_Srv_133 rfl (by assumption) ?_
    refine j_aload_n h d_Srv_release_25 rfl ?_
    refine j_get1 h d_Srv_release_26 fl_Srv_125 rfl (by assumption) ?_
    refine j_ic_le (tgt := 33) h d_Srv_release_29 (by decide) (fun c2 => ?_) (fun c2 => ?_)
    · refine j_aload_n h d_Srv_release_33 rfl ?_
      refine j_aload_n h d_Srv_release_34 rfl ?_
      refine j_get1 h d_Srv_release_35 fl_Srv_125 rfl (by assumption) ?_
      refine j_put0 h d_Srv_release_38 fw_Srv_133 rfl rfl (by assumption) ?_
      refine j_aload_n h d_Srv_release_41 rfl ?_
      refine j_iconst (v := 1) h d_Srv_release_42 (by decide) ?_
      refine j_putZ0 h d_Srv_release_43 fw_Srv_148 rfl rfl (by assumption) (by first | exact Or.inl rfl | exact Or.inr rfl | assumption) ?_
      refine j_aload_n h d_Srv_release_46 rfl ?_
      refine j_aload_n h d_Srv_release_47 rfl ?_
      refine j_get0 h d_Srv_release_48 fl_Srv_33 rfl (by assumption) ?_
      refine j_iconst (v := 3) h d_Srv_release_51 (by decide) ?_
      refine j_ic_ne (tgt := 66) h d_Srv_release_52 (by decide) (fun c3 => ?_) (fun c3 => ?_)
      · refine j_iconst (v := 3) h d_Srv_release_66 (by decide) ?_
        refine j_callV h (c_Rec_changeTo _ _ _ _ _ _ _ _ _ hr _) d_Srv_release_67 ml_Srv_151 mv_Rec_changeTo (by assumption) ⟨rfl, rfl⟩ rfl rfl (Nat.le_of_ble_eq_true rfl) (hR_of hX (by decide) (by decide)) (hf_of hX (by decide) (by decide)) ?_
        rintro _ _ _ _ ⟨rfl, rfl, rfl, rfl⟩
        refine j_aload_n h d_Srv_release_70 rfl ?_
        refine j_callV h (c_Srv_write _ _ _ _ _ _ _ _ _ hsv) d_Srv_release_71 ml_Srv_65 mv_Srv_write (by assumption) ⟨rfl, rfl⟩ rfl rfl (Nat.le_of_ble_eq_true rfl) (hR_of hX (by decide) (by decide)) (hf_of hX (by decide) (by decide)) ?_
        rintro _ _ _ _ ⟨rfl, rfl, rfl, rfl⟩
        exact j_vret hX d_Srv_release_74 rfl (Nat.le_refl _) (Nat.le_refl _) ⟨rfl, by clear hX h hl; first | rfl | (simp_all [hrRel, b01]; done) | grind [hrRel, b01], by clear hX h hl; first | rfl | (simp_all [hrRel, b01, up_rd]; done) | grind [hrRel, b01, up_rd, chgTo_rd, chg_rd, settle_rd, bnd_rd], rfl⟩
      · refine j_aload_n h d_Srv_release_55 rfl ?_
        refine j_get0 h d_Srv_release_56 fl_Srv_62 rfl (by assumption) ?_
        refine j_if_eq (tgt := 66) h d_Srv_release_59 (by decide) (fun c4 => ?_) (fun c4 => ?_)
        · refine j_iconst (v := 3) h d_Srv_release_66 (by decide) ?_
          refine j_callV h (c_Rec_changeTo _ _ _ _ _ _ _ _ _ hr _) d_Srv_release_67 ml_Srv_151 mv_Rec_changeTo (by assumption) ⟨rfl, rfl⟩ rfl rfl (Nat.le_of_ble_eq_true rfl) (hR_of hX (by decide) (by decide)) (hf_of hX (by decide) (by decide)) ?_
          rintro _ _ _ _ ⟨rfl, rfl, rfl, rfl⟩
          refine j_aload_n h d_Srv_release_70 rfl ?_
          refine j_callV h (c_Srv_write _ _ _ _ _ _ _ _ _ hsv) d_Srv_release_71 ml_Srv_65 mv_Srv_write (by assumption) ⟨rfl, rfl⟩ rfl rfl (Nat.le_of_ble_eq_true rfl) (hR_of hX (by decide) (by decide)) (hf_of hX (by decide) (by decide)) ?_
          rintro _ _ _ _ ⟨rfl, rfl, rfl, rfl⟩
          exact j_vret hX d_Srv_release_74 rfl (Nat.le_refl _) (Nat.le_refl _) ⟨rfl, by clear hX h hl; first | rfl | (simp_all [hrRel, b01]; done) | grind [hrRel, b01], by clear hX h hl; first | rfl | (simp_all [hrRel, b01, up_rd]; done) | grind [hrRel, b01, up_rd, chgTo_rd, chg_rd, settle_rd, bnd_rd], rfl⟩
        · refine j_iconst (v := 1) h d_Srv_release_62 (by decide) ?_
          refine j_goto (tgt := 67) h d_Srv_release_63 (by decide) ?_
          refine j_callV h (c_Rec_changeTo _ _ _ _ _ _ _ _ _ hr _) d_Srv_release_67 ml_Srv_151 mv_Rec_changeTo (by assumption) ⟨rfl, rfl⟩ rfl rfl (Nat.le_of_ble_eq_true rfl) (hR_of hX (by decide) (by decide)) (hf_of hX (by decide) (by decide)) ?_
          rintro _ _ _ _ ⟨rfl, rfl, rfl, rfl⟩
          refine j_aload_n h d_Srv_release_70 rfl ?_
          refine j_callV h (c_Srv_write _ _ _ _ _ _ _ _ _ hsv) d_Srv_release_71 ml_Srv_65 mv_Srv_write (by assumption) ⟨rfl, rfl⟩ rfl rfl (Nat.le_of_ble_eq_true rfl) (hR_of hX (by decide) (by decide)) (hf_of hX (by decide) (by decide)) ?_
          rintro _ _ _ _ ⟨rfl, rfl, rfl, rfl⟩
          exact j_vret hX d_Srv_release_74 rfl (Nat.le_refl _) (Nat.le_refl _) ⟨rfl, by clear hX h hl; first | rfl | (simp_all [hrRel, b01]; done) | grind [hrRel, b01], by clear hX h hl; first | rfl | (simp_all [hrRel, b01, up_rd]; done) | grind [hrRel, b01, up_rd, chgTo_rd, chg_rd, settle_rd, bnd_rd], rfl⟩
    · exact j_vret hX d_Srv_release_32 rfl (Nat.le_refl _) (Nat.le_refl _) ⟨rfl, by clear hX h hl; first | rfl | (simp_all [hrRel, b01]; done) | grind [hrRel, b01], by clear hX h hl; first | rfl | (simp_all [hrRel, b01, up_rd]; done) | grind [hrRel, b01, up_rd, chgTo_rd, chg_rd, settle_rd, bnd_rd], rfl⟩
theorem d_Srv_renew_0 : decode b_Srv_renew 0 = .ok (.aload_n 0, 1) := by decide +kernel
theorem d_Srv_renew_1 : decode b_Srv_renew 1 = .ok (.getfield 26, 3) := by decide +kernel
theorem d_Srv_renew_4 : decode b_Srv_renew 4 = .ok (.iload_n 2, 1) := by decide +kernel
theorem d_Srv_renew_5 : decode b_Srv_renew 5 = .ok (.aaload, 1) := by decide +kernel
theorem d_Srv_renew_6 : decode b_Srv_renew 6 = .ok (.astore 4, 2) := by decide +kernel
theorem d_Srv_renew_8 : decode b_Srv_renew 8 = .ok (.aload 4, 2) := by decide +kernel
theorem d_Srv_renew_10 : decode b_Srv_renew 10 = .ok (.aload_n 1, 1) := by decide +kernel
theorem d_Srv_renew_11 : decode b_Srv_renew 11 = .ok (.getfield 84, 3) := by decide +kernel
theorem d_Srv_renew_14 : decode b_Srv_renew 14 = .ok (.invokevirtual 103, 3) := by decide +kernel
theorem d_Srv_renew_17 : decode b_Srv_renew 17 = .ok (.ifCond .ne 5, 3) := by decide +kernel
theorem d_Srv_renew_20 : decode b_Srv_renew 20 = .ok (.iconst (-1), 1) := by decide +kernel
theorem d_Srv_renew_21 : decode b_Srv_renew 21 = .ok (.ireturn, 1) := by decide +kernel
theorem d_Srv_renew_22 : decode b_Srv_renew 22 = .ok (.aload 4, 2) := by decide +kernel
theorem d_Srv_renew_24 : decode b_Srv_renew 24 = .ok (.getfield 133, 3) := by decide +kernel
theorem d_Srv_renew_27 : decode b_Srv_renew 27 = .ok (.aload_n 1, 1) := by decide +kernel
theorem d_Srv_renew_28 : decode b_Srv_renew 28 = .ok (.getfield 125, 3) := by decide +kernel
theorem d_Srv_renew_31 : decode b_Srv_renew 31 = .ok (.if_icmp .le 6, 3) := by decide +kernel
theorem d_Srv_renew_34 : decode b_Srv_renew 34 = .ok (.bipush (-2), 2) := by decide +kernel
theorem d_Srv_renew_36 : decode b_Srv_renew 36 = .ok (.ireturn, 1) := by decide +kernel
theorem d_Srv_renew_37 : decode b_Srv_renew 37 = .ok (.aload 4, 2) := by decide +kernel
theorem d_Srv_renew_39 : decode b_Srv_renew 39 = .ok (.getfield 107, 3) := by decide +kernel
theorem d_Srv_renew_42 : decode b_Srv_renew 42 = .ok (.iload_n 3, 1) := by decide +kernel
theorem d_Srv_renew_43 : decode b_Srv_renew 43 = .ok (.if_icmp .gt 5, 3) := by decide +kernel
theorem d_Srv_renew_46 : decode b_Srv_renew 46 = .ok (.iconst (-1), 1) := by decide +kernel
theorem d_Srv_renew_47 : decode b_Srv_renew 47 = .ok (.ireturn, 1) := by decide +kernel
theorem d_Srv_renew_48 : decode b_Srv_renew 48 = .ok (.iload_n 3, 1) := by decide +kernel
theorem d_Srv_renew_49 : decode b_Srv_renew 49 = .ok (.aload_n 1, 1) := by decide +kernel
theorem d_Srv_renew_50 : decode b_Srv_renew 50 = .ok (.getfield 114, 3) := by decide +kernel
theorem d_Srv_renew_53 : decode b_Srv_renew 53 = .ok (.iadd, 1) := by decide +kernel
theorem d_Srv_renew_54 : decode b_Srv_renew 54 = .ok (.istore 5, 2) := by decide +kernel
theorem d_Srv_renew_56 : decode b_Srv_renew 56 = .ok (.aload_n 0, 1) := by decide +kernel
theorem d_Srv_renew_57 : decode b_Srv_renew 57 = .ok (.getfield 33, 3) := by decide +kernel
theorem d_Srv_renew_60 : decode b_Srv_renew 60 = .ok (.iconst 2, 1) := by decide +kernel
theorem d_Srv_renew_61 : decode b_Srv_renew 61 = .ok (.if_icmp .ne 24, 3) := by decide +kernel
theorem d_Srv_renew_64 : decode b_Srv_renew 64 = .ok (.iload 5, 2) := by decide +kernel
theorem d_Srv_renew_66 : decode b_Srv_renew 66 = .ok (.aload 4, 2) := by decide +kernel
theorem d_Srv_renew_68 : decode b_Srv_renew 68 = .ok (.getfield 136, 3) := by decide +kernel
theorem d_Srv_renew_71 : decode b_Srv_renew 71 = .ok (.iload_n 3, 1) := by decide +kernel
theorem d_Srv_renew_72 : decode b_Srv_renew 72 = .ok (.invokestatic 139, 3) := by decide +kernel
theorem d_Srv_renew_75 : decode b_Srv_renew 75 = .ok (.aload_n 0, 1) := by decide +kernel
theorem d_Srv_renew_76 : decode b_Srv_renew 76 = .ok (.getfield 18, 3) := by decide +kernel
theorem d_Srv_renew_79 : decode b_Srv_renew 79 = .ok (.iadd, 1) := by decide +kernel
theorem d_Srv_renew_80 : decode b_Srv_renew 80 = .ok (.invokestatic 117, 3) := by decide +kernel
theorem d_Srv_renew_83 : decode b_Srv_renew 83 = .ok (.istore 5, 2) := by decide +kernel
theorem d_Srv_renew_85 : decode b_Srv_renew 85 = .ok (.aload 4, 2) := by decide +kernel
theorem d_Srv_renew_87 : decode b_Srv_renew 87 = .ok (.aload_n 1, 1) := by decide +kernel
theorem d_Srv_renew_88 : decode b_Srv_renew 88 = .ok (.getfield 125, 3) := by decide +kernel
theorem d_Srv_renew_91 : decode b_Srv_renew 91 = .ok (.putfield 133, 3) := by decide +kernel
theorem d_Srv_renew_94 : decode b_Srv_renew 94 = .ok (.aload 4, 2) := by decide +kernel
theorem d_Srv_renew_96 : decode b_Srv_renew 96 = .ok (.aload 4, 2) := by decide +kernel
theorem d_Srv_renew_98 : decode b_Srv_renew 98 = .ok (.getfield 107, 3) := by decide +kernel
theorem d_Srv_renew_101 : decode b_Srv_renew 101 = .ok (.iload 5, 2) := by decide +kernel
theorem d_Srv_renew_103 : decode b_Srv_renew 103 = .ok (.invokestatic 139, 3) := by decide +kernel
theorem d_Srv_renew_106 : decode b_Srv_renew 106 = .ok (.putfield 107, 3) := by decide +kernel
theorem d_Srv_renew_109 : decode b_Srv_renew 109 = .ok (.aload 4, 2) := by decide +kernel
theorem d_Srv_renew_111 : decode b_Srv_renew 111 = .ok (.invokevirtual 122, 3) := by decide +kernel
theorem d_Srv_renew_114 : decode b_Srv_renew 114 = .ok (.iload_n 2, 1) := by decide +kernel
theorem d_Srv_renew_115 : decode b_Srv_renew 115 = .ok (.ireturn, 1) := by decide +kernel
set_option maxRecDepth 100000 in
set_option maxHeartbeats 4000000 in
theorem c_Srv_renew (l : Launch) (K : Kx) (V : Vx) (A B C D : MI) (P : MP) (n : Nat) (cs : CS K V P n) (s : Nat) (hs : s < 2) (q : Nat) (hq : V.1 5 q) (a : Nat) (ha : a < n) (t : Int32) : Ct l K md_Srv_renew (1, 21) 0 0 [.ref (K.ad 1 s), .ref (K.ad 5 q), .int (nI a), .int t] V (bk4 A B C D) P (EQ V (some (.int (rnw A (32 * s + a) s a (B 62 s) t (B 82 q) (B 86 q) (B 85 q)).1)) (bk4 (rnw A (32 * s + a) s a (B 62 s) t (B 82 q) (B 86 q) (B 85 q)).2 B C D) P) := by
  refine ct_of [(0, .ref (K.ad 1 s)), (1, .ref (K.ad 5 q)), (2, .int (nI a)), (3, .int t)] (by decide) (Nat.le_of_ble_eq_true rfl) (ca_r (ca_r (ca_i (ca_i ca_n)))) rfl ?_
  intro X hl hX
  have h : OkX X b_Srv_renew R_Srv K := hX.1
  have hN : X.nL = 6 := hX.2.1
  have hsv := cs_sv cs hs
  have hr := cs_rv cs hs ha
  refine j_aload_n h d_Srv_renew_0 rfl ?_
  refine j_getR h d_Srv_renew_1 fl_Srv_26 rfl (by assumption) (cs_rp cs hs) ?_
  refine j_iload_n h d_Srv_renew_4 rfl ?_
  refine j_recs h cs hs ha d_Srv_renew_5 ?_
  refine j_astore h d_Srv_renew_6 (Nat.lt_of_lt_of_eq (m := 6) (by decide) hN.symm) ?_
  refine j_aload h d_Srv_renew_8 rfl ?_
  refine j_aload_n h d_Srv_renew_10 rfl ?_
  refine j_get1 h d_Srv_renew_11 fl_Srv_84 rfl (by assumption) ?_
  refine j_callV h (c_Rec_isBoundTo _ _ _ _ _ _ _ _ _ hr _) d_Srv_renew_14 ml_Srv_103 mv_Rec_isBoundTo (by assumption) ⟨rfl, rfl⟩ rfl rfl (Nat.le_of_ble_eq_true rfl) (hR_of hX (by decide) (by decide)) (hf_of hX (by decide) (by decide)) ?_
  rintro _ _ _ _ ⟨rfl, rfl, rfl, rfl⟩
  refine j_if_ne (tgt := 22) h d_Srv_renew_17 (by decide) (fun c1 => ?_) (fun c1 => ?_)
  · refine j_aload h d_Srv_renew_22 rfl ?_
    refine j_get0 h d_Srv_renew_24 fl_Srv_133 rfl (by assumption) ?_
    refine j_aload_n h d_Srv_renew_27 rfl ?_
    refine j_get1 h d_Srv_renew_28 fl_Srv_125 rfl (by assumption) ?_
    refine j_ic_le (tgt := 37) h d_Srv_renew_31 (by decide) (fun c2 => ?_) (fun c2 => ?_)
    · refine j_aload h d_Srv_renew_37 rfl ?_
      refine j_get0 h d_Srv_renew_39 fl_Srv_107 rfl (by assumption) ?_
      refine j_iload_n h d_Srv_renew_42 rfl ?_
      refine j_ic_gt (tgt := 48) h d_Srv_renew_43 (by decide) (fun c3 => ?_) (fun c3 => ?_)
      · refine j_iload_n h d_Srv_renew_48 rfl ?_
        refine j_aload_n h d_Srv_renew_49 rfl ?_
        refine j_get1 h d_Srv_renew_50 fl_Srv_114 rfl (by assumption) ?_
        refine j_iadd h d_Srv_renew_53 ?_
        refine j_istore h d_Srv_renew_54 (Nat.lt_of_lt_of_eq (m := 6) (by decide) hN.symm) ?_
        refine j_aload_n h d_Srv_renew_56 rfl ?_
        refine j_get0 h d_Srv_renew_57 fl_Srv_33 rfl (by assumption) ?_
        refine j_iconst (v := 2) h d_Srv_renew_60 (by decide) ?_
        refine j_ic_ne (tgt := 85) h d_Srv_renew_61 (by decide) (fun c4 => ?_) (fun c4 => ?_)
        · refine j_aload h d_Srv_renew_85 rfl ?_
          refine j_aload_n h d_Srv_renew_87 rfl ?_
          refine j_get1 h d_Srv_renew_88 fl_Srv_125 rfl (by assumption) ?_
          refine j_put0 h d_Srv_renew_91 fw_Srv_133 rfl rfl (by assumption) ?_
          refine j_aload h d_Srv_renew_94 rfl ?_
          refine j_aload h d_Srv_renew_96 rfl ?_
          refine j_get0 h d_Srv_renew_98 fl_Srv_107 rfl (by assumption) ?_
          refine j_iload h d_Srv_renew_101 rfl ?_
          refine j_mmax h d_Srv_renew_103 wm_Srv_139 (hM_of hX (by decide) (Nat.le_of_ble_eq_true rfl)) (hf_of (mc' := 0) (ms' := 0) hX (by decide) (by decide)) ?_
          refine j_put0 h d_Srv_renew_106 fw_Srv_107 rfl rfl (by assumption) ?_
          refine j_aload h d_Srv_renew_109 rfl ?_
          refine j_callV h (c_Rec_change _ _ _ _ _ _ _ _ _ hr) d_Srv_renew_111 ml_Srv_122 mv_Rec_change (by assumption) ⟨rfl, rfl⟩ rfl rfl (Nat.le_of_ble_eq_true rfl) (hR_of hX (by decide) (by decide)) (hf_of hX (by decide) (by decide)) ?_
          rintro _ _ _ _ ⟨rfl, rfl, rfl, rfl⟩
          refine j_iload_n h d_Srv_renew_114 rfl ?_
          exact j_iret hX d_Srv_renew_115 rfl (Nat.le_refl _) (Nat.le_refl _) ⟨rfl, by clear hX h hl; first | rfl | (simp_all [rnw, b01]; done) | grind [rnw, b01], by clear hX h hl; first | rfl | (simp_all [rnw, b01, up_rd]; done) | grind [rnw, b01, up_rd, chgTo_rd, chg_rd, settle_rd, bnd_rd], rfl⟩
        · refine j_iload h d_Srv_renew_64 rfl ?_
          refine j_aload h d_Srv_renew_66 rfl ?_
          refine j_get0 h d_Srv_renew_68 fl_Srv_136 rfl (by assumption) ?_
          refine j_iload_n h d_Srv_renew_71 rfl ?_
          refine j_mmax h d_Srv_renew_72 wm_Srv_139 (hM_of hX (by decide) (Nat.le_of_ble_eq_true rfl)) (hf_of (mc' := 0) (ms' := 0) hX (by decide) (by decide)) ?_
          refine j_aload_n h d_Srv_renew_75 rfl ?_
          refine j_get1 h d_Srv_renew_76 fl_Srv_18 rfl (by assumption) ?_
          refine j_iadd h d_Srv_renew_79 ?_
          refine j_mmin h d_Srv_renew_80 wm_Srv_117 (hM_of hX (by decide) (Nat.le_of_ble_eq_true rfl)) (hf_of (mc' := 0) (ms' := 0) hX (by decide) (by decide)) ?_
          refine j_istore h d_Srv_renew_83 (Nat.lt_of_lt_of_eq (m := 6) (by decide) hN.symm) ?_
          refine j_aload h d_Srv_renew_85 rfl ?_
          refine j_aload_n h d_Srv_renew_87 rfl ?_
          refine j_get1 h d_Srv_renew_88 fl_Srv_125 rfl (by assumption) ?_
          refine j_put0 h d_Srv_renew_91 fw_Srv_133 rfl rfl (by assumption) ?_
          refine j_aload h d_Srv_renew_94 rfl ?_
          refine j_aload h d_Srv_renew_96 rfl ?_
          refine j_get0 h d_Srv_renew_98 fl_Srv_107 rfl (by assumption) ?_
          refine j_iload h d_Srv_renew_101 rfl ?_
          refine j_mmax h d_Srv_renew_103 wm_Srv_139 (hM_of hX (by decide) (Nat.le_of_ble_eq_true rfl)) (hf_of (mc' := 0) (ms' := 0) hX (by decide) (by decide)) ?_
          refine j_put0 h d_Srv_renew_106 fw_Srv_107 rfl rfl (by assumption) ?_
          refine j_aload h d_Srv_renew_109 rfl ?_
          refine j_callV h (c_Rec_change _ _ _ _ _ _ _ _ _ hr) d_Srv_renew_111 ml_Srv_122 mv_Rec_change (by assumption) ⟨rfl, rfl⟩ rfl rfl (Nat.le_of_ble_eq_true rfl) (hR_of hX (by decide) (by decide)) (hf_of hX (by decide) (by decide)) ?_
          rintro _ _ _ _ ⟨rfl, rfl, rfl, rfl⟩
          refine j_iload_n h d_Srv_renew_114 rfl ?_
          exact j_iret hX d_Srv_renew_115 rfl (Nat.le_refl _) (Nat.le_refl _) ⟨rfl, by clear hX h hl; first | rfl | (simp_all [rnw, b01]; done) | grind [rnw, b01], by clear hX h hl; first | rfl | (simp_all [rnw, b01, up_rd]; done) | grind [rnw, b01, up_rd, chgTo_rd, chg_rd, settle_rd, bnd_rd], rfl⟩
      · refine j_iconst (v := -1) h d_Srv_renew_46 (by decide) ?_
        exact j_iret hX d_Srv_renew_47 rfl (Nat.le_refl _) (Nat.le_refl _) ⟨rfl, by clear hX h hl; first | rfl | (simp_all [rnw, b01]; done) | grind [rnw, b01], by clear hX h hl; first | rfl | (simp_all [rnw, b01, up_rd]; done) | grind [rnw, b01, up_rd, chgTo_rd, chg_rd, settle_rd, bnd_rd], rfl⟩
    · refine j_bipush (v := -2) h d_Srv_renew_34 (by decide) ?_
      exact j_iret hX d_Srv_renew_36 rfl (Nat.le_refl _) (Nat.le_refl _) ⟨rfl, by clear hX h hl; first | rfl | (simp_all [rnw, b01]; done) | grind [rnw, b01], by clear hX h hl; first | rfl | (simp_all [rnw, b01, up_rd]; done) | grind [rnw, b01, up_rd, chgTo_rd, chg_rd, settle_rd, bnd_rd], rfl⟩
  · refine j_iconst (v := -1) h d_Srv_renew_20 (by decide) ?_
    exact j_iret hX d_Srv_renew_21 rfl (Nat.le_refl _) (Nat.le_refl _) ⟨rfl, by clear hX h hl; first | rfl | (simp_all [rnw, b01]; done) | grind [rnw, b01], by clear hX h hl; first | rfl | (simp_all [rnw, b01, up_rd]; done) | grind [rnw, b01, up_rd, chgTo_rd, chg_rd, settle_rd, bnd_rd], rfl⟩
end
section
/-! the net: a ring of messages -/
abbrev Msg : Type := Nat → Int32
/-- the ring: array t is the ring, g u j the message at place j of array u, f the first place, c how many -/
def RG (K : Kx) (P : MP) (B : MI) (t : Nat) (g : Nat → Nat → Nat) (f c : Nat) : Prop :=
  t < 2 ∧ f < 300 ∧ c ≤ 300 ∧ B 70 0 = nI f ∧ B 72 0 = nI c ∧ P 5 0 = some (K.aad (4 + t)) ∧ P 6 0 = some (K.aad (5 - t)) ∧
  (∀ u j, u < 2 → j < 300 → P (14 + u) j = some (K.ad 5 (g u j)) ∧ g u j < 600) ∧ ∀ u j u' j', u < 2 → j < 300 → u' < 2 → j' < 300 → g u j = g u' j' → u = u' ∧ j = j'
/-- the message q says x -/
def CM (B : MI) (q : Nat) (x : Msg) : Prop := (∀ w, w < 7 → B (80 + w) q = x w) ∧ (x 0 = 3 → ∀ w, w < 14 → B (80 + w) q = x w) ∧ (x 0 = 4 → B 87 q = x 7 ∧ B 94 q = x 8)
/-- what the two servers are -/
def KB (B : MI) (ld sk : Int32) : Prop := ∀ s, s < 2 → B 60 s = nI s ∧ B 61 s = nI (1 - s) ∧ B 62 s = ld ∧ B 63 s = sk
def NCw (K : Kx) (P : MP) (B : MI) (N T : List Msg) (U : Msg) (t : Nat) (g : Nat → Nat → Nat) (f ft : Nat) : Prop :=
  RG K P B t g f N.length ∧ (∀ k x, N[k]? = some x → CM B (g t ((f + k) % 300)) x) ∧ B 71 0 = nI ft ∧ ft < 300 ∧ (∀ k x, T[k]? = some x → k < 300 ∧ CM B (g (1 - t) ((ft + k) % 300)) x) ∧ CM B 600 U ∧ ∀ q, q < 601 → B 91 q = 0 ∨ B 91 q = 1
def NC (K : Kx) (P : MP) (B : MI) (ld sk : Int32) (N T : List Msg) (U : Msg) : Prop := KB B ld sk ∧ ∃ t g f ft, NCw K P B N T U t g f ft
def netput (x : Msg) (N : List Msg) : List Msg := if N.length = 300 then N.tail ++ [x] else N ++ [x]
def NP (K : Kx) (V : Vx) (C D : MI) (P : MP) (ld sk : Int32) (r : Option Value) (A : MI) (N T : List Msg) (U : Msg) : Px := fun V' r' I' P' => V' = V ∧ r' = r ∧ P' = P ∧ ∃ B, I' = bk4 A B C D ∧ NC K P B ld sk N T U
theorem rem300 {a : Nat} (h : a < 2 ^ 31) : nI a - nI a / 300 * 300 = nI (a % 300) := pk_rem (d := 300) h (by decide) (by decide)
section JN
variable {X : Jx} {cc : ByteArray} {own : String} {K : Kx} {V : Vx} {I : MI3} {P : MP} {cells slots pc : Nat} {lv : List (Nat × Value)} {st : List Value} {n : Nat}
theorem ai_msg {t : Nat} (h : t < 2) : ainf (4 + t) = (2, 9, 14 + t) ∧ aty (4 + t) = 6 := by
  rcases (show t = 0 ∨ t = 1 by omega) with rfl | rfl <;> exact ⟨rfl, rfl⟩
theorem cs_ml (c : CS K V P n) {t : Nat} (h : t < 2) : K.alen (4 + t) = 300 := by
  rcases (show t = 0 ∨ t = 1 by omega) with rfl | rfl
  · exact c.2.1.2.2.2.2.2.1
  · exact c.2.1.2.2.2.2.2.2
theorem j_ring (h : OkX X cc own K) (cs : CS K V P n) {t j q : Nat} {x : Int32} (ht : t < 2) (hx : x = nI j) (hj : j < 300) (hp : P (14 + t) j = some q) (d : decode cc pc = .ok (.aaload, 1)) (kk : J X K V I P cells slots (pc + 1) lv (.ref q :: st)) : J X K V I P cells slots pc lv (.int x :: .ref (K.aad (4 + t)) :: st) :=
  j_aald (C := "LeasePair$Message") h d (ai_msg ht).1 ⟨by rw [(ai_msg ht).2]; rfl, by rw [(ai_msg ht).2]; decide⟩ (cs_av cs (by omega)) hx (by rw [cs_ml cs ht]; exact hj) (by rw [cs_ml cs ht]; decide) hp kk
end JN
theorem d_Net_at_0 : decode b_Net_at 0 = .ok (.aload_n 0, 1) := by decide +kernel
theorem d_Net_at_1 : decode b_Net_at 1 = .ok (.getfield 11, 3) := by decide +kernel
theorem d_Net_at_4 : decode b_Net_at 4 = .ok (.aload_n 0, 1) := by decide +kernel
theorem d_Net_at_5 : decode b_Net_at 5 = .ok (.getfield 29, 3) := by decide +kernel
theorem d_Net_at_8 : decode b_Net_at 8 = .ok (.iload_n 1, 1) := by decide +kernel
theorem d_Net_at_9 : decode b_Net_at 9 = .ok (.iadd, 1) := by decide +kernel
theorem d_Net_at_10 : decode b_Net_at 10 = .ok (.sipush 300, 3) := by decide +kernel
theorem d_Net_at_13 : decode b_Net_at 13 = .ok (.irem, 1) := by decide +kernel
theorem d_Net_at_14 : decode b_Net_at 14 = .ok (.aaload, 1) := by decide +kernel
theorem d_Net_at_15 : decode b_Net_at 15 = .ok (.areturn, 1) := by decide +kernel
set_option maxRecDepth 100000 in
set_option maxHeartbeats 4000000 in
theorem c_Net_at (l : Launch) (K : Kx) (V : Vx) (A B C D : MI) (P : MP) (n : Nat) (cs : CS K V P n) (t : Nat) (g : Nat → Nat → Nat) (f c : Nat) (rg : RG K P B t g f c) (k : Nat) (hk : k < 300) : Ct l K md_Net_at (0, 0) 0 0 [.ref (K.ad 4 0), .int (nI k)] V (bk4 A B C D) P (EQ V (some (.ref (K.ad 5 (g t ((f + k) % 300))))) (bk4 A B C D) P) := by
  refine ct_of [(0, .ref (K.ad 4 0)), (1, .int (nI k))] (by decide) (Nat.le_of_ble_eq_true rfl) (ca_r (ca_i ca_n)) rfl ?_
  intro X hl hX
  have h : OkX X b_Net_at R_Net K := hX.1
  have hN : X.nL = 2 := hX.2.1
  have hnv := cs_nv cs
  obtain ⟨ht, hf, hc, b70, b72, p5, p6, hg, hgi⟩ := id rg
  refine j_aload_n h d_Net_at_0 rfl ?_
  refine j_getR h d_Net_at_1 fl_Net_11 rfl (by assumption) p5 ?_
  refine j_aload_n h d_Net_at_4 rfl ?_
  refine j_get1e h d_Net_at_5 fl_Net_29 rfl (by assumption) b70 ?_
  refine j_iload_n h d_Net_at_8 rfl ?_
  refine j_iadd h d_Net_at_9 ?_
  refine j_sipush (v := 300) h d_Net_at_10 (by decide) ?_
  refine j_irem h d_Net_at_13 (by decide) ?_
  refine j_ring h cs ht (by rw [nI_add]; exact rem300 (by omega)) (Nat.mod_lt _ (by decide)) (hg t ((f + k) % 300) ht (Nat.mod_lt _ (by decide))).1 d_Net_at_14 ?_
  exact j_aret hX d_Net_at_15 rfl (Nat.le_refl _) (Nat.le_refl _) ⟨rfl, rfl, rfl, rfl⟩
theorem d_Net_takenAt_0 : decode b_Net_takenAt 0 = .ok (.aload_n 0, 1) := by decide +kernel
theorem d_Net_takenAt_1 : decode b_Net_takenAt 1 = .ok (.getfield 17, 3) := by decide +kernel
theorem d_Net_takenAt_4 : decode b_Net_takenAt 4 = .ok (.aload_n 0, 1) := by decide +kernel
theorem d_Net_takenAt_5 : decode b_Net_takenAt 5 = .ok (.getfield 32, 3) := by decide +kernel
theorem d_Net_takenAt_8 : decode b_Net_takenAt 8 = .ok (.iload_n 1, 1) := by decide +kernel
theorem d_Net_takenAt_9 : decode b_Net_takenAt 9 = .ok (.iadd, 1) := by decide +kernel
theorem d_Net_takenAt_10 : decode b_Net_takenAt 10 = .ok (.sipush 300, 3) := by decide +kernel
theorem d_Net_takenAt_13 : decode b_Net_takenAt 13 = .ok (.irem, 1) := by decide +kernel
theorem d_Net_takenAt_14 : decode b_Net_takenAt 14 = .ok (.aaload, 1) := by decide +kernel
theorem d_Net_takenAt_15 : decode b_Net_takenAt 15 = .ok (.areturn, 1) := by decide +kernel
set_option maxRecDepth 100000 in
set_option maxHeartbeats 4000000 in
theorem c_Net_takenAt (l : Launch) (K : Kx) (V : Vx) (A B C D : MI) (P : MP) (n : Nat) (cs : CS K V P n) (t : Nat) (g : Nat → Nat → Nat) (f c : Nat) (rg : RG K P B t g f c) (ft : Nat) (hft : ft < 300) (b71 : B 71 0 = nI ft) (k : Nat) (hk : k < 300) : Ct l K md_Net_takenAt (0, 0) 0 0 [.ref (K.ad 4 0), .int (nI k)] V (bk4 A B C D) P (EQ V (some (.ref (K.ad 5 (g (1 - t) ((ft + k) % 300))))) (bk4 A B C D) P) := by
  refine ct_of [(0, .ref (K.ad 4 0)), (1, .int (nI k))] (by decide) (Nat.le_of_ble_eq_true rfl) (ca_r (ca_i ca_n)) rfl ?_
  intro X hl hX
  have h : OkX X b_Net_takenAt R_Net K := hX.1
  have hN : X.nL = 2 := hX.2.1
  have hnv := cs_nv cs
  obtain ⟨ht, hf, hc, b70, b72, p5, p6, hg, hgi⟩ := id rg
  refine j_aload_n h d_Net_takenAt_0 rfl ?_
  refine j_getR h d_Net_takenAt_1 fl_Net_17 rfl (by assumption) (show P 6 0 = some (K.aad (4 + (1 - t))) by rw [p6]; congr 2; omega) ?_
  refine j_aload_n h d_Net_takenAt_4 rfl ?_
  refine j_get1e h d_Net_takenAt_5 fl_Net_32 rfl (by assumption) b71 ?_
  refine j_iload_n h d_Net_takenAt_8 rfl ?_
  refine j_iadd h d_Net_takenAt_9 ?_
  refine j_sipush (v := 300) h d_Net_takenAt_10 (by decide) ?_
  refine j_irem h d_Net_takenAt_13 (by decide) ?_
  refine j_ring h cs (show 1 - t < 2 by omega) (by rw [nI_add]; exact rem300 (by omega)) (Nat.mod_lt _ (by decide)) (hg (1 - t) ((ft + k) % 300) (by omega) (Nat.mod_lt _ (by decide))).1 d_Net_takenAt_14 ?_
  exact j_aret hX d_Net_takenAt_15 rfl (Nat.le_refl _) (Nat.le_refl _) ⟨rfl, rfl, rfl, rfl⟩
def adf (f c : Nat) : Nat := if c = 300 then (f + 1) % 300 else f
def adc (c : Nat) : Nat := if c = 300 then 300 else c + 1
def adq (g : Nat → Nat → Nat) (t f c : Nat) : Nat := g t ((adf f c + (adc c - 1)) % 300)
def adB (B : MI) (f c : Nat) : MI := if c = 300 then up B 70 0 (nI ((f + 1) % 300)) else up B 72 0 (nI (c + 1))
theorem adc_c {c : Nat} (h : c ≤ 300) : adc c ≤ 300 ∧ 1 ≤ adc c := by unfold adc; split <;> omega
theorem adf_f {f c : Nat} (h : f < 300) : adf f c < 300 := by unfold adf; split <;> omega
theorem RG_ad {K : Kx} {P : MP} {B : MI} {t f c : Nat} {g : Nat → Nat → Nat} (rg : RG K P B t g f c) : RG K P (adB B f c) t g (adf f c) (adc c) := by
  obtain ⟨ht, hf, hc, b70, b72, p5, p6, hg, hgi⟩ := rg
  refine ⟨ht, adf_f hf, (adc_c hc).1, ?_, ?_, p5, p6, hg, hgi⟩
  · unfold adB adf
    split
    · rfl
    · exact b70
  · unfold adB adc
    split
    · rename_i h; rw [h] at b72; exact b72
    · rfl
theorem d_Net_add_0 : decode b_Net_add 0 = .ok (.aload_n 0, 1) := by decide +kernel
theorem d_Net_add_1 : decode b_Net_add 1 = .ok (.getfield 21, 3) := by decide +kernel
theorem d_Net_add_4 : decode b_Net_add 4 = .ok (.sipush 300, 3) := by decide +kernel
theorem d_Net_add_7 : decode b_Net_add 7 = .ok (.if_icmp .ne 20, 3) := by decide +kernel
theorem d_Net_add_10 : decode b_Net_add 10 = .ok (.aload_n 0, 1) := by decide +kernel
theorem d_Net_add_11 : decode b_Net_add 11 = .ok (.aload_n 0, 1) := by decide +kernel
theorem d_Net_add_12 : decode b_Net_add 12 = .ok (.getfield 29, 3) := by decide +kernel
theorem d_Net_add_15 : decode b_Net_add 15 = .ok (.iconst 1, 1) := by decide +kernel
theorem d_Net_add_16 : decode b_Net_add 16 = .ok (.iadd, 1) := by decide +kernel
theorem d_Net_add_17 : decode b_Net_add 17 = .ok (.sipush 300, 3) := by decide +kernel
theorem d_Net_add_20 : decode b_Net_add 20 = .ok (.irem, 1) := by decide +kernel
theorem d_Net_add_21 : decode b_Net_add 21 = .ok (.putfield 29, 3) := by decide +kernel
theorem d_Net_add_24 : decode b_Net_add 24 = .ok (.goto 13, 3) := by decide +kernel
theorem d_Net_add_27 : decode b_Net_add 27 = .ok (.aload_n 0, 1) := by decide +kernel
theorem d_Net_add_28 : decode b_Net_add 28 = .ok (.dup, 1) := by decide +kernel
theorem d_Net_add_29 : decode b_Net_add 29 = .ok (.getfield 21, 3) := by decide +kernel
theorem d_Net_add_32 : decode b_Net_add 32 = .ok (.iconst 1, 1) := by decide +kernel
theorem d_Net_add_33 : decode b_Net_add 33 = .ok (.iadd, 1) := by decide +kernel
theorem d_Net_add_34 : decode b_Net_add 34 = .ok (.putfield 21, 3) := by decide +kernel
theorem d_Net_add_37 : decode b_Net_add 37 = .ok (.aload_n 0, 1) := by decide +kernel
theorem d_Net_add_38 : decode b_Net_add 38 = .ok (.aload_n 0, 1) := by decide +kernel
theorem d_Net_add_39 : decode b_Net_add 39 = .ok (.getfield 21, 3) := by decide +kernel
theorem d_Net_add_42 : decode b_Net_add 42 = .ok (.iconst 1, 1) := by decide +kernel
theorem d_Net_add_43 : decode b_Net_add 43 = .ok (.isub, 1) := by decide +kernel
theorem d_Net_add_44 : decode b_Net_add 44 = .ok (.invokevirtual 35, 3) := by decide +kernel
theorem d_Net_add_47 : decode b_Net_add 47 = .ok (.astore 4, 2) := by decide +kernel
theorem d_Net_add_49 : decode b_Net_add 49 = .ok (.aload 4, 2) := by decide +kernel
theorem d_Net_add_51 : decode b_Net_add 51 = .ok (.iload_n 1, 1) := by decide +kernel
theorem d_Net_add_52 : decode b_Net_add 52 = .ok (.iload_n 2, 1) := by decide +kernel
theorem d_Net_add_53 : decode b_Net_add 53 = .ok (.iload_n 3, 1) := by decide +kernel
theorem d_Net_add_54 : decode b_Net_add 54 = .ok (.invokevirtual 39, 3) := by decide +kernel
theorem d_Net_add_57 : decode b_Net_add 57 = .ok (.aload 4, 2) := by decide +kernel
theorem d_Net_add_59 : decode b_Net_add 59 = .ok (.areturn, 1) := by decide +kernel
set_option maxRecDepth 100000 in
set_option maxHeartbeats 4000000 in
theorem c_Net_add (l : Launch) (K : Kx) (V : Vx) (A B C D : MI) (P : MP) (n : Nat) (cs : CS K V P n) (t : Nat) (g : Nat → Nat → Nat) (f c : Nat) (rg : RG K P B t g f c) (ty sd rc : Int32) : Ct l K md_Net_add (1, 23) 0 0 [.ref (K.ad 4 0), .int ty, .int sd, .int rc] V (bk4 A B C D) P (EQ V (some (.ref (K.ad 5 (adq g t f c)))) (bk4 A (mBegin (adB B f c) (adq g t f c) ty sd rc) C D) P) := by
  refine ct_of [(0, .ref (K.ad 4 0)), (1, .int ty), (2, .int sd), (3, .int rc)] (by decide) (Nat.le_of_ble_eq_true rfl) (ca_r (ca_i (ca_i (ca_i ca_n)))) rfl ?_
  intro X hl hX
  have h : OkX X b_Net_add R_Net K := hX.1
  have hN : X.nL = 5 := hX.2.1
  have hnv := cs_nv cs
  obtain ⟨ht, hf, hc, b70, b72, p5, p6, hg, hgi⟩ := id rg
  refine j_aload_n h d_Net_add_0 rfl ?_
  refine j_get1e h d_Net_add_1 fl_Net_21 rfl (by assumption) b72 ?_
  refine j_sipush (v := 300) h d_Net_add_4 (by decide) ?_
  by_cases hcc : c = 300
  · refine j_ic_ne (tgt := 27) h d_Net_add_7 (by decide) (fun z => absurd (by rw [hcc]; rfl) z) (fun _ => ?_)
    refine j_aload_n h d_Net_add_10 rfl ?_
    refine j_aload_n h d_Net_add_11 rfl ?_
    refine j_get1e h d_Net_add_12 fl_Net_29 rfl (by assumption) b70 ?_
    refine j_iconst (v := 1) h d_Net_add_15 (by decide) ?_
    refine j_iadd h d_Net_add_16 ?_
    refine j_sipush (v := 300) h d_Net_add_17 (by decide) ?_
    refine j_irem h d_Net_add_20 (by decide) ?_
    rw [show nI f + 1 - (nI f + 1) / 300 * 300 = nI ((f + 1) % 300) from by rw [nI_1]; exact rem300 (by omega)]
    refine j_put1 h d_Net_add_21 fw_Net_29 rfl rfl (by assumption) ?_
    refine j_goto (tgt := 37) h d_Net_add_24 (by decide) ?_
    have hm1 : nI (adc c) - 1 = nI (adc c - 1) := by
      obtain ⟨z, hz⟩ : ∃ z, adc c = z + 1 := ⟨adc c - 1, by have := adc_c hc; omega⟩
      rw [hz]; exact nI_pred z
    have hqv : V.1 5 (adq g t f c) := cs_mv cs (Nat.lt_succ_of_lt (hg t _ ht (Nat.mod_lt _ (by decide))).2)
    refine j_eq (I' := bk4 A (adB B f c) C D) (by unfold adB; rw [if_pos hcc]) rfl rfl rfl ?_
    refine j_aload_n h d_Net_add_37 rfl ?_
    refine j_aload_n h d_Net_add_38 rfl ?_
    refine j_get1e (v := nI (adc c)) h d_Net_add_39 fl_Net_21 rfl (by assumption) (RG_ad rg).2.2.2.2.1 ?_
    refine j_iconst (v := 1) h d_Net_add_42 (by decide) ?_
    refine j_isub h d_Net_add_43 ?_
    rw [hm1]
    refine j_callV h (c_Net_at _ _ _ _ _ _ _ _ _ cs _ _ _ _ (RG_ad rg) (adc c - 1) (by have := adc_c hc; omega)) d_Net_add_44 ml_Net_35 mv_Net_at (by assumption) ⟨rfl, rfl⟩ rfl rfl (Nat.le_of_ble_eq_true rfl) (hR_of hX (by decide) (by decide)) (hf_of hX (by decide) (by decide)) ?_
    rintro _ _ _ _ ⟨rfl, rfl, rfl, rfl⟩
    refine j_astore h d_Net_add_47 (Nat.lt_of_lt_of_eq (m := 5) (by decide) hN.symm) ?_
    refine j_aload h d_Net_add_49 rfl ?_
    refine j_iload_n h d_Net_add_51 rfl ?_
    refine j_iload_n h d_Net_add_52 rfl ?_
    refine j_iload_n h d_Net_add_53 rfl ?_
    refine j_callV h (c_Msg_begin _ _ _ _ _ _ _ _ _ hqv _ _ _) d_Net_add_54 ml_Net_39 mv_Msg_begin (by assumption) ⟨rfl, rfl⟩ rfl rfl (Nat.le_of_ble_eq_true rfl) (hR_of hX (by decide) (by decide)) (hf_of hX (by decide) (by decide)) ?_
    rintro _ _ _ _ ⟨rfl, rfl, rfl, rfl⟩
    refine j_aload h d_Net_add_57 rfl ?_
    exact j_aret hX d_Net_add_59 rfl (Nat.le_refl _) (Nat.le_refl _) ⟨rfl, rfl, rfl, rfl⟩
  · have hne : ¬ nI c = 300 := fun z => hcc ((nI_eq (b := 300) (by omega) (by decide)).mp z)
    refine j_ic_ne (tgt := 27) h d_Net_add_7 (by decide) (fun _ => ?_) (fun z => absurd z hne)
    refine j_aload_n h d_Net_add_27 rfl ?_
    refine j_dup h d_Net_add_28 rfl ?_
    refine j_get1e h d_Net_add_29 fl_Net_21 rfl (by assumption) b72 ?_
    refine j_iconst (v := 1) h d_Net_add_32 (by decide) ?_
    refine j_iadd h d_Net_add_33 ?_
    rw [nI_1]
    refine j_put1 h d_Net_add_34 fw_Net_21 rfl rfl (by assumption) ?_
    have hm1 : nI (adc c) - 1 = nI (adc c - 1) := by
      obtain ⟨z, hz⟩ : ∃ z, adc c = z + 1 := ⟨adc c - 1, by have := adc_c hc; omega⟩
      rw [hz]; exact nI_pred z
    have hqv : V.1 5 (adq g t f c) := cs_mv cs (Nat.lt_succ_of_lt (hg t _ ht (Nat.mod_lt _ (by decide))).2)
    refine j_eq (I' := bk4 A (adB B f c) C D) (by unfold adB; rw [if_neg hcc]) rfl rfl rfl ?_
    refine j_aload_n h d_Net_add_37 rfl ?_
    refine j_aload_n h d_Net_add_38 rfl ?_
    refine j_get1e (v := nI (adc c)) h d_Net_add_39 fl_Net_21 rfl (by assumption) (RG_ad rg).2.2.2.2.1 ?_
    refine j_iconst (v := 1) h d_Net_add_42 (by decide) ?_
    refine j_isub h d_Net_add_43 ?_
    rw [hm1]
    refine j_callV h (c_Net_at _ _ _ _ _ _ _ _ _ cs _ _ _ _ (RG_ad rg) (adc c - 1) (by have := adc_c hc; omega)) d_Net_add_44 ml_Net_35 mv_Net_at (by assumption) ⟨rfl, rfl⟩ rfl rfl (Nat.le_of_ble_eq_true rfl) (hR_of hX (by decide) (by decide)) (hf_of hX (by decide) (by decide)) ?_
    rintro _ _ _ _ ⟨rfl, rfl, rfl, rfl⟩
    refine j_astore h d_Net_add_47 (Nat.lt_of_lt_of_eq (m := 5) (by decide) hN.symm) ?_
    refine j_aload h d_Net_add_49 rfl ?_
    refine j_iload_n h d_Net_add_51 rfl ?_
    refine j_iload_n h d_Net_add_52 rfl ?_
    refine j_iload_n h d_Net_add_53 rfl ?_
    refine j_callV h (c_Msg_begin _ _ _ _ _ _ _ _ _ hqv _ _ _) d_Net_add_54 ml_Net_39 mv_Msg_begin (by assumption) ⟨rfl, rfl⟩ rfl rfl (Nat.le_of_ble_eq_true rfl) (hR_of hX (by decide) (by decide)) (hf_of hX (by decide) (by decide)) ?_
    rintro _ _ _ _ ⟨rfl, rfl, rfl, rfl⟩
    refine j_aload h d_Net_add_57 rfl ?_
    exact j_aret hX d_Net_add_59 rfl (Nat.le_refl _) (Nat.le_refl _) ⟨rfl, rfl, rfl, rfl⟩
end
section
/-! what is sent -/
def mk7 (a b c d e f g : Int32) : Msg := fun w => match w with
  | 0 => a
  | 1 => b
  | 2 => c
  | 3 => d
  | 4 => e
  | 5 => f
  | 6 => g
  | _ => 0
def m_hello (A : MI) (s : Nat) : Msg := mk7 2 (nI (1 - s)) (nI s) 0 (-1) (A 2 s) 0
def m_upd (A : MI) (s a : Nat) : Msg := fun w => match w with
  | 0 => 3
  | 1 => nI (1 - s)
  | 2 => nI s
  | 3 => A 10 (32 * s + a)
  | 4 => nI a
  | 5 => A 15 (32 * s + a)
  | 6 => A 12 (32 * s + a)
  | 7 => A 2 s
  | 8 => A 4 s
  | 9 => A 11 (32 * s + a)
  | 10 => A 13 (32 * s + a)
  | 11 => A 14 (32 * s + a)
  | 12 => A 19 (32 * s + a)
  | 13 => A 20 (32 * s + a)
  | _ => 0
def m_ack (A : MI) (s a : Nat) (num amt : Int32) : Msg := fun w => match w with
  | 0 => 4
  | 1 => nI (1 - s)
  | 2 => nI s
  | 3 => 0
  | 4 => nI a
  | 5 => num
  | 6 => amt
  | 7 => A 2 s
  | 8 => A 15 (32 * s + a)
  | _ => 0
theorem CM_kept {B B2 : MI} {q : Nat} {x : Msg} (h : CM B q x) (e : ∀ col, 80 ≤ col → B2 col q = B col q) : CM B2 q x :=
  ⟨fun w hw => (e _ (by omega)).trans (h.1 w hw), fun h3 w hw => (e _ (by omega)).trans (h.2.1 h3 w hw), fun h4 => ⟨(e _ (by omega)).trans (h.2.2 h4).1, (e _ (by omega)).trans (h.2.2 h4).2⟩⟩
/-- only the message q has been written -/
def OQ (B B2 : MI) (q : Nat) : Prop := (∀ col i, col < 80 → B2 col i = B col i) ∧ ∀ col i, i ≠ q → B2 col i = B col i
theorem oq_r (B : MI) (q : Nat) : OQ B B q := ⟨fun _ _ _ => rfl, fun _ _ _ => rfl⟩
theorem oq_u {B B1 : MI} {q col : Nat} {v : Int32} (h : 80 ≤ col) (k : OQ B B1 q) : OQ B (up B1 col q v) q :=
  ⟨fun c i hc => by rw [up_c _ _ (by omega)]; exact k.1 c i hc, fun c i hi => by rw [up_i _ _ hi]; exact k.2 c i hi⟩
theorem oq_b (B : MI) (q : Nat) (a b c : Int32) : OQ B (mBegin B q a b c) q := by
  unfold mBegin
  exact oq_u (by decide) (oq_u (by decide) (oq_u (by decide) (oq_u (by decide) (oq_u (by decide) (oq_u (by decide) (oq_r B q))))))
theorem NC_add {K : Kx} {P : MP} {B B2 : MI} {ld sk : Int32} {N T : List Msg} {U x : Msg} {t f ft : Nat} {g : Nat → Nat → Nat} (kb : KB B ld sk) (w : NCw K P B N T U t g f ft) (oq : OQ (adB B f N.length) B2 (adq g t f N.length)) (hx : CM B2 (adq g t f N.length) x) (hb : B2 91 (adq g t f N.length) = 0 ∨ B2 91 (adq g t f N.length) = 1) : NC K P B2 ld sk (netput x N) T U := by
  obtain ⟨rg, hN, b71, hft, hT, hU, hz⟩ := w
  have rg2 := RG_ad rg
  obtain ⟨ht, hf, hc, b70, b72, p5, p6, hg, hgi⟩ := id rg
  have adk : ∀ col i, col ≠ 70 → col ≠ 72 → adB B f N.length col i = B col i := by
    intro col i h1 h2
    unfold adB
    split
    · exact up_c _ _ h1
    · exact up_c _ _ h2
  have ln : (netput x N).length = adc N.length := by
    unfold netput adc
    split
    · rw [List.length_append, List.length_tail]; simp; omega
    · simp
  have mk : ∀ u j, u < 2 → j < 300 → g u j ≠ adq g t f N.length → ∀ col, 80 ≤ col → B2 col (g u j) = B col (g u j) := fun u j _ _ hne col hcol => (oq.2 col _ hne).trans (adk col _ (by omega) (by omega))
  refine ⟨fun s hs => ?_, t, g, adf f N.length, ft, ⟨ht, adf_f hf, ?_, ?_, ?_, p5, p6, hg, hgi⟩, ?_, ?_, hft, ?_, ?_, ?_⟩
  · obtain ⟨k1, k2, k3, k4⟩ := kb s hs
    refine ⟨?_, ?_, ?_, ?_⟩
    · rw [oq.1 _ _ (by decide), adk _ _ (by decide) (by decide)]; exact k1
    · rw [oq.1 _ _ (by decide), adk _ _ (by decide) (by decide)]; exact k2
    · rw [oq.1 _ _ (by decide), adk _ _ (by decide) (by decide)]; exact k3
    · rw [oq.1 _ _ (by decide), adk _ _ (by decide) (by decide)]; exact k4
  · rw [ln]; exact (adc_c hc).1
  · rw [oq.1 _ _ (by decide)]; exact rg2.2.2.2.1
  · rw [oq.1 _ _ (by decide), ln]; exact rg2.2.2.2.2.1
  · intro k y hk
    by_cases hl : N.length = 300
    · have hf' : adf f N.length = (f + 1) % 300 := by unfold adf; rw [if_pos hl]
      have hq : adq g t f N.length = g t (((f + 1) % 300 + 299) % 300) := by unfold adq; rw [hf']; unfold adc; rw [if_pos hl]
      unfold netput at hk
      rw [if_pos hl] at hk
      by_cases hk2 : k < 299
      · rw [List.getElem?_append_left (by rw [List.length_tail]; omega), List.getElem?_tail] at hk
        have e := hN (k + 1) y hk
        have ei : (adf f N.length + k) % 300 = (f + (k + 1)) % 300 := by rw [hf']; omega
        rw [ei]
        refine CM_kept e (mk t _ ht (Nat.mod_lt _ (by decide)) (fun z => ?_))
        rw [hq] at z
        have := (hgi t _ t _ ht (Nat.mod_lt _ (by decide)) ht (Nat.mod_lt _ (by decide)) z).2
        omega
      · have hk3 : k = 299 := by
          have := (List.getElem?_eq_some_iff.mp hk).1
          rw [List.length_append, List.length_tail] at this
          simp at this
          omega
        subst hk3
        rw [List.getElem?_append_right (by rw [List.length_tail]; omega)] at hk
        have : 299 - N.tail.length = 0 := by rw [List.length_tail]; omega
        rw [this] at hk
        cases hk
        rw [hf', ← hq]
        exact hx
    · have hf' : adf f N.length = f := by unfold adf; rw [if_neg hl]
      have hq : adq g t f N.length = g t ((f + N.length) % 300) := by unfold adq; rw [hf']; unfold adc; rw [if_neg hl]; rfl
      unfold netput at hk
      rw [if_neg hl] at hk
      by_cases hk2 : k < N.length
      · rw [List.getElem?_append_left hk2] at hk
        have e := hN k y hk
        rw [hf']
        refine CM_kept e (mk t _ ht (Nat.mod_lt _ (by decide)) (fun z => ?_))
        rw [hq] at z
        have := (hgi t _ t _ ht (Nat.mod_lt _ (by decide)) ht (Nat.mod_lt _ (by decide)) z).2
        omega
      · have hk3 : k = N.length := by
          have := (List.getElem?_eq_some_iff.mp hk).1
          rw [List.length_append] at this
          simp at this
          omega
        subst hk3
        rw [List.getElem?_append_right (Nat.le_refl _), Nat.sub_self] at hk
        cases hk
        rw [hf', ← hq]
        exact hx
  · rw [oq.1 _ _ (by decide), adk _ _ (by decide) (by decide)]; exact b71
  · intro k y hk
    obtain ⟨h1, e⟩ := hT k y hk
    refine ⟨h1, CM_kept e (mk (1 - t) _ (by omega) (Nat.mod_lt _ (by decide)) (fun z => ?_))⟩
    have := (hgi (1 - t) _ t _ (by omega) (Nat.mod_lt _ (by decide)) ht (Nat.mod_lt _ (by decide)) z).1
    omega
  · refine CM_kept hU (fun col hcol => (oq.2 col _ (fun z => ?_)).trans (adk col _ (by omega) (by omega)))
    have := (hg t ((adf f N.length + (adc N.length - 1)) % 300) ht (Nat.mod_lt _ (by decide))).2
    have e : adq g t f N.length = g t ((adf f N.length + (adc N.length - 1)) % 300) := rfl
    omega
  · intro q hq
    by_cases hqq : q = adq g t f N.length
    · rw [hqq]; exact hb
    · rw [oq.2 _ _ hqq, adk _ _ (by decide) (by decide)]; exact hz q hq
theorem mB_rd (B : MI) (q : Nat) (a b c : Int32) (col i : Nat) : mBegin B q a b c col i = if col = 86 ∧ i = q then 0 else if col = 84 ∧ i = q then -1 else if col = 83 ∧ i = q then 0 else if col = 81 ∧ i = q then c else if col = 82 ∧ i = q then b else if col = 80 ∧ i = q then a else B col i := rfl
end
section
/-! senders -/
theorem adB_k (B : MI) (f c : Nat) {col i : Nat} (h1 : col ≠ 70) (h2 : col ≠ 72) : adB B f c col i = B col i := by
  unfold adB
  split
  · exact up_c _ _ h1
  · exact up_c _ _ h2
/-- the message q is none of the ring -/
def offR (K : Kx) (P : MP) (q : Nat) : Prop := ∀ t j, t < 2 → P 5 0 = some (K.aad (4 + t)) → j < 300 → P (14 + t) j ≠ some (K.ad 5 q)
theorem offR_ne {K : Kx} {P : MP} {B : MI} {t f c q : Nat} {g : Nat → Nat → Nat} (h : offR K P q) (rg : RG K P B t g f c) : q ≠ adq g t f c := by
  obtain ⟨ht, hf, hc, b70, b72, p5, p6, hg, hgi⟩ := rg
  intro z
  have e : adq g t f c = g t ((adf f c + (adc c - 1)) % 300) := rfl
  have := (hg t ((adf f c + (adc c - 1)) % 300) ht (Nat.mod_lt _ (by decide))).1
  rw [← e, ← z] at this
  exact h t _ ht p5 (Nat.mod_lt _ (by decide)) this
def m_ans (s : Nat) (c num : Int32) (lease a e : Int32) : Msg := mk7 1 c (nI s) lease a num e
def updR (A : MI) (s : Nat) : Nat → Nat → List Msg → List Msg
  | 0, _, N => N
  | k + 1, i, N => updR A s k (i + 1) (netput (m_upd A s i) N)
def penR (A : MI) (s : Nat) : Nat → Nat → Int32 → List Msg → Int32 × List Msg
  | 0, _, g, N => (g, N)
  | k + 1, i, g, N => if A 17 (32 * s + i) = 0 then penR A s k (i + 1) g N else penR A s k (i + 1) (g + 1) (netput (m_upd A s i) N)
theorem d_Srv_sendHello_0 : decode b_Srv_sendHello 0 = .ok (.aload_n 1, 1) := by decide +kernel
theorem d_Srv_sendHello_1 : decode b_Srv_sendHello 1 = .ok (.iconst 2, 1) := by decide +kernel
theorem d_Srv_sendHello_2 : decode b_Srv_sendHello 2 = .ok (.aload_n 0, 1) := by decide +kernel
theorem d_Srv_sendHello_3 : decode b_Srv_sendHello 3 = .ok (.getfield 9, 3) := by decide +kernel
theorem d_Srv_sendHello_6 : decode b_Srv_sendHello 6 = .ok (.aload_n 0, 1) := by decide +kernel
theorem d_Srv_sendHello_7 : decode b_Srv_sendHello 7 = .ok (.getfield 15, 3) := by decide +kernel
theorem d_Srv_sendHello_10 : decode b_Srv_sendHello 10 = .ok (.invokevirtual 142, 3) := by decide +kernel
theorem d_Srv_sendHello_13 : decode b_Srv_sendHello 13 = .ok (.astore_n 2, 1) := by decide +kernel
theorem d_Srv_sendHello_14 : decode b_Srv_sendHello 14 = .ok (.aload_n 2, 1) := by decide +kernel
theorem d_Srv_sendHello_15 : decode b_Srv_sendHello 15 = .ok (.aload_n 0, 1) := by decide +kernel
theorem d_Srv_sendHello_16 : decode b_Srv_sendHello 16 = .ok (.getfield 36, 3) := by decide +kernel
theorem d_Srv_sendHello_19 : decode b_Srv_sendHello 19 = .ok (.putfield 125, 3) := by decide +kernel
theorem d_Srv_sendHello_22 : decode b_Srv_sendHello 22 = .ok (.return_, 1) := by decide +kernel
set_option maxRecDepth 100000 in
set_option maxHeartbeats 4000000 in
theorem c_Srv_sendHello (l : Launch) (K : Kx) (V : Vx) (A B C D : MI) (P : MP) (n : Nat) (cs : CS K V P n) (s : Nat) (hs : s < 2) (ld sk : Int32) (N T : List Msg) (U : Msg) (hnc : NC K P B ld sk N T U) : Ct l K md_Srv_sendHello (2, 47) 0 0 [.ref (K.ad 1 s), .ref (K.ad 4 0)] V (bk4 A B C D) P (NP K V C D P ld sk none A (netput (m_hello A s) N) T U) := by
  refine ct_of [(0, .ref (K.ad 1 s)), (1, .ref (K.ad 4 0))] (by decide) (Nat.le_of_ble_eq_true rfl) (ca_r (ca_r ca_n)) rfl ?_
  intro X hl hX
  have h : OkX X b_Srv_sendHello R_Srv K := hX.1
  have hN : X.nL = 3 := hX.2.1
  have hsv := cs_sv cs hs
  obtain ⟨kb, t, g, f, ft, nw⟩ := id hnc
  have rg := nw.1
  have hnv := cs_nv cs
  have hq0 : adq g t f N.length < 600 := (rg.2.2.2.2.2.2.2.1 t _ rg.1 (Nat.mod_lt _ (by decide))).2
  have hqv : V.1 5 (adq g t f N.length) := cs_mv cs (Nat.lt_succ_of_lt hq0)
  have hz91 := nw.2.2.2.2.2.2 _ (Nat.lt_succ_of_lt hq0)
  refine j_aload_n h d_Srv_sendHello_0 rfl ?_
  refine j_iconst (v := 2) h d_Srv_sendHello_1 (by decide) ?_
  refine j_aload_n h d_Srv_sendHello_2 rfl ?_
  refine j_get1e h d_Srv_sendHello_3 fl_Srv_9 rfl (by assumption) (kb s hs).1 ?_
  refine j_aload_n h d_Srv_sendHello_6 rfl ?_
  refine j_get1e h d_Srv_sendHello_7 fl_Srv_15 rfl (by assumption) (kb s hs).2.1 ?_
  refine j_callV h (c_Net_add _ _ _ _ _ _ _ _ _ cs _ _ _ _ rg _ _ _) d_Srv_sendHello_10 ml_Srv_142 mv_Net_add (by assumption) ⟨rfl, rfl⟩ rfl rfl (Nat.le_of_ble_eq_true rfl) (hR_of hX (by decide) (by decide)) (hf_of hX (by decide) (by decide)) ?_
  rintro _ _ _ _ ⟨rfl, rfl, rfl, rfl⟩
  refine j_astore_n h d_Srv_sendHello_13 (Nat.lt_of_lt_of_eq (m := 3) (by decide) hN.symm) ?_
  refine j_aload_n h d_Srv_sendHello_14 rfl ?_
  refine j_aload_n h d_Srv_sendHello_15 rfl ?_
  refine j_get0 h d_Srv_sendHello_16 fl_Srv_36 rfl (by assumption) ?_
  refine j_put1 h d_Srv_sendHello_19 fw_Srv_125 rfl rfl (by assumption) ?_
  exact j_vret hX d_Srv_sendHello_22 rfl (Nat.le_refl _) (Nat.le_refl _) ⟨rfl, rfl, rfl, _, rfl, NC_add kb nw (by repeat (first | exact oq_b _ _ _ _ _ | refine oq_u (by decide) ?_)) (by
      refine ⟨fun w hw => ?_, fun h3 => ?_, fun h4 => ?_⟩
      · rcases (show w = 0 ∨ w = 1 ∨ w = 2 ∨ w = 3 ∨ w = 4 ∨ w = 5 ∨ w = 6 by omega) with rfl | rfl | rfl | rfl | rfl | rfl | rfl <;> simp [up_rd, mB_rd, m_hello, mk7]
      · exact absurd h3 (show ¬ (2 : Int32) = 3 by decide)
      · exact absurd h4 (show ¬ (2 : Int32) = 4 by decide)) (by simpa [up_rd, mB_rd, adB_k] using hz91)⟩
theorem d_Srv_sendUpdate_0 : decode b_Srv_sendUpdate 0 = .ok (.aload_n 0, 1) := by decide +kernel
theorem d_Srv_sendUpdate_1 : decode b_Srv_sendUpdate 1 = .ok (.getfield 26, 3) := by decide +kernel
theorem d_Srv_sendUpdate_4 : decode b_Srv_sendUpdate 4 = .ok (.iload_n 1, 1) := by decide +kernel
theorem d_Srv_sendUpdate_5 : decode b_Srv_sendUpdate 5 = .ok (.aaload, 1) := by decide +kernel
theorem d_Srv_sendUpdate_6 : decode b_Srv_sendUpdate 6 = .ok (.astore_n 3, 1) := by decide +kernel
theorem d_Srv_sendUpdate_7 : decode b_Srv_sendUpdate 7 = .ok (.aload_n 2, 1) := by decide +kernel
theorem d_Srv_sendUpdate_8 : decode b_Srv_sendUpdate 8 = .ok (.iconst 3, 1) := by decide +kernel
theorem d_Srv_sendUpdate_9 : decode b_Srv_sendUpdate 9 = .ok (.aload_n 0, 1) := by decide +kernel
theorem d_Srv_sendUpdate_10 : decode b_Srv_sendUpdate 10 = .ok (.getfield 9, 3) := by decide +kernel
theorem d_Srv_sendUpdate_13 : decode b_Srv_sendUpdate 13 = .ok (.aload_n 0, 1) := by decide +kernel
theorem d_Srv_sendUpdate_14 : decode b_Srv_sendUpdate 14 = .ok (.getfield 15, 3) := by decide +kernel
theorem d_Srv_sendUpdate_17 : decode b_Srv_sendUpdate 17 = .ok (.invokevirtual 142, 3) := by decide +kernel
theorem d_Srv_sendUpdate_20 : decode b_Srv_sendUpdate 20 = .ok (.astore 4, 2) := by decide +kernel
theorem d_Srv_sendUpdate_22 : decode b_Srv_sendUpdate 22 = .ok (.aload 4, 2) := by decide +kernel
theorem d_Srv_sendUpdate_24 : decode b_Srv_sendUpdate 24 = .ok (.iload_n 1, 1) := by decide +kernel
theorem d_Srv_sendUpdate_25 : decode b_Srv_sendUpdate 25 = .ok (.putfield 81, 3) := by decide +kernel
theorem d_Srv_sendUpdate_28 : decode b_Srv_sendUpdate 28 = .ok (.aload 4, 2) := by decide +kernel
theorem d_Srv_sendUpdate_30 : decode b_Srv_sendUpdate 30 = .ok (.aload_n 0, 1) := by decide +kernel
theorem d_Srv_sendUpdate_31 : decode b_Srv_sendUpdate 31 = .ok (.getfield 36, 3) := by decide +kernel
theorem d_Srv_sendUpdate_34 : decode b_Srv_sendUpdate 34 = .ok (.putfield 161, 3) := by decide +kernel
theorem d_Srv_sendUpdate_37 : decode b_Srv_sendUpdate 37 = .ok (.aload 4, 2) := by decide +kernel
theorem d_Srv_sendUpdate_39 : decode b_Srv_sendUpdate 39 = .ok (.aload_n 0, 1) := by decide +kernel
theorem d_Srv_sendUpdate_40 : decode b_Srv_sendUpdate 40 = .ok (.getfield 42, 3) := by decide +kernel
theorem d_Srv_sendUpdate_43 : decode b_Srv_sendUpdate 43 = .ok (.putfield 165, 3) := by decide +kernel
theorem d_Srv_sendUpdate_46 : decode b_Srv_sendUpdate 46 = .ok (.aload 4, 2) := by decide +kernel
theorem d_Srv_sendUpdate_48 : decode b_Srv_sendUpdate 48 = .ok (.aload_n 3, 1) := by decide +kernel
theorem d_Srv_sendUpdate_49 : decode b_Srv_sendUpdate 49 = .ok (.getfield 126, 3) := by decide +kernel
theorem d_Srv_sendUpdate_52 : decode b_Srv_sendUpdate 52 = .ok (.putfield 125, 3) := by decide +kernel
theorem d_Srv_sendUpdate_55 : decode b_Srv_sendUpdate 55 = .ok (.aload 4, 2) := by decide +kernel
theorem d_Srv_sendUpdate_57 : decode b_Srv_sendUpdate 57 = .ok (.aload_n 3, 1) := by decide +kernel
theorem d_Srv_sendUpdate_58 : decode b_Srv_sendUpdate 58 = .ok (.getfield 71, 3) := by decide +kernel
theorem d_Srv_sendUpdate_61 : decode b_Srv_sendUpdate 61 = .ok (.putfield 74, 3) := by decide +kernel
theorem d_Srv_sendUpdate_64 : decode b_Srv_sendUpdate 64 = .ok (.aload 4, 2) := by decide +kernel
theorem d_Srv_sendUpdate_66 : decode b_Srv_sendUpdate 66 = .ok (.aload_n 3, 1) := by decide +kernel
theorem d_Srv_sendUpdate_67 : decode b_Srv_sendUpdate 67 = .ok (.getfield 212, 3) := by decide +kernel
theorem d_Srv_sendUpdate_70 : decode b_Srv_sendUpdate 70 = .ok (.putfield 215, 3) := by decide +kernel
theorem d_Srv_sendUpdate_73 : decode b_Srv_sendUpdate 73 = .ok (.aload 4, 2) := by decide +kernel
theorem d_Srv_sendUpdate_75 : decode b_Srv_sendUpdate 75 = .ok (.aload_n 3, 1) := by decide +kernel
theorem d_Srv_sendUpdate_76 : decode b_Srv_sendUpdate 76 = .ok (.getfield 107, 3) := by decide +kernel
theorem d_Srv_sendUpdate_79 : decode b_Srv_sendUpdate 79 = .ok (.putfield 114, 3) := by decide +kernel
theorem d_Srv_sendUpdate_82 : decode b_Srv_sendUpdate 82 = .ok (.aload 4, 2) := by decide +kernel
theorem d_Srv_sendUpdate_84 : decode b_Srv_sendUpdate 84 = .ok (.aload_n 3, 1) := by decide +kernel
theorem d_Srv_sendUpdate_85 : decode b_Srv_sendUpdate 85 = .ok (.getfield 133, 3) := by decide +kernel
theorem d_Srv_sendUpdate_88 : decode b_Srv_sendUpdate 88 = .ok (.putfield 216, 3) := by decide +kernel
theorem d_Srv_sendUpdate_91 : decode b_Srv_sendUpdate 91 = .ok (.aload 4, 2) := by decide +kernel
theorem d_Srv_sendUpdate_93 : decode b_Srv_sendUpdate 93 = .ok (.aload_n 3, 1) := by decide +kernel
theorem d_Srv_sendUpdate_94 : decode b_Srv_sendUpdate 94 = .ok (.getfield 148, 3) := by decide +kernel
theorem d_Srv_sendUpdate_97 : decode b_Srv_sendUpdate 97 = .ok (.putfield 217, 3) := by decide +kernel
theorem d_Srv_sendUpdate_100 : decode b_Srv_sendUpdate 100 = .ok (.aload 4, 2) := by decide +kernel
theorem d_Srv_sendUpdate_102 : decode b_Srv_sendUpdate 102 = .ok (.aload_n 3, 1) := by decide +kernel
theorem d_Srv_sendUpdate_103 : decode b_Srv_sendUpdate 103 = .ok (.getfield 166, 3) := by decide +kernel
theorem d_Srv_sendUpdate_106 : decode b_Srv_sendUpdate 106 = .ok (.putfield 196, 3) := by decide +kernel
theorem d_Srv_sendUpdate_109 : decode b_Srv_sendUpdate 109 = .ok (.aload 4, 2) := by decide +kernel
theorem d_Srv_sendUpdate_111 : decode b_Srv_sendUpdate 111 = .ok (.aload_n 3, 1) := by decide +kernel
theorem d_Srv_sendUpdate_112 : decode b_Srv_sendUpdate 112 = .ok (.getfield 162, 3) := by decide +kernel
theorem d_Srv_sendUpdate_115 : decode b_Srv_sendUpdate 115 = .ok (.putfield 195, 3) := by decide +kernel
theorem d_Srv_sendUpdate_118 : decode b_Srv_sendUpdate 118 = .ok (.return_, 1) := by decide +kernel
set_option maxRecDepth 100000 in
set_option maxHeartbeats 4000000 in
theorem c_Srv_sendUpdate (l : Launch) (K : Kx) (V : Vx) (A B C D : MI) (P : MP) (n : Nat) (cs : CS K V P n) (s : Nat) (hs : s < 2) (ld sk : Int32) (N T : List Msg) (U : Msg) (hnc : NC K P B ld sk N T U) (a : Nat) (ha : a < n) (hz : A 14 (32 * s + a) = 0 ∨ A 14 (32 * s + a) = 1) : Ct l K md_Srv_sendUpdate (2, 47) 0 0 [.ref (K.ad 1 s), .int (nI a), .ref (K.ad 4 0)] V (bk4 A B C D) P (NP K V C D P ld sk none A (netput (m_upd A s a) N) T U) := by
  refine ct_of [(0, .ref (K.ad 1 s)), (1, .int (nI a)), (2, .ref (K.ad 4 0))] (by decide) (Nat.le_of_ble_eq_true rfl) (ca_r (ca_i (ca_r ca_n))) rfl ?_
  intro X hl hX
  have h : OkX X b_Srv_sendUpdate R_Srv K := hX.1
  have hN : X.nL = 5 := hX.2.1
  have hsv := cs_sv cs hs
  obtain ⟨kb, t, g, f, ft, nw⟩ := id hnc
  have rg := nw.1
  have hnv := cs_nv cs
  have hq0 : adq g t f N.length < 600 := (rg.2.2.2.2.2.2.2.1 t _ rg.1 (Nat.mod_lt _ (by decide))).2
  have hqv : V.1 5 (adq g t f N.length) := cs_mv cs (Nat.lt_succ_of_lt hq0)
  have hz91 := nw.2.2.2.2.2.2 _ (Nat.lt_succ_of_lt hq0)
  have hr := cs_rv cs hs ha
  refine j_aload_n h d_Srv_sendUpdate_0 rfl ?_
  refine j_getR h d_Srv_sendUpdate_1 fl_Srv_26 rfl (by assumption) (cs_rp cs hs) ?_
  refine j_iload_n h d_Srv_sendUpdate_4 rfl ?_
  refine j_recs h cs hs ha d_Srv_sendUpdate_5 ?_
  refine j_astore_n h d_Srv_sendUpdate_6 (Nat.lt_of_lt_of_eq (m := 5) (by decide) hN.symm) ?_
  refine j_aload_n h d_Srv_sendUpdate_7 rfl ?_
  refine j_iconst (v := 3) h d_Srv_sendUpdate_8 (by decide) ?_
  refine j_aload_n h d_Srv_sendUpdate_9 rfl ?_
  refine j_get1e h d_Srv_sendUpdate_10 fl_Srv_9 rfl (by assumption) (kb s hs).1 ?_
  refine j_aload_n h d_Srv_sendUpdate_13 rfl ?_
  refine j_get1e h d_Srv_sendUpdate_14 fl_Srv_15 rfl (by assumption) (kb s hs).2.1 ?_
  refine j_callV h (c_Net_add _ _ _ _ _ _ _ _ _ cs _ _ _ _ rg _ _ _) d_Srv_sendUpdate_17 ml_Srv_142 mv_Net_add (by assumption) ⟨rfl, rfl⟩ rfl rfl (Nat.le_of_ble_eq_true rfl) (hR_of hX (by decide) (by decide)) (hf_of hX (by decide) (by decide)) ?_
  rintro _ _ _ _ ⟨rfl, rfl, rfl, rfl⟩
  refine j_astore h d_Srv_sendUpdate_20 (Nat.lt_of_lt_of_eq (m := 5) (by decide) hN.symm) ?_
  refine j_aload h d_Srv_sendUpdate_22 rfl ?_
  refine j_iload_n h d_Srv_sendUpdate_24 rfl ?_
  refine j_put1 h d_Srv_sendUpdate_25 fw_Srv_81 rfl rfl (by assumption) ?_
  refine j_aload h d_Srv_sendUpdate_28 rfl ?_
  refine j_aload_n h d_Srv_sendUpdate_30 rfl ?_
  refine j_get0 h d_Srv_sendUpdate_31 fl_Srv_36 rfl (by assumption) ?_
  refine j_put1 h d_Srv_sendUpdate_34 fw_Srv_161 rfl rfl (by assumption) ?_
  refine j_aload h d_Srv_sendUpdate_37 rfl ?_
  refine j_aload_n h d_Srv_sendUpdate_39 rfl ?_
  refine j_get0 h d_Srv_sendUpdate_40 fl_Srv_42 rfl (by assumption) ?_
  refine j_put1 h d_Srv_sendUpdate_43 fw_Srv_165 rfl rfl (by assumption) ?_
  refine j_aload h d_Srv_sendUpdate_46 rfl ?_
  refine j_aload_n h d_Srv_sendUpdate_48 rfl ?_
  refine j_get0 h d_Srv_sendUpdate_49 fl_Srv_126 rfl (by assumption) ?_
  refine j_put1 h d_Srv_sendUpdate_52 fw_Srv_125 rfl rfl (by assumption) ?_
  refine j_aload h d_Srv_sendUpdate_55 rfl ?_
  refine j_aload_n h d_Srv_sendUpdate_57 rfl ?_
  refine j_get0 h d_Srv_sendUpdate_58 fl_Srv_71 rfl (by assumption) ?_
  refine j_put1 h d_Srv_sendUpdate_61 fw_Srv_74 rfl rfl (by assumption) ?_
  refine j_aload h d_Srv_sendUpdate_64 rfl ?_
  refine j_aload_n h d_Srv_sendUpdate_66 rfl ?_
  refine j_get0 h d_Srv_sendUpdate_67 fl_Srv_212 rfl (by assumption) ?_
  refine j_put1 h d_Srv_sendUpdate_70 fw_Srv_215 rfl rfl (by assumption) ?_
  refine j_aload h d_Srv_sendUpdate_73 rfl ?_
  refine j_aload_n h d_Srv_sendUpdate_75 rfl ?_
  refine j_get0 h d_Srv_sendUpdate_76 fl_Srv_107 rfl (by assumption) ?_
  refine j_put1 h d_Srv_sendUpdate_79 fw_Srv_114 rfl rfl (by assumption) ?_
  refine j_aload h d_Srv_sendUpdate_82 rfl ?_
  refine j_aload_n h d_Srv_sendUpdate_84 rfl ?_
  refine j_get0 h d_Srv_sendUpdate_85 fl_Srv_133 rfl (by assumption) ?_
  refine j_put1 h d_Srv_sendUpdate_88 fw_Srv_216 rfl rfl (by assumption) ?_
  refine j_aload h d_Srv_sendUpdate_91 rfl ?_
  refine j_aload_n h d_Srv_sendUpdate_93 rfl ?_
  refine j_get0 h d_Srv_sendUpdate_94 fl_Srv_148 rfl (by assumption) ?_
  refine j_putZ1 h d_Srv_sendUpdate_97 fw_Srv_217 rfl rfl (by assumption) (by first | exact Or.inl rfl | exact Or.inr rfl | assumption) ?_
  refine j_aload h d_Srv_sendUpdate_100 rfl ?_
  refine j_aload_n h d_Srv_sendUpdate_102 rfl ?_
  refine j_get0 h d_Srv_sendUpdate_103 fl_Srv_166 rfl (by assumption) ?_
  refine j_put1 h d_Srv_sendUpdate_106 fw_Srv_196 rfl rfl (by assumption) ?_
  refine j_aload h d_Srv_sendUpdate_109 rfl ?_
  refine j_aload_n h d_Srv_sendUpdate_111 rfl ?_
  refine j_get0 h d_Srv_sendUpdate_112 fl_Srv_162 rfl (by assumption) ?_
  refine j_put1 h d_Srv_sendUpdate_115 fw_Srv_195 rfl rfl (by assumption) ?_
  exact j_vret hX d_Srv_sendUpdate_118 rfl (Nat.le_refl _) (Nat.le_refl _) ⟨rfl, rfl, rfl, _, rfl, NC_add kb nw (by repeat (first | exact oq_b _ _ _ _ _ | refine oq_u (by decide) ?_)) (by
      refine ⟨fun w hw => ?_, fun h3 => ?_, fun h4 => ?_⟩
      · rcases (show w = 0 ∨ w = 1 ∨ w = 2 ∨ w = 3 ∨ w = 4 ∨ w = 5 ∨ w = 6 by omega) with rfl | rfl | rfl | rfl | rfl | rfl | rfl <;> simp [up_rd, mB_rd, m_upd]
      · intro w hw
        rcases (show w = 0 ∨ w = 1 ∨ w = 2 ∨ w = 3 ∨ w = 4 ∨ w = 5 ∨ w = 6 ∨ w = 7 ∨ w = 8 ∨ w = 9 ∨ w = 10 ∨ w = 11 ∨ w = 12 ∨ w = 13 by omega) with rfl | rfl | rfl | rfl | rfl | rfl | rfl | rfl | rfl | rfl | rfl | rfl | rfl | rfl <;> simp [up_rd, mB_rd, m_upd]
      · exact absurd h4 (show ¬ (3 : Int32) = 4 by decide)) (by simpa [up_rd, mB_rd, adB_k] using hz)⟩
theorem d_Srv_acknowledge_0 : decode b_Srv_acknowledge 0 = .ok (.aload_n 3, 1) := by decide +kernel
theorem d_Srv_acknowledge_1 : decode b_Srv_acknowledge 1 = .ok (.iconst 4, 1) := by decide +kernel
theorem d_Srv_acknowledge_2 : decode b_Srv_acknowledge 2 = .ok (.aload_n 0, 1) := by decide +kernel
theorem d_Srv_acknowledge_3 : decode b_Srv_acknowledge 3 = .ok (.getfield 9, 3) := by decide +kernel
theorem d_Srv_acknowledge_6 : decode b_Srv_acknowledge 6 = .ok (.aload_n 0, 1) := by decide +kernel
theorem d_Srv_acknowledge_7 : decode b_Srv_acknowledge 7 = .ok (.getfield 15, 3) := by decide +kernel
theorem d_Srv_acknowledge_10 : decode b_Srv_acknowledge 10 = .ok (.invokevirtual 142, 3) := by decide +kernel
theorem d_Srv_acknowledge_13 : decode b_Srv_acknowledge 13 = .ok (.astore 4, 2) := by decide +kernel
theorem d_Srv_acknowledge_15 : decode b_Srv_acknowledge 15 = .ok (.aload 4, 2) := by decide +kernel
theorem d_Srv_acknowledge_17 : decode b_Srv_acknowledge 17 = .ok (.aload_n 1, 1) := by decide +kernel
theorem d_Srv_acknowledge_18 : decode b_Srv_acknowledge 18 = .ok (.getfield 81, 3) := by decide +kernel
theorem d_Srv_acknowledge_21 : decode b_Srv_acknowledge 21 = .ok (.putfield 81, 3) := by decide +kernel
theorem d_Srv_acknowledge_24 : decode b_Srv_acknowledge 24 = .ok (.aload 4, 2) := by decide +kernel
theorem d_Srv_acknowledge_26 : decode b_Srv_acknowledge 26 = .ok (.aload_n 1, 1) := by decide +kernel
theorem d_Srv_acknowledge_27 : decode b_Srv_acknowledge 27 = .ok (.getfield 125, 3) := by decide +kernel
theorem d_Srv_acknowledge_30 : decode b_Srv_acknowledge 30 = .ok (.putfield 125, 3) := by decide +kernel
theorem d_Srv_acknowledge_33 : decode b_Srv_acknowledge 33 = .ok (.aload 4, 2) := by decide +kernel
theorem d_Srv_acknowledge_35 : decode b_Srv_acknowledge 35 = .ok (.aload_n 1, 1) := by decide +kernel
theorem d_Srv_acknowledge_36 : decode b_Srv_acknowledge 36 = .ok (.getfield 74, 3) := by decide +kernel
theorem d_Srv_acknowledge_39 : decode b_Srv_acknowledge 39 = .ok (.iconst 2, 1) := by decide +kernel
theorem d_Srv_acknowledge_40 : decode b_Srv_acknowledge 40 = .ok (.if_icmp .ne 10, 3) := by decide +kernel
theorem d_Srv_acknowledge_43 : decode b_Srv_acknowledge 43 = .ok (.aload_n 1, 1) := by decide +kernel
theorem d_Srv_acknowledge_44 : decode b_Srv_acknowledge 44 = .ok (.getfield 114, 3) := by decide +kernel
theorem d_Srv_acknowledge_47 : decode b_Srv_acknowledge 47 = .ok (.goto 4, 3) := by decide +kernel
theorem d_Srv_acknowledge_50 : decode b_Srv_acknowledge 50 = .ok (.iconst 0, 1) := by decide +kernel
theorem d_Srv_acknowledge_51 : decode b_Srv_acknowledge 51 = .ok (.putfield 114, 3) := by decide +kernel
theorem d_Srv_acknowledge_54 : decode b_Srv_acknowledge 54 = .ok (.aload 4, 2) := by decide +kernel
theorem d_Srv_acknowledge_56 : decode b_Srv_acknowledge 56 = .ok (.aload_n 0, 1) := by decide +kernel
theorem d_Srv_acknowledge_57 : decode b_Srv_acknowledge 57 = .ok (.getfield 36, 3) := by decide +kernel
theorem d_Srv_acknowledge_60 : decode b_Srv_acknowledge 60 = .ok (.putfield 161, 3) := by decide +kernel
theorem d_Srv_acknowledge_63 : decode b_Srv_acknowledge 63 = .ok (.aload 4, 2) := by decide +kernel
theorem d_Srv_acknowledge_65 : decode b_Srv_acknowledge 65 = .ok (.aload_n 2, 1) := by decide +kernel
theorem d_Srv_acknowledge_66 : decode b_Srv_acknowledge 66 = .ok (.getfield 126, 3) := by decide +kernel
theorem d_Srv_acknowledge_69 : decode b_Srv_acknowledge 69 = .ok (.putfield 203, 3) := by decide +kernel
theorem d_Srv_acknowledge_72 : decode b_Srv_acknowledge 72 = .ok (.return_, 1) := by decide +kernel
set_option maxRecDepth 100000 in
set_option maxHeartbeats 4000000 in
theorem c_Srv_acknowledge (l : Launch) (K : Kx) (V : Vx) (A B C D : MI) (P : MP) (n : Nat) (cs : CS K V P n) (s : Nat) (hs : s < 2) (ld sk : Int32) (N T : List Msg) (U : Msg) (hnc : NC K P B ld sk N T U) (q : Nat) (hq : V.1 5 q) (x : Msg) (hcm : CM B q x) (hoff : offR K P q) (a : Nat) (ha : a < n) (hxa : x 4 = nI a) : Ct l K md_Srv_acknowledge (2, 47) 0 0 [.ref (K.ad 1 s), .ref (K.ad 5 q), .ref (K.ad 2 (32 * s + a)), .ref (K.ad 4 0)] V (bk4 A B C D) P (NP K V C D P ld sk none A (netput (m_ack A s a (x 5) (if x 3 = 2 then x 6 else 0)) N) T U) := by
  refine ct_of [(0, .ref (K.ad 1 s)), (1, .ref (K.ad 5 q)), (2, .ref (K.ad 2 (32 * s + a))), (3, .ref (K.ad 4 0))] (by decide) (Nat.le_of_ble_eq_true rfl) (ca_r (ca_r (ca_r (ca_r ca_n)))) rfl ?_
  intro X hl hX
  have h : OkX X b_Srv_acknowledge R_Srv K := hX.1
  have hN : X.nL = 5 := hX.2.1
  have hsv := cs_sv cs hs
  obtain ⟨kb, t, g, f, ft, nw⟩ := id hnc
  have rg := nw.1
  have hnv := cs_nv cs
  have hq0 : adq g t f N.length < 600 := (rg.2.2.2.2.2.2.2.1 t _ rg.1 (Nat.mod_lt _ (by decide))).2
  have hqv : V.1 5 (adq g t f N.length) := cs_mv cs (Nat.lt_succ_of_lt hq0)
  have hz91 := nw.2.2.2.2.2.2 _ (Nat.lt_succ_of_lt hq0)
  have hr := cs_rv cs hs ha
  have hne := offR_ne hoff rg
  refine j_aload_n h d_Srv_acknowledge_0 rfl ?_
  refine j_iconst (v := 4) h d_Srv_acknowledge_1 (by decide) ?_
  refine j_aload_n h d_Srv_acknowledge_2 rfl ?_
  refine j_get1e h d_Srv_acknowledge_3 fl_Srv_9 rfl (by assumption) (kb s hs).1 ?_
  refine j_aload_n h d_Srv_acknowledge_6 rfl ?_
  refine j_get1e h d_Srv_acknowledge_7 fl_Srv_15 rfl (by assumption) (kb s hs).2.1 ?_
  refine j_callV h (c_Net_add _ _ _ _ _ _ _ _ _ cs _ _ _ _ rg _ _ _) d_Srv_acknowledge_10 ml_Srv_142 mv_Net_add (by assumption) ⟨rfl, rfl⟩ rfl rfl (Nat.le_of_ble_eq_true rfl) (hR_of hX (by decide) (by decide)) (hf_of hX (by decide) (by decide)) ?_
  rintro _ _ _ _ ⟨rfl, rfl, rfl, rfl⟩
  refine j_astore h d_Srv_acknowledge_13 (Nat.lt_of_lt_of_eq (m := 5) (by decide) hN.symm) ?_
  refine j_aload h d_Srv_acknowledge_15 rfl ?_
  refine j_aload_n h d_Srv_acknowledge_17 rfl ?_
  refine j_get1e (v := x 4) h d_Srv_acknowledge_18 fl_Srv_81 rfl (by assumption) (by first | exact hcm.1 4 (by decide) | (simp [up_rd, mB_rd, hne, adB_k]; exact hcm.1 4 (by decide))) ?_
  refine j_put1 h d_Srv_acknowledge_21 fw_Srv_81 rfl rfl (by assumption) ?_
  refine j_aload h d_Srv_acknowledge_24 rfl ?_
  refine j_aload_n h d_Srv_acknowledge_26 rfl ?_
  refine j_get1e (v := x 5) h d_Srv_acknowledge_27 fl_Srv_125 rfl (by assumption) (by first | exact hcm.1 5 (by decide) | (simp [up_rd, mB_rd, hne, adB_k]; exact hcm.1 5 (by decide))) ?_
  refine j_put1 h d_Srv_acknowledge_30 fw_Srv_125 rfl rfl (by assumption) ?_
  refine j_aload h d_Srv_acknowledge_33 rfl ?_
  refine j_aload_n h d_Srv_acknowledge_35 rfl ?_
  refine j_get1e (v := x 3) h d_Srv_acknowledge_36 fl_Srv_74 rfl (by assumption) (by first | exact hcm.1 3 (by decide) | (simp [up_rd, mB_rd, hne, adB_k]; exact hcm.1 3 (by decide))) ?_
  refine j_iconst (v := 2) h d_Srv_acknowledge_39 (by decide) ?_
  refine j_ic_ne (tgt := 50) h d_Srv_acknowledge_40 (by decide) (fun c1 => ?_) (fun c1 => ?_)
  · refine j_iconst (v := 0) h d_Srv_acknowledge_50 (by decide) ?_
    refine j_put1 h d_Srv_acknowledge_51 fw_Srv_114 rfl rfl (by assumption) ?_
    refine j_aload h d_Srv_acknowledge_54 rfl ?_
    refine j_aload_n h d_Srv_acknowledge_56 rfl ?_
    refine j_get0 h d_Srv_acknowledge_57 fl_Srv_36 rfl (by assumption) ?_
    refine j_put1 h d_Srv_acknowledge_60 fw_Srv_161 rfl rfl (by assumption) ?_
    refine j_aload h d_Srv_acknowledge_63 rfl ?_
    refine j_aload_n h d_Srv_acknowledge_65 rfl ?_
    refine j_get0 h d_Srv_acknowledge_66 fl_Srv_126 rfl (by assumption) ?_
    refine j_put1 h d_Srv_acknowledge_69 fw_Srv_203 rfl rfl (by assumption) ?_
    exact j_vret hX d_Srv_acknowledge_72 rfl (Nat.le_refl _) (Nat.le_refl _) ⟨rfl, rfl, rfl, _, rfl, NC_add kb nw (by repeat (first | exact oq_b _ _ _ _ _ | refine oq_u (by decide) ?_)) (by
      refine ⟨fun w hw => ?_, fun h3 => ?_, fun h4 => ?_⟩
      · rcases (show w = 0 ∨ w = 1 ∨ w = 2 ∨ w = 3 ∨ w = 4 ∨ w = 5 ∨ w = 6 by omega) with rfl | rfl | rfl | rfl | rfl | rfl | rfl <;> simp [up_rd, mB_rd, m_ack, hxa, *]
      · exact absurd h3 (show ¬ (4 : Int32) = 3 by decide)
      · exact ⟨by simp [up_rd, mB_rd, m_ack, hxa, *], by simp [up_rd, mB_rd, m_ack, hxa, *]⟩) (by simpa [up_rd, mB_rd, adB_k] using hz91)⟩
  · refine j_aload_n h d_Srv_acknowledge_43 rfl ?_
    refine j_get1e (v := x 6) h d_Srv_acknowledge_44 fl_Srv_114 rfl (by assumption) (by first | exact hcm.1 6 (by decide) | (simp [up_rd, mB_rd, hne, adB_k]; exact hcm.1 6 (by decide))) ?_
    refine j_goto (tgt := 51) h d_Srv_acknowledge_47 (by decide) ?_
    refine j_put1 h d_Srv_acknowledge_51 fw_Srv_114 rfl rfl (by assumption) ?_
    refine j_aload h d_Srv_acknowledge_54 rfl ?_
    refine j_aload_n h d_Srv_acknowledge_56 rfl ?_
    refine j_get0 h d_Srv_acknowledge_57 fl_Srv_36 rfl (by assumption) ?_
    refine j_put1 h d_Srv_acknowledge_60 fw_Srv_161 rfl rfl (by assumption) ?_
    refine j_aload h d_Srv_acknowledge_63 rfl ?_
    refine j_aload_n h d_Srv_acknowledge_65 rfl ?_
    refine j_get0 h d_Srv_acknowledge_66 fl_Srv_126 rfl (by assumption) ?_
    refine j_put1 h d_Srv_acknowledge_69 fw_Srv_203 rfl rfl (by assumption) ?_
    exact j_vret hX d_Srv_acknowledge_72 rfl (Nat.le_refl _) (Nat.le_refl _) ⟨rfl, rfl, rfl, _, rfl, NC_add kb nw (by repeat (first | exact oq_b _ _ _ _ _ | refine oq_u (by decide) ?_)) (by
      refine ⟨fun w hw => ?_, fun h3 => ?_, fun h4 => ?_⟩
      · rcases (show w = 0 ∨ w = 1 ∨ w = 2 ∨ w = 3 ∨ w = 4 ∨ w = 5 ∨ w = 6 by omega) with rfl | rfl | rfl | rfl | rfl | rfl | rfl <;> simp [up_rd, mB_rd, m_ack, hxa, *]
      · exact absurd h3 (show ¬ (4 : Int32) = 3 by decide)
      · exact ⟨by simp [up_rd, mB_rd, m_ack, hxa, *], by simp [up_rd, mB_rd, m_ack, hxa, *]⟩) (by simpa [up_rd, mB_rd, adB_k] using hz91)⟩
theorem d_Srv_answer_0 : decode b_Srv_answer 0 = .ok (.aload_n 3, 1) := by decide +kernel
theorem d_Srv_answer_1 : decode b_Srv_answer 1 = .ok (.iconst 1, 1) := by decide +kernel
theorem d_Srv_answer_2 : decode b_Srv_answer 2 = .ok (.aload_n 0, 1) := by decide +kernel
theorem d_Srv_answer_3 : decode b_Srv_answer 3 = .ok (.getfield 9, 3) := by decide +kernel
theorem d_Srv_answer_6 : decode b_Srv_answer 6 = .ok (.aload_n 1, 1) := by decide +kernel
theorem d_Srv_answer_7 : decode b_Srv_answer 7 = .ok (.getfield 84, 3) := by decide +kernel
theorem d_Srv_answer_10 : decode b_Srv_answer 10 = .ok (.invokevirtual 142, 3) := by decide +kernel
theorem d_Srv_answer_13 : decode b_Srv_answer 13 = .ok (.astore 4, 2) := by decide +kernel
theorem d_Srv_answer_15 : decode b_Srv_answer 15 = .ok (.aload 4, 2) := by decide +kernel
theorem d_Srv_answer_17 : decode b_Srv_answer 17 = .ok (.aload_n 1, 1) := by decide +kernel
theorem d_Srv_answer_18 : decode b_Srv_answer 18 = .ok (.getfield 125, 3) := by decide +kernel
theorem d_Srv_answer_21 : decode b_Srv_answer 21 = .ok (.putfield 125, 3) := by decide +kernel
theorem d_Srv_answer_24 : decode b_Srv_answer 24 = .ok (.iload_n 2, 1) := by decide +kernel
theorem d_Srv_answer_25 : decode b_Srv_answer 25 = .ok (.iconst (-1), 1) := by decide +kernel
theorem d_Srv_answer_26 : decode b_Srv_answer 26 = .ok (.if_icmp .eq 29, 3) := by decide +kernel
theorem d_Srv_answer_29 : decode b_Srv_answer 29 = .ok (.aload 4, 2) := by decide +kernel
theorem d_Srv_answer_31 : decode b_Srv_answer 31 = .ok (.iconst 1, 1) := by decide +kernel
theorem d_Srv_answer_32 : decode b_Srv_answer 32 = .ok (.putfield 74, 3) := by decide +kernel
theorem d_Srv_answer_35 : decode b_Srv_answer 35 = .ok (.aload 4, 2) := by decide +kernel
theorem d_Srv_answer_37 : decode b_Srv_answer 37 = .ok (.iload_n 2, 1) := by decide +kernel
theorem d_Srv_answer_38 : decode b_Srv_answer 38 = .ok (.putfield 81, 3) := by decide +kernel
theorem d_Srv_answer_41 : decode b_Srv_answer 41 = .ok (.aload 4, 2) := by decide +kernel
theorem d_Srv_answer_43 : decode b_Srv_answer 43 = .ok (.aload_n 0, 1) := by decide +kernel
theorem d_Srv_answer_44 : decode b_Srv_answer 44 = .ok (.getfield 26, 3) := by decide +kernel
theorem d_Srv_answer_47 : decode b_Srv_answer 47 = .ok (.iload_n 2, 1) := by decide +kernel
theorem d_Srv_answer_48 : decode b_Srv_answer 48 = .ok (.aaload, 1) := by decide +kernel
theorem d_Srv_answer_49 : decode b_Srv_answer 49 = .ok (.getfield 107, 3) := by decide +kernel
theorem d_Srv_answer_52 : decode b_Srv_answer 52 = .ok (.putfield 114, 3) := by decide +kernel
theorem d_Srv_answer_55 : decode b_Srv_answer 55 = .ok (.return_, 1) := by decide +kernel
set_option maxRecDepth 100000 in
set_option maxHeartbeats 4000000 in
theorem c_Srv_answer_no (l : Launch) (K : Kx) (V : Vx) (A B C D : MI) (P : MP) (n : Nat) (cs : CS K V P n) (s : Nat) (hs : s < 2) (ld sk : Int32) (N T : List Msg) (U : Msg) (hnc : NC K P B ld sk N T U) (q : Nat) (hq : V.1 5 q) (x : Msg) (hcm : CM B q x) (hoff : offR K P q) : Ct l K md_Srv_answer (2, 47) 0 0 [.ref (K.ad 1 s), .ref (K.ad 5 q), .int (-1), .ref (K.ad 4 0)] V (bk4 A B C D) P (NP K V C D P ld sk none A (netput (m_ans s (x 2) (x 5) 0 (-1) 0) N) T U) := by
  refine ct_of [(0, .ref (K.ad 1 s)), (1, .ref (K.ad 5 q)), (2, .int (-1)), (3, .ref (K.ad 4 0))] (by decide) (Nat.le_of_ble_eq_true rfl) (ca_r (ca_r (ca_i (ca_r ca_n)))) rfl ?_
  intro X hl hX
  have h : OkX X b_Srv_answer R_Srv K := hX.1
  have hN : X.nL = 5 := hX.2.1
  have hsv := cs_sv cs hs
  obtain ⟨kb, t, g, f, ft, nw⟩ := id hnc
  have rg := nw.1
  have hnv := cs_nv cs
  have hq0 : adq g t f N.length < 600 := (rg.2.2.2.2.2.2.2.1 t _ rg.1 (Nat.mod_lt _ (by decide))).2
  have hqv : V.1 5 (adq g t f N.length) := cs_mv cs (Nat.lt_succ_of_lt hq0)
  have hz91 := nw.2.2.2.2.2.2 _ (Nat.lt_succ_of_lt hq0)
  have hne := offR_ne hoff rg
  refine j_aload_n h d_Srv_answer_0 rfl ?_
  refine j_iconst (v := 1) h d_Srv_answer_1 (by decide) ?_
  refine j_aload_n h d_Srv_answer_2 rfl ?_
  refine j_get1e h d_Srv_answer_3 fl_Srv_9 rfl (by assumption) (kb s hs).1 ?_
  refine j_aload_n h d_Srv_answer_6 rfl ?_
  refine j_get1e (v := x 2) h d_Srv_answer_7 fl_Srv_84 rfl (by assumption) (by first | exact hcm.1 2 (by decide) | (simp [up_rd, mB_rd, hne, adB_k]; exact hcm.1 2 (by decide))) ?_
  refine j_callV h (c_Net_add _ _ _ _ _ _ _ _ _ cs _ _ _ _ rg _ _ _) d_Srv_answer_10 ml_Srv_142 mv_Net_add (by assumption) ⟨rfl, rfl⟩ rfl rfl (Nat.le_of_ble_eq_true rfl) (hR_of hX (by decide) (by decide)) (hf_of hX (by decide) (by decide)) ?_
  rintro _ _ _ _ ⟨rfl, rfl, rfl, rfl⟩
  refine j_astore h d_Srv_answer_13 (Nat.lt_of_lt_of_eq (m := 5) (by decide) hN.symm) ?_
  refine j_aload h d_Srv_answer_15 rfl ?_
  refine j_aload_n h d_Srv_answer_17 rfl ?_
  refine j_get1e (v := x 5) h d_Srv_answer_18 fl_Srv_125 rfl (by assumption) (by first | exact hcm.1 5 (by decide) | (simp [up_rd, mB_rd, hne, adB_k]; exact hcm.1 5 (by decide))) ?_
  refine j_put1 h d_Srv_answer_21 fw_Srv_125 rfl rfl (by assumption) ?_
  refine j_iload_n h d_Srv_answer_24 rfl ?_
  refine j_iconst (v := -1) h d_Srv_answer_25 (by decide) ?_
  refine j_ic_eq (tgt := 55) h d_Srv_answer_26 (by decide) (fun _ => ?_) (fun z => absurd rfl z)
  exact j_vret hX d_Srv_answer_55 rfl (Nat.le_refl _) (Nat.le_refl _) ⟨rfl, rfl, rfl, _, rfl, NC_add kb nw (by repeat (first | exact oq_b _ _ _ _ _ | refine oq_u (by decide) ?_)) (by
        refine ⟨fun w hw => ?_, fun h3 => ?_, fun h4 => ?_⟩
        · rcases (show w = 0 ∨ w = 1 ∨ w = 2 ∨ w = 3 ∨ w = 4 ∨ w = 5 ∨ w = 6 by omega) with rfl | rfl | rfl | rfl | rfl | rfl | rfl <;> simp [up_rd, mB_rd, m_ans, mk7]
        · exact absurd h3 (show ¬ (1 : Int32) = 3 by decide)
        · exact absurd h4 (show ¬ (1 : Int32) = 4 by decide)) (by simpa [up_rd, mB_rd, adB_k] using hz91)⟩
set_option maxRecDepth 100000 in
set_option maxHeartbeats 4000000 in
theorem c_Srv_answer_yes (l : Launch) (K : Kx) (V : Vx) (A B C D : MI) (P : MP) (n : Nat) (cs : CS K V P n) (s : Nat) (hs : s < 2) (ld sk : Int32) (N T : List Msg) (U : Msg) (hnc : NC K P B ld sk N T U) (q : Nat) (hq : V.1 5 q) (x : Msg) (hcm : CM B q x) (hoff : offR K P q) (a : Nat) (ha : a < n) : Ct l K md_Srv_answer (2, 47) 0 0 [.ref (K.ad 1 s), .ref (K.ad 5 q), .int (nI a), .ref (K.ad 4 0)] V (bk4 A B C D) P (NP K V C D P ld sk none A (netput (m_ans s (x 2) (x 5) 1 (nI a) (A 12 (32 * s + a))) N) T U) := by
  refine ct_of [(0, .ref (K.ad 1 s)), (1, .ref (K.ad 5 q)), (2, .int (nI a)), (3, .ref (K.ad 4 0))] (by decide) (Nat.le_of_ble_eq_true rfl) (ca_r (ca_r (ca_i (ca_r ca_n)))) rfl ?_
  intro X hl hX
  have h : OkX X b_Srv_answer R_Srv K := hX.1
  have hN : X.nL = 5 := hX.2.1
  have hsv := cs_sv cs hs
  obtain ⟨kb, t, g, f, ft, nw⟩ := id hnc
  have rg := nw.1
  have hnv := cs_nv cs
  have hq0 : adq g t f N.length < 600 := (rg.2.2.2.2.2.2.2.1 t _ rg.1 (Nat.mod_lt _ (by decide))).2
  have hqv : V.1 5 (adq g t f N.length) := cs_mv cs (Nat.lt_succ_of_lt hq0)
  have hz91 := nw.2.2.2.2.2.2 _ (Nat.lt_succ_of_lt hq0)
  have hne := offR_ne hoff rg
  have hr := cs_rv cs hs ha
  have hn31 := cs_n31 cs
  refine j_aload_n h d_Srv_answer_0 rfl ?_
  refine j_iconst (v := 1) h d_Srv_answer_1 (by decide) ?_
  refine j_aload_n h d_Srv_answer_2 rfl ?_
  refine j_get1e h d_Srv_answer_3 fl_Srv_9 rfl (by assumption) (kb s hs).1 ?_
  refine j_aload_n h d_Srv_answer_6 rfl ?_
  refine j_get1e (v := x 2) h d_Srv_answer_7 fl_Srv_84 rfl (by assumption) (by first | exact hcm.1 2 (by decide) | (simp [up_rd, mB_rd, hne, adB_k]; exact hcm.1 2 (by decide))) ?_
  refine j_callV h (c_Net_add _ _ _ _ _ _ _ _ _ cs _ _ _ _ rg _ _ _) d_Srv_answer_10 ml_Srv_142 mv_Net_add (by assumption) ⟨rfl, rfl⟩ rfl rfl (Nat.le_of_ble_eq_true rfl) (hR_of hX (by decide) (by decide)) (hf_of hX (by decide) (by decide)) ?_
  rintro _ _ _ _ ⟨rfl, rfl, rfl, rfl⟩
  refine j_astore h d_Srv_answer_13 (Nat.lt_of_lt_of_eq (m := 5) (by decide) hN.symm) ?_
  refine j_aload h d_Srv_answer_15 rfl ?_
  refine j_aload_n h d_Srv_answer_17 rfl ?_
  refine j_get1e (v := x 5) h d_Srv_answer_18 fl_Srv_125 rfl (by assumption) (by first | exact hcm.1 5 (by decide) | (simp [up_rd, mB_rd, hne, adB_k]; exact hcm.1 5 (by decide))) ?_
  refine j_put1 h d_Srv_answer_21 fw_Srv_125 rfl rfl (by assumption) ?_
  refine j_iload_n h d_Srv_answer_24 rfl ?_
  refine j_iconst (v := -1) h d_Srv_answer_25 (by decide) ?_
  refine j_ic_eq (tgt := 55) h d_Srv_answer_26 (by decide) (fun z => absurd z (nI_m1 (by omega))) (fun _ => ?_)
  refine j_aload h d_Srv_answer_29 rfl ?_
  refine j_iconst (v := 1) h d_Srv_answer_31 (by decide) ?_
  refine j_put1 h d_Srv_answer_32 fw_Srv_74 rfl rfl (by assumption) ?_
  refine j_aload h d_Srv_answer_35 rfl ?_
  refine j_iload_n h d_Srv_answer_37 rfl ?_
  refine j_put1 h d_Srv_answer_38 fw_Srv_81 rfl rfl (by assumption) ?_
  refine j_aload h d_Srv_answer_41 rfl ?_
  refine j_aload_n h d_Srv_answer_43 rfl ?_
  refine j_getR h d_Srv_answer_44 fl_Srv_26 rfl (by assumption) (cs_rp cs hs) ?_
  refine j_iload_n h d_Srv_answer_47 rfl ?_
  refine j_recs h cs hs ha d_Srv_answer_48 ?_
  refine j_get0 h d_Srv_answer_49 fl_Srv_107 rfl (by assumption) ?_
  refine j_put1 h d_Srv_answer_52 fw_Srv_114 rfl rfl (by assumption) ?_
  exact j_vret hX d_Srv_answer_55 rfl (Nat.le_refl _) (Nat.le_refl _) ⟨rfl, rfl, rfl, _, rfl, NC_add kb nw (by repeat (first | exact oq_b _ _ _ _ _ | refine oq_u (by decide) ?_)) (by
      refine ⟨fun w hw => ?_, fun h3 => ?_, fun h4 => ?_⟩
      · rcases (show w = 0 ∨ w = 1 ∨ w = 2 ∨ w = 3 ∨ w = 4 ∨ w = 5 ∨ w = 6 by omega) with rfl | rfl | rfl | rfl | rfl | rfl | rfl <;> simp [up_rd, mB_rd, m_ans, mk7]
      · exact absurd h3 (show ¬ (1 : Int32) = 3 by decide)
      · exact absurd h4 (show ¬ (1 : Int32) = 4 by decide)) (by simpa [up_rd, mB_rd, adB_k] using hz91)⟩
theorem d_Srv_sendAll_0 : decode b_Srv_sendAll 0 = .ok (.iconst 0, 1) := by decide +kernel
theorem d_Srv_sendAll_1 : decode b_Srv_sendAll 1 = .ok (.istore_n 2, 1) := by decide +kernel
theorem d_Srv_sendAll_2 : decode b_Srv_sendAll 2 = .ok (.iload_n 2, 1) := by decide +kernel
theorem d_Srv_sendAll_3 : decode b_Srv_sendAll 3 = .ok (.aload_n 0, 1) := by decide +kernel
theorem d_Srv_sendAll_4 : decode b_Srv_sendAll 4 = .ok (.getfield 26, 3) := by decide +kernel
theorem d_Srv_sendAll_7 : decode b_Srv_sendAll 7 = .ok (.arraylength, 1) := by decide +kernel
theorem d_Srv_sendAll_8 : decode b_Srv_sendAll 8 = .ok (.if_icmp .ge 15, 3) := by decide +kernel
theorem d_Srv_sendAll_11 : decode b_Srv_sendAll 11 = .ok (.aload_n 0, 1) := by decide +kernel
theorem d_Srv_sendAll_12 : decode b_Srv_sendAll 12 = .ok (.iload_n 2, 1) := by decide +kernel
theorem d_Srv_sendAll_13 : decode b_Srv_sendAll 13 = .ok (.aload_n 1, 1) := by decide +kernel
theorem d_Srv_sendAll_14 : decode b_Srv_sendAll 14 = .ok (.invokevirtual 218, 3) := by decide +kernel
theorem d_Srv_sendAll_17 : decode b_Srv_sendAll 17 = .ok (.iinc 2 1, 3) := by decide +kernel
theorem d_Srv_sendAll_20 : decode b_Srv_sendAll 20 = .ok (.goto (-18), 3) := by decide +kernel
theorem d_Srv_sendAll_23 : decode b_Srv_sendAll 23 = .ok (.return_, 1) := by decide +kernel
set_option maxRecDepth 100000 in
set_option maxHeartbeats 4000000 in
theorem c_Srv_sendAll (l : Launch) (K : Kx) (V : Vx) (A B C D : MI) (P : MP) (n : Nat) (cs : CS K V P n) (s : Nat) (hs : s < 2) (ld sk : Int32) (N T : List Msg) (U : Msg) (hnc : NC K P B ld sk N T U) (hz : ∀ i, A 14 i = 0 ∨ A 14 i = 1) : Ct l K md_Srv_sendAll (3, 71) 0 0 [.ref (K.ad 1 s), .ref (K.ad 4 0)] V (bk4 A B C D) P (NP K V C D P ld sk none A (updR A s n 0 N) T U) := by
  refine ct_of [(0, .ref (K.ad 1 s)), (1, .ref (K.ad 4 0))] (by decide) (Nat.le_of_ble_eq_true rfl) (ca_r (ca_r ca_n)) rfl ?_
  intro X hl hX
  have h : OkX X b_Srv_sendAll R_Srv K := hX.1
  have hN : X.nL = 3 := hX.2.1
  have hsv := cs_sv cs hs
  have hL : ∀ (k i : Nat) (B1 : MI) (N1 : List Msg), i + k = n → NC K P B1 ld sk N1 T U ∧ updR A s n 0 N = updR A s k i N1 → J X K V (bk4 A B1 C D) P 0 0 2 [(0, .ref (K.ad 1 s)), (1, .ref (K.ad 4 0)), (2, .int (nI i))] [] := by
    intro k
    induction k with
    | zero =>
      intro i B1 N1 hi hv
      have hi2 : i = n := by omega
      subst hi2
      refine j_iload_n h d_Srv_sendAll_2 rfl ?_
      refine j_aload_n h d_Srv_sendAll_3 rfl ?_
      refine j_getR h d_Srv_sendAll_4 fl_Srv_26 rfl (by assumption) (cs_rp cs hs) ?_
      refine j_recl h cs hs d_Srv_sendAll_7 ?_
      refine j_ic_ge (tgt := 23) h d_Srv_sendAll_8 (by decide) (fun _ => ?_) (fun c => absurd (nI_le (Nat.le_refl _) (cs_n31 cs)) c)
      have hn1 := hv.1
      exact j_vret hX d_Srv_sendAll_23 rfl (Nat.le_refl _) (Nat.le_refl _) ⟨rfl, rfl, rfl, _, rfl, by rw [hv.2]; exact hn1⟩
    | succ k ih =>
      intro i B1 N1 hi hv
      have hi2 : i < n := by omega
      have hn1 := hv.1
      have hr := cs_rv cs hs hi2
      refine j_iload_n h d_Srv_sendAll_2 rfl ?_
      refine j_aload_n h d_Srv_sendAll_3 rfl ?_
      refine j_getR h d_Srv_sendAll_4 fl_Srv_26 rfl (by assumption) (cs_rp cs hs) ?_
      refine j_recl h cs hs d_Srv_sendAll_7 ?_
      refine j_ic_ge (tgt := 23) h d_Srv_sendAll_8 (by decide) (fun c => absurd c (nI_ge hi2 (cs_n31 cs))) (fun _ => ?_)
      refine j_aload_n h d_Srv_sendAll_11 rfl ?_
      refine j_iload_n h d_Srv_sendAll_12 rfl ?_
      refine j_aload_n h d_Srv_sendAll_13 rfl ?_
      refine j_callV h (c_Srv_sendUpdate _ _ _ _ _ _ _ _ _ cs _ hs _ _ _ _ _ hn1 _ hi2 (hz _)) d_Srv_sendAll_14 ml_Srv_218 mv_Srv_sendUpdate (by assumption) ⟨rfl, rfl⟩ rfl rfl (Nat.le_of_ble_eq_true rfl) (hR_of hX (by decide) (by decide)) (hf_of hX (by decide) (by decide)) ?_
      rintro _ _ _ _ ⟨rfl, rfl, rfl, B2, rfl, hn2⟩
      refine j_iinc (v := nI (i + 1)) h d_Srv_sendAll_17 rfl (nI_i i) (Nat.lt_of_lt_of_eq (m := 3) (by decide) hN.symm) ?_
      refine j_goto (tgt := 2) h d_Srv_sendAll_20 (by decide) ?_
      refine j_lv (lv' := [(0, .ref (K.ad 1 s)), (1, .ref (K.ad 4 0)), (2, .int (nI (i + 1)))]) (lvs rfl (lvs rfl (lvs rfl lvs0))) ?_
      exact ih (i + 1) B2 _ (by omega) ⟨hn2, hv.2⟩
  refine j_iconst (v := 0) h d_Srv_sendAll_0 (by decide) ?_
  refine j_istore_n h d_Srv_sendAll_1 (Nat.lt_of_lt_of_eq (m := 3) (by decide) hN.symm) ?_
  refine j_lv (lv' := [(0, .ref (K.ad 1 s)), (1, .ref (K.ad 4 0)), (2, .int (nI 0))]) (lvs rfl (lvs rfl (lvs rfl lvs0))) ?_
  exact hL n 0 B N (by omega) ⟨hnc, rfl⟩
end
section
/-! sending what waits; hearing a HELLO; a new lease; what a server tells -/
def spf (A : MI) (s n : Nat) (N : List Msg) : Int32 × List Msg := if A 0 s = 1 then penR A s n 0 1 (netput (m_hello A s) N) else penR A s n 0 0 N
theorem wr_rd (A : MI) (s : Nat) {c : Nat} (i : Nat) (h0 : c ≠ 0) (h6 : c ≠ 6) (h7 : c ≠ 7) : wr A s c i = A c i := by
  unfold wr
  split
  · rw [up_c _ _ h6, up_c _ _ h0, up_c _ _ h7]
  · split
    · rw [up_c _ _ h6, up_c _ _ h7]
    · rw [up_c _ _ h7]
theorem rejR_rd (s : Nat) {c : Nat} (i : Nat) (h : c ≠ 21) : ∀ (k j : Nat) (A : MI), rejR s k j A c i = A c i
  | 0, _, _ => rfl
  | k + 1, j, A => by
    unfold rejR
    rw [rejR_rd s i h k (j + 1), up_c _ _ h]
def hhA (A : MI) (s n : Nat) (num : Int32) : MI := if A 4 s < num then wr (if A 0 s = 3 then rejR s n 0 (up (up A 4 s num) 0 s 2) else up A 4 s num) s else A
def hhN (A : MI) (s n : Nat) (num : Int32) (N : List Msg) : List Msg := if hhA A s n num 0 s = 0 then N else updR (hhA A s n num) s n 0 N
theorem hhA_14 (A : MI) (s n : Nat) (num : Int32) (i : Nat) : hhA A s n num 14 i = A 14 i := by
  unfold hhA
  split
  · rw [wr_rd _ _ _ (by decide) (by decide) (by decide)]
    split
    · rw [rejR_rd _ _ (by decide), up_c _ _ (by decide), up_c _ _ (by decide)]
    · rw [up_c _ _ (by decide)]
  · rfl
def lnwA (A : MI) (s n : Nat) (ld t c amt num : Int32) : MI := if lstOwn A s n 0 = -1 then A else lsNew A (32 * s + (lstOwn A s n 0).toNatClampNeg) s ld t c amt num
def stell (A : MI) (s n : Nat) (t : Int32) (w : Nat) : Int32 := match w with
  | 0 => A 0 s
  | 1 => t
  | 2 => A 2 s
  | 3 => A 4 s
  | 4 => A 3 s
  | 5 => A 5 s
  | 6 => cOwn A s n 0 0
  | 7 => cPen A s n 0 0
  | _ => A 7 s
theorem d_Srv_sendPending_0 : decode b_Srv_sendPending 0 = .ok (.iconst 0, 1) := by decide +kernel
theorem d_Srv_sendPending_1 : decode b_Srv_sendPending 1 = .ok (.istore_n 2, 1) := by decide +kernel
theorem d_Srv_sendPending_2 : decode b_Srv_sendPending 2 = .ok (.aload_n 0, 1) := by decide +kernel
theorem d_Srv_sendPending_3 : decode b_Srv_sendPending 3 = .ok (.getfield 33, 3) := by decide +kernel
theorem d_Srv_sendPending_6 : decode b_Srv_sendPending 6 = .ok (.iconst 1, 1) := by decide +kernel
theorem d_Srv_sendPending_7 : decode b_Srv_sendPending 7 = .ok (.if_icmp .ne 11, 3) := by decide +kernel
theorem d_Srv_sendPending_10 : decode b_Srv_sendPending 10 = .ok (.aload_n 0, 1) := by decide +kernel
theorem d_Srv_sendPending_11 : decode b_Srv_sendPending 11 = .ok (.aload_n 1, 1) := by decide +kernel
theorem d_Srv_sendPending_12 : decode b_Srv_sendPending 12 = .ok (.invokevirtual 222, 3) := by decide +kernel
theorem d_Srv_sendPending_15 : decode b_Srv_sendPending 15 = .ok (.iinc 2 1, 3) := by decide +kernel
theorem d_Srv_sendPending_18 : decode b_Srv_sendPending 18 = .ok (.iconst 0, 1) := by decide +kernel
theorem d_Srv_sendPending_19 : decode b_Srv_sendPending 19 = .ok (.istore_n 3, 1) := by decide +kernel
theorem d_Srv_sendPending_20 : decode b_Srv_sendPending 20 = .ok (.iload_n 3, 1) := by decide +kernel
theorem d_Srv_sendPending_21 : decode b_Srv_sendPending 21 = .ok (.aload_n 0, 1) := by decide +kernel
theorem d_Srv_sendPending_22 : decode b_Srv_sendPending 22 = .ok (.getfield 26, 3) := by decide +kernel
theorem d_Srv_sendPending_25 : decode b_Srv_sendPending 25 = .ok (.arraylength, 1) := by decide +kernel
theorem d_Srv_sendPending_26 : decode b_Srv_sendPending 26 = .ok (.if_icmp .ge 30, 3) := by decide +kernel
theorem d_Srv_sendPending_29 : decode b_Srv_sendPending 29 = .ok (.aload_n 0, 1) := by decide +kernel
theorem d_Srv_sendPending_30 : decode b_Srv_sendPending 30 = .ok (.getfield 26, 3) := by decide +kernel
theorem d_Srv_sendPending_33 : decode b_Srv_sendPending 33 = .ok (.iload_n 3, 1) := by decide +kernel
theorem d_Srv_sendPending_34 : decode b_Srv_sendPending 34 = .ok (.aaload, 1) := by decide +kernel
theorem d_Srv_sendPending_35 : decode b_Srv_sendPending 35 = .ok (.getfield 225, 3) := by decide +kernel
theorem d_Srv_sendPending_38 : decode b_Srv_sendPending 38 = .ok (.ifCond .eq 12, 3) := by decide +kernel
theorem d_Srv_sendPending_41 : decode b_Srv_sendPending 41 = .ok (.aload_n 0, 1) := by decide +kernel
theorem d_Srv_sendPending_42 : decode b_Srv_sendPending 42 = .ok (.iload_n 3, 1) := by decide +kernel
theorem d_Srv_sendPending_43 : decode b_Srv_sendPending 43 = .ok (.aload_n 1, 1) := by decide +kernel
theorem d_Srv_sendPending_44 : decode b_Srv_sendPending 44 = .ok (.invokevirtual 218, 3) := by decide +kernel
theorem d_Srv_sendPending_47 : decode b_Srv_sendPending 47 = .ok (.iinc 2 1, 3) := by decide +kernel
theorem d_Srv_sendPending_50 : decode b_Srv_sendPending 50 = .ok (.iinc 3 1, 3) := by decide +kernel
theorem d_Srv_sendPending_53 : decode b_Srv_sendPending 53 = .ok (.goto (-33), 3) := by decide +kernel
theorem d_Srv_sendPending_56 : decode b_Srv_sendPending 56 = .ok (.iload_n 2, 1) := by decide +kernel
theorem d_Srv_sendPending_57 : decode b_Srv_sendPending 57 = .ok (.ireturn, 1) := by decide +kernel
set_option maxRecDepth 100000 in
set_option maxHeartbeats 4000000 in
theorem c_Srv_sendPending (l : Launch) (K : Kx) (V : Vx) (A B C D : MI) (P : MP) (n : Nat) (cs : CS K V P n) (s : Nat) (hs : s < 2) (ld sk : Int32) (N T : List Msg) (U : Msg) (hnc : NC K P B ld sk N T U) (hz : ∀ i, A 14 i = 0 ∨ A 14 i = 1) : Ct l K md_Srv_sendPending (3, 71) 0 0 [.ref (K.ad 1 s), .ref (K.ad 4 0)] V (bk4 A B C D) P (NP K V C D P ld sk (some (.int (spf A s n N).1)) A (spf A s n N).2 T U) := by
  refine ct_of [(0, .ref (K.ad 1 s)), (1, .ref (K.ad 4 0))] (by decide) (Nat.le_of_ble_eq_true rfl) (ca_r (ca_r ca_n)) rfl ?_
  intro X hl hX
  have h : OkX X b_Srv_sendPending R_Srv K := hX.1
  have hN : X.nL = 4 := hX.2.1
  have hsv := cs_sv cs hs
  have hL : ∀ (k i : Nat) (g : Int32) (B1 : MI) (N1 : List Msg), i + k = n → NC K P B1 ld sk N1 T U ∧ spf A s n N = penR A s k i g N1 → J X K V (bk4 A B1 C D) P 0 0 20 [(0, .ref (K.ad 1 s)), (1, .ref (K.ad 4 0)), (2, .int g), (3, .int (nI i))] [] := by
    intro k
    induction k with
    | zero =>
      intro i g B1 N1 hi hv
      have hi2 : i = n := by omega
      subst hi2
      refine j_iload_n h d_Srv_sendPending_20 rfl ?_
      refine j_aload_n h d_Srv_sendPending_21 rfl ?_
      refine j_getR h d_Srv_sendPending_22 fl_Srv_26 rfl (by assumption) (cs_rp cs hs) ?_
      refine j_recl h cs hs d_Srv_sendPending_25 ?_
      refine j_ic_ge (tgt := 56) h d_Srv_sendPending_26 (by decide) (fun _ => ?_) (fun c => absurd (nI_le (Nat.le_refl _) (cs_n31 cs)) c)
      have hn1 := hv.1
      refine j_iload_n h d_Srv_sendPending_56 rfl ?_
      exact j_iret hX d_Srv_sendPending_57 rfl (Nat.le_refl _) (Nat.le_refl _) ⟨rfl, by rw [hv.2]; rfl, rfl, _, rfl, by rw [hv.2]; exact hn1⟩
    | succ k ih =>
      intro i g B1 N1 hi hv
      have hi2 : i < n := by omega
      have hn1 := hv.1
      have hr := cs_rv cs hs hi2
      refine j_iload_n h d_Srv_sendPending_20 rfl ?_
      refine j_aload_n h d_Srv_sendPending_21 rfl ?_
      refine j_getR h d_Srv_sendPending_22 fl_Srv_26 rfl (by assumption) (cs_rp cs hs) ?_
      refine j_recl h cs hs d_Srv_sendPending_25 ?_
      refine j_ic_ge (tgt := 56) h d_Srv_sendPending_26 (by decide) (fun c => absurd c (nI_ge hi2 (cs_n31 cs))) (fun _ => ?_)
      refine j_aload_n h d_Srv_sendPending_29 rfl ?_
      refine j_getR h d_Srv_sendPending_30 fl_Srv_26 rfl (by assumption) (cs_rp cs hs) ?_
      refine j_iload_n h d_Srv_sendPending_33 rfl ?_
      refine j_recs h cs hs hi2 d_Srv_sendPending_34 ?_
      refine j_get0 h d_Srv_sendPending_35 fl_Srv_225 rfl (by assumption) ?_
      refine j_if_eq (tgt := 50) h d_Srv_sendPending_38 (by decide) (fun c1 => ?_) (fun c1 => ?_)
      · refine j_iinc (v := nI (i + 1)) h d_Srv_sendPending_50 rfl (nI_i i) (Nat.lt_of_lt_of_eq (m := 4) (by decide) hN.symm) ?_
        refine j_goto (tgt := 20) h d_Srv_sendPending_53 (by decide) ?_
        refine j_lv (lv' := [(0, .ref (K.ad 1 s)), (1, .ref (K.ad 4 0)), (2, .int _), (3, .int (nI (i + 1)))]) (lvs rfl (lvs rfl (lvs rfl (lvs rfl lvs0)))) ?_
        exact ih (i + 1) _ _ _ (by omega) ⟨by assumption, hv.2.trans (by simp_all [penR])⟩
      · refine j_aload_n h d_Srv_sendPending_41 rfl ?_
        refine j_iload_n h d_Srv_sendPending_42 rfl ?_
        refine j_aload_n h d_Srv_sendPending_43 rfl ?_
        refine j_callV h (c_Srv_sendUpdate _ _ _ _ _ _ _ _ _ cs _ hs _ _ _ _ _ hn1 _ hi2 (hz _)) d_Srv_sendPending_44 ml_Srv_218 mv_Srv_sendUpdate (by assumption) ⟨rfl, rfl⟩ rfl rfl (Nat.le_of_ble_eq_true rfl) (hR_of hX (by decide) (by decide)) (hf_of hX (by decide) (by decide)) ?_
        rintro _ _ _ _ ⟨rfl, rfl, rfl, B2, rfl, hn2⟩
        refine j_iinc (v := g + 1) h d_Srv_sendPending_47 rfl rfl (Nat.lt_of_lt_of_eq (m := 4) (by decide) hN.symm) ?_
        refine j_iinc (v := nI (i + 1)) h d_Srv_sendPending_50 rfl (nI_i i) (Nat.lt_of_lt_of_eq (m := 4) (by decide) hN.symm) ?_
        refine j_goto (tgt := 20) h d_Srv_sendPending_53 (by decide) ?_
        refine j_lv (lv' := [(0, .ref (K.ad 1 s)), (1, .ref (K.ad 4 0)), (2, .int _), (3, .int (nI (i + 1)))]) (lvs rfl (lvs rfl (lvs rfl (lvs rfl lvs0)))) ?_
        exact ih (i + 1) _ _ _ (by omega) ⟨by assumption, hv.2.trans (by simp_all [penR])⟩
  refine j_iconst (v := 0) h d_Srv_sendPending_0 (by decide) ?_
  refine j_istore_n h d_Srv_sendPending_1 (Nat.lt_of_lt_of_eq (m := 4) (by decide) hN.symm) ?_
  refine j_aload_n h d_Srv_sendPending_2 rfl ?_
  refine j_get0 h d_Srv_sendPending_3 fl_Srv_33 rfl (by assumption) ?_
  refine j_iconst (v := 1) h d_Srv_sendPending_6 (by decide) ?_
  refine j_ic_ne (tgt := 18) h d_Srv_sendPending_7 (by decide) (fun c1 => ?_) (fun c1 => ?_)
  · refine j_iconst (v := 0) h d_Srv_sendPending_18 (by decide) ?_
    refine j_istore_n h d_Srv_sendPending_19 (Nat.lt_of_lt_of_eq (m := 4) (by decide) hN.symm) ?_
    refine j_lv (lv' := [(0, .ref (K.ad 1 s)), (1, .ref (K.ad 4 0)), (2, .int _), (3, .int (nI 0))]) (lvs rfl (lvs rfl (lvs rfl (lvs rfl lvs0)))) ?_
    exact hL n 0 _ _ _ (by omega) ⟨by assumption, by simp_all [spf]⟩
  · refine j_aload_n h d_Srv_sendPending_10 rfl ?_
    refine j_aload_n h d_Srv_sendPending_11 rfl ?_
    refine j_callV h (c_Srv_sendHello _ _ _ _ _ _ _ _ _ cs _ hs _ _ _ _ _ hnc) d_Srv_sendPending_12 ml_Srv_222 mv_Srv_sendHello (by assumption) ⟨rfl, rfl⟩ rfl rfl (Nat.le_of_ble_eq_true rfl) (hR_of hX (by decide) (by decide)) (hf_of hX (by decide) (by decide)) ?_
    rintro _ _ _ _ ⟨rfl, rfl, rfl, B2, rfl, hn2⟩
    refine j_iinc (v := 1) h d_Srv_sendPending_15 rfl (by decide) (Nat.lt_of_lt_of_eq (m := 4) (by decide) hN.symm) ?_
    refine j_iconst (v := 0) h d_Srv_sendPending_18 (by decide) ?_
    refine j_istore_n h d_Srv_sendPending_19 (Nat.lt_of_lt_of_eq (m := 4) (by decide) hN.symm) ?_
    refine j_lv (lv' := [(0, .ref (K.ad 1 s)), (1, .ref (K.ad 4 0)), (2, .int _), (3, .int (nI 0))]) (lvs rfl (lvs rfl (lvs rfl (lvs rfl lvs0)))) ?_
    exact hL n 0 _ _ _ (by omega) ⟨by assumption, by simp_all [spf]⟩
theorem d_Srv_hearHello_0 : decode b_Srv_hearHello 0 = .ok (.aload_n 1, 1) := by decide +kernel
theorem d_Srv_hearHello_1 : decode b_Srv_hearHello 1 = .ok (.getfield 125, 3) := by decide +kernel
theorem d_Srv_hearHello_4 : decode b_Srv_hearHello 4 = .ok (.aload_n 0, 1) := by decide +kernel
theorem d_Srv_hearHello_5 : decode b_Srv_hearHello 5 = .ok (.getfield 42, 3) := by decide +kernel
theorem d_Srv_hearHello_8 : decode b_Srv_hearHello 8 = .ok (.if_icmp .le 27, 3) := by decide +kernel
theorem d_Srv_hearHello_11 : decode b_Srv_hearHello 11 = .ok (.aload_n 0, 1) := by decide +kernel
theorem d_Srv_hearHello_12 : decode b_Srv_hearHello 12 = .ok (.aload_n 1, 1) := by decide +kernel
theorem d_Srv_hearHello_13 : decode b_Srv_hearHello 13 = .ok (.getfield 125, 3) := by decide +kernel
theorem d_Srv_hearHello_16 : decode b_Srv_hearHello 16 = .ok (.putfield 42, 3) := by decide +kernel
theorem d_Srv_hearHello_19 : decode b_Srv_hearHello 19 = .ok (.aload_n 0, 1) := by decide +kernel
theorem d_Srv_hearHello_20 : decode b_Srv_hearHello 20 = .ok (.getfield 33, 3) := by decide +kernel
theorem d_Srv_hearHello_23 : decode b_Srv_hearHello 23 = .ok (.iconst 3, 1) := by decide +kernel
theorem d_Srv_hearHello_24 : decode b_Srv_hearHello 24 = .ok (.if_icmp .ne 7, 3) := by decide +kernel
theorem d_Srv_hearHello_27 : decode b_Srv_hearHello 27 = .ok (.aload_n 0, 1) := by decide +kernel
theorem d_Srv_hearHello_28 : decode b_Srv_hearHello 28 = .ok (.invokevirtual 154, 3) := by decide +kernel
theorem d_Srv_hearHello_31 : decode b_Srv_hearHello 31 = .ok (.aload_n 0, 1) := by decide +kernel
theorem d_Srv_hearHello_32 : decode b_Srv_hearHello 32 = .ok (.invokevirtual 65, 3) := by decide +kernel
theorem d_Srv_hearHello_35 : decode b_Srv_hearHello 35 = .ok (.aload_n 0, 1) := by decide +kernel
theorem d_Srv_hearHello_36 : decode b_Srv_hearHello 36 = .ok (.getfield 33, 3) := by decide +kernel
theorem d_Srv_hearHello_39 : decode b_Srv_hearHello 39 = .ok (.ifCond .eq 8, 3) := by decide +kernel
theorem d_Srv_hearHello_42 : decode b_Srv_hearHello 42 = .ok (.aload_n 0, 1) := by decide +kernel
theorem d_Srv_hearHello_43 : decode b_Srv_hearHello 43 = .ok (.aload_n 2, 1) := by decide +kernel
theorem d_Srv_hearHello_44 : decode b_Srv_hearHello 44 = .ok (.invokevirtual 157, 3) := by decide +kernel
theorem d_Srv_hearHello_47 : decode b_Srv_hearHello 47 = .ok (.return_, 1) := by decide +kernel
set_option maxRecDepth 100000 in
set_option maxHeartbeats 4000000 in
theorem c_Srv_hearHello (l : Launch) (K : Kx) (V : Vx) (A B C D : MI) (P : MP) (n : Nat) (cs : CS K V P n) (s : Nat) (hs : s < 2) (ld sk : Int32) (N T : List Msg) (U : Msg) (hnc : NC K P B ld sk N T U) (q : Nat) (hq : V.1 5 q) (x : Msg) (hcm : CM B q x) (hz : ∀ i, A 14 i = 0 ∨ A 14 i = 1) : Ct l K md_Srv_hearHello (4, 93) 0 0 [.ref (K.ad 1 s), .ref (K.ad 5 q), .ref (K.ad 4 0)] V (bk4 A B C D) P (NP K V C D P ld sk none (hhA A s n (x 5)) (hhN A s n (x 5) N) T U) := by
  refine ct_of [(0, .ref (K.ad 1 s)), (1, .ref (K.ad 5 q)), (2, .ref (K.ad 4 0))] (by decide) (Nat.le_of_ble_eq_true rfl) (ca_r (ca_r (ca_r ca_n))) rfl ?_
  intro X hl hX
  have h : OkX X b_Srv_hearHello R_Srv K := hX.1
  have hN : X.nL = 3 := hX.2.1
  have hsv := cs_sv cs hs
  refine j_aload_n h d_Srv_hearHello_0 rfl ?_
  refine j_get1e (v := x 5) h d_Srv_hearHello_1 fl_Srv_125 rfl (by assumption) (by first | exact hcm.1 5 (by decide) | (simp [up_rd, mB_rd, hne, adB_k]; exact hcm.1 5 (by decide))) ?_
  refine j_aload_n h d_Srv_hearHello_4 rfl ?_
  refine j_get0 h d_Srv_hearHello_5 fl_Srv_42 rfl (by assumption) ?_
  refine j_ic_le (tgt := 35) h d_Srv_hearHello_8 (by decide) (fun c1 => ?_) (fun c1 => ?_)
  · obtain ⟨Y, hA⟩ : ∃ Y, Y = hhA A s n (x 5) := ⟨_, rfl⟩
    refine j_eq (I' := bk4 Y B C D) (by rw [hA]; clear hX h hl; first | (simp_all [hhA, up_rd]; done) | grind [hhA, up_rd]) rfl rfl rfl ?_
    refine j_aload_n h d_Srv_hearHello_35 rfl ?_
    refine j_get0 h d_Srv_hearHello_36 fl_Srv_33 rfl (by assumption) ?_
    refine j_if_eq (tgt := 47) h d_Srv_hearHello_39 (by decide) (fun c2 => ?_) (fun c2 => ?_)
    · exact j_vret hX d_Srv_hearHello_47 rfl (Nat.le_refl _) (Nat.le_refl _) ⟨rfl, rfl, rfl, _, by first | rfl | (rw [hA]), by first | (rw [hhN, if_pos (by rw [← hA]; assumption)]; exact hnc) | (rw [hhN, if_neg (by rw [← hA]; assumption), ← hA]; exact hn2)⟩
    · refine j_aload_n h d_Srv_hearHello_42 rfl ?_
      refine j_aload_n h d_Srv_hearHello_43 rfl ?_
      refine j_callV h (c_Srv_sendAll _ _ _ _ _ _ _ _ _ cs _ hs _ _ _ _ _ hnc (fun i => by first | exact hz i | (rw [hA, hhA_14]; exact hz i))) d_Srv_hearHello_44 ml_Srv_157 mv_Srv_sendAll (by assumption) ⟨rfl, rfl⟩ rfl rfl (Nat.le_of_ble_eq_true rfl) (hR_of hX (by decide) (by decide)) (hf_of hX (by decide) (by decide)) ?_
      rintro _ _ _ _ ⟨rfl, rfl, rfl, B2, rfl, hn2⟩
      exact j_vret hX d_Srv_hearHello_47 rfl (Nat.le_refl _) (Nat.le_refl _) ⟨rfl, rfl, rfl, _, by first | rfl | (rw [hA]), by first | (rw [hhN, if_pos (by rw [← hA]; assumption)]; exact hnc) | (rw [hhN, if_neg (by rw [← hA]; assumption), ← hA]; exact hn2)⟩
  · refine j_aload_n h d_Srv_hearHello_11 rfl ?_
    refine j_aload_n h d_Srv_hearHello_12 rfl ?_
    refine j_get1e (v := x 5) h d_Srv_hearHello_13 fl_Srv_125 rfl (by assumption) (by first | exact hcm.1 5 (by decide) | (simp [up_rd, mB_rd, hne, adB_k]; exact hcm.1 5 (by decide))) ?_
    refine j_put0 h d_Srv_hearHello_16 fw_Srv_42 rfl rfl (by assumption) ?_
    refine j_aload_n h d_Srv_hearHello_19 rfl ?_
    refine j_get0 h d_Srv_hearHello_20 fl_Srv_33 rfl (by assumption) ?_
    refine j_iconst (v := 3) h d_Srv_hearHello_23 (by decide) ?_
    refine j_ic_ne (tgt := 31) h d_Srv_hearHello_24 (by decide) (fun c3 => ?_) (fun c3 => ?_)
    · refine j_aload_n h d_Srv_hearHello_31 rfl ?_
      refine j_callV h (c_Srv_write _ _ _ _ _ _ _ _ _ hsv) d_Srv_hearHello_32 ml_Srv_65 mv_Srv_write (by assumption) ⟨rfl, rfl⟩ rfl rfl (Nat.le_of_ble_eq_true rfl) (hR_of hX (by decide) (by decide)) (hf_of hX (by decide) (by decide)) ?_
      rintro _ _ _ _ ⟨rfl, rfl, rfl, rfl⟩
      obtain ⟨Y, hA⟩ : ∃ Y, Y = hhA A s n (x 5) := ⟨_, rfl⟩
      refine j_eq (I' := bk4 Y B C D) (by rw [hA]; clear hX h hl; first | (simp_all [hhA, up_rd]; done) | grind [hhA, up_rd]) rfl rfl rfl ?_
      refine j_aload_n h d_Srv_hearHello_35 rfl ?_
      refine j_get0 h d_Srv_hearHello_36 fl_Srv_33 rfl (by assumption) ?_
      refine j_if_eq (tgt := 47) h d_Srv_hearHello_39 (by decide) (fun c4 => ?_) (fun c4 => ?_)
      · exact j_vret hX d_Srv_hearHello_47 rfl (Nat.le_refl _) (Nat.le_refl _) ⟨rfl, rfl, rfl, _, by first | rfl | (rw [hA]), by first | (rw [hhN, if_pos (by rw [← hA]; assumption)]; exact hnc) | (rw [hhN, if_neg (by rw [← hA]; assumption), ← hA]; exact hn2)⟩
      · refine j_aload_n h d_Srv_hearHello_42 rfl ?_
        refine j_aload_n h d_Srv_hearHello_43 rfl ?_
        refine j_callV h (c_Srv_sendAll _ _ _ _ _ _ _ _ _ cs _ hs _ _ _ _ _ hnc (fun i => by first | exact hz i | (rw [hA, hhA_14]; exact hz i))) d_Srv_hearHello_44 ml_Srv_157 mv_Srv_sendAll (by assumption) ⟨rfl, rfl⟩ rfl rfl (Nat.le_of_ble_eq_true rfl) (hR_of hX (by decide) (by decide)) (hf_of hX (by decide) (by decide)) ?_
        rintro _ _ _ _ ⟨rfl, rfl, rfl, B2, rfl, hn2⟩
        exact j_vret hX d_Srv_hearHello_47 rfl (Nat.le_refl _) (Nat.le_refl _) ⟨rfl, rfl, rfl, _, by first | rfl | (rw [hA]), by first | (rw [hhN, if_pos (by rw [← hA]; assumption)]; exact hnc) | (rw [hhN, if_neg (by rw [← hA]; assumption), ← hA]; exact hn2)⟩
    · refine j_aload_n h d_Srv_hearHello_27 rfl ?_
      refine j_callV h (c_Srv_rejoin _ _ _ _ _ _ _ _ _ cs _ hs) d_Srv_hearHello_28 ml_Srv_154 mv_Srv_rejoin (by assumption) ⟨rfl, rfl⟩ rfl rfl (Nat.le_of_ble_eq_true rfl) (hR_of hX (by decide) (by decide)) (hf_of hX (by decide) (by decide)) ?_
      rintro _ _ _ _ ⟨rfl, rfl, rfl, rfl⟩
      refine j_aload_n h d_Srv_hearHello_31 rfl ?_
      refine j_callV h (c_Srv_write _ _ _ _ _ _ _ _ _ hsv) d_Srv_hearHello_32 ml_Srv_65 mv_Srv_write (by assumption) ⟨rfl, rfl⟩ rfl rfl (Nat.le_of_ble_eq_true rfl) (hR_of hX (by decide) (by decide)) (hf_of hX (by decide) (by decide)) ?_
      rintro _ _ _ _ ⟨rfl, rfl, rfl, rfl⟩
      obtain ⟨Y, hA⟩ : ∃ Y, Y = hhA A s n (x 5) := ⟨_, rfl⟩
      refine j_eq (I' := bk4 Y B C D) (by rw [hA]; clear hX h hl; first | (simp_all [hhA, up_rd]; done) | grind [hhA, up_rd]) rfl rfl rfl ?_
      refine j_aload_n h d_Srv_hearHello_35 rfl ?_
      refine j_get0 h d_Srv_hearHello_36 fl_Srv_33 rfl (by assumption) ?_
      refine j_if_eq (tgt := 47) h d_Srv_hearHello_39 (by decide) (fun c5 => ?_) (fun c5 => ?_)
      · exact j_vret hX d_Srv_hearHello_47 rfl (Nat.le_refl _) (Nat.le_refl _) ⟨rfl, rfl, rfl, _, by first | rfl | (rw [hA]), by first | (rw [hhN, if_pos (by rw [← hA]; assumption)]; exact hnc) | (rw [hhN, if_neg (by rw [← hA]; assumption), ← hA]; exact hn2)⟩
      · refine j_aload_n h d_Srv_hearHello_42 rfl ?_
        refine j_aload_n h d_Srv_hearHello_43 rfl ?_
        refine j_callV h (c_Srv_sendAll _ _ _ _ _ _ _ _ _ cs _ hs _ _ _ _ _ hnc (fun i => by first | exact hz i | (rw [hA, hhA_14]; exact hz i))) d_Srv_hearHello_44 ml_Srv_157 mv_Srv_sendAll (by assumption) ⟨rfl, rfl⟩ rfl rfl (Nat.le_of_ble_eq_true rfl) (hR_of hX (by decide) (by decide)) (hf_of hX (by decide) (by decide)) ?_
        rintro _ _ _ _ ⟨rfl, rfl, rfl, B2, rfl, hn2⟩
        exact j_vret hX d_Srv_hearHello_47 rfl (Nat.le_refl _) (Nat.le_refl _) ⟨rfl, rfl, rfl, _, by first | rfl | (rw [hA]), by first | (rw [hhN, if_pos (by rw [← hA]; assumption)]; exact hnc) | (rw [hhN, if_neg (by rw [← hA]; assumption), ← hA]; exact hn2)⟩
theorem d_Srv_leaseNew_0 : decode b_Srv_leaseNew 0 = .ok (.aload_n 0, 1) := by decide +kernel
theorem d_Srv_leaseNew_1 : decode b_Srv_leaseNew 1 = .ok (.invokevirtual 110, 3) := by decide +kernel
theorem d_Srv_leaseNew_4 : decode b_Srv_leaseNew 4 = .ok (.istore_n 3, 1) := by decide +kernel
theorem d_Srv_leaseNew_5 : decode b_Srv_leaseNew 5 = .ok (.iload_n 3, 1) := by decide +kernel
theorem d_Srv_leaseNew_6 : decode b_Srv_leaseNew 6 = .ok (.iconst (-1), 1) := by decide +kernel
theorem d_Srv_leaseNew_7 : decode b_Srv_leaseNew 7 = .ok (.if_icmp .ne 5, 3) := by decide +kernel
theorem d_Srv_leaseNew_10 : decode b_Srv_leaseNew 10 = .ok (.iconst (-1), 1) := by decide +kernel
theorem d_Srv_leaseNew_11 : decode b_Srv_leaseNew 11 = .ok (.ireturn, 1) := by decide +kernel
theorem d_Srv_leaseNew_12 : decode b_Srv_leaseNew 12 = .ok (.aload_n 0, 1) := by decide +kernel
theorem d_Srv_leaseNew_13 : decode b_Srv_leaseNew 13 = .ok (.getfield 26, 3) := by decide +kernel
theorem d_Srv_leaseNew_16 : decode b_Srv_leaseNew 16 = .ok (.iload_n 3, 1) := by decide +kernel
theorem d_Srv_leaseNew_17 : decode b_Srv_leaseNew 17 = .ok (.aaload, 1) := by decide +kernel
theorem d_Srv_leaseNew_18 : decode b_Srv_leaseNew 18 = .ok (.astore 4, 2) := by decide +kernel
theorem d_Srv_leaseNew_20 : decode b_Srv_leaseNew 20 = .ok (.iload_n 2, 1) := by decide +kernel
theorem d_Srv_leaseNew_21 : decode b_Srv_leaseNew 21 = .ok (.aload_n 1, 1) := by decide +kernel
theorem d_Srv_leaseNew_22 : decode b_Srv_leaseNew 22 = .ok (.getfield 114, 3) := by decide +kernel
theorem d_Srv_leaseNew_25 : decode b_Srv_leaseNew 25 = .ok (.iadd, 1) := by decide +kernel
theorem d_Srv_leaseNew_26 : decode b_Srv_leaseNew 26 = .ok (.istore 5, 2) := by decide +kernel
theorem d_Srv_leaseNew_28 : decode b_Srv_leaseNew 28 = .ok (.aload_n 0, 1) := by decide +kernel
theorem d_Srv_leaseNew_29 : decode b_Srv_leaseNew 29 = .ok (.getfield 33, 3) := by decide +kernel
theorem d_Srv_leaseNew_32 : decode b_Srv_leaseNew 32 = .ok (.iconst 2, 1) := by decide +kernel
theorem d_Srv_leaseNew_33 : decode b_Srv_leaseNew 33 = .ok (.if_icmp .ne 19, 3) := by decide +kernel
theorem d_Srv_leaseNew_36 : decode b_Srv_leaseNew 36 = .ok (.iload 5, 2) := by decide +kernel
theorem d_Srv_leaseNew_38 : decode b_Srv_leaseNew 38 = .ok (.iload_n 2, 1) := by decide +kernel
theorem d_Srv_leaseNew_39 : decode b_Srv_leaseNew 39 = .ok (.aload_n 0, 1) := by decide +kernel
theorem d_Srv_leaseNew_40 : decode b_Srv_leaseNew 40 = .ok (.getfield 18, 3) := by decide +kernel
theorem d_Srv_leaseNew_43 : decode b_Srv_leaseNew 43 = .ok (.iadd, 1) := by decide +kernel
theorem d_Srv_leaseNew_44 : decode b_Srv_leaseNew 44 = .ok (.invokestatic 117, 3) := by decide +kernel
theorem d_Srv_leaseNew_47 : decode b_Srv_leaseNew 47 = .ok (.istore 5, 2) := by decide +kernel
theorem d_Srv_leaseNew_49 : decode b_Srv_leaseNew 49 = .ok (.goto 9, 3) := by decide +kernel
theorem d_Srv_leaseNew_52 : decode b_Srv_leaseNew 52 = .ok (.aload 4, 2) := by decide +kernel
theorem d_Srv_leaseNew_54 : decode b_Srv_leaseNew 54 = .ok (.iconst 1, 1) := by decide +kernel
theorem d_Srv_leaseNew_55 : decode b_Srv_leaseNew 55 = .ok (.putfield 62, 3) := by decide +kernel
theorem d_Srv_leaseNew_58 : decode b_Srv_leaseNew 58 = .ok (.aload 4, 2) := by decide +kernel
theorem d_Srv_leaseNew_60 : decode b_Srv_leaseNew 60 = .ok (.invokevirtual 122, 3) := by decide +kernel
theorem d_Srv_leaseNew_63 : decode b_Srv_leaseNew 63 = .ok (.aload 4, 2) := by decide +kernel
theorem d_Srv_leaseNew_65 : decode b_Srv_leaseNew 65 = .ok (.aload_n 1, 1) := by decide +kernel
theorem d_Srv_leaseNew_66 : decode b_Srv_leaseNew 66 = .ok (.getfield 84, 3) := by decide +kernel
theorem d_Srv_leaseNew_69 : decode b_Srv_leaseNew 69 = .ok (.iload 5, 2) := by decide +kernel
theorem d_Srv_leaseNew_71 : decode b_Srv_leaseNew 71 = .ok (.aload_n 1, 1) := by decide +kernel
theorem d_Srv_leaseNew_72 : decode b_Srv_leaseNew 72 = .ok (.getfield 125, 3) := by decide +kernel
theorem d_Srv_leaseNew_75 : decode b_Srv_leaseNew 75 = .ok (.aload 4, 2) := by decide +kernel
theorem d_Srv_leaseNew_77 : decode b_Srv_leaseNew 77 = .ok (.getfield 126, 3) := by decide +kernel
theorem d_Srv_leaseNew_80 : decode b_Srv_leaseNew 80 = .ok (.invokevirtual 129, 3) := by decide +kernel
theorem d_Srv_leaseNew_83 : decode b_Srv_leaseNew 83 = .ok (.iload_n 3, 1) := by decide +kernel
theorem d_Srv_leaseNew_84 : decode b_Srv_leaseNew 84 = .ok (.ireturn, 1) := by decide +kernel
set_option maxRecDepth 100000 in
set_option maxHeartbeats 4000000 in
theorem c_Srv_leaseNew (l : Launch) (K : Kx) (V : Vx) (A B C D : MI) (P : MP) (n : Nat) (cs : CS K V P n) (s : Nat) (hs : s < 2) (ld sk : Int32) (kb : KB B ld sk) (q : Nat) (hq : V.1 5 q) (x : Msg) (hcm : CM B q x) (t : Int32) : Ct l K md_Srv_leaseNew (1, 24) 0 0 [.ref (K.ad 1 s), .ref (K.ad 5 q), .int t] V (bk4 A B C D) P (EQ V (some (.int (lstOwn A s n 0))) (bk4 (lnwA A s n ld t (x 2) (x 6) (x 5)) B C D) P) := by
  refine ct_of [(0, .ref (K.ad 1 s)), (1, .ref (K.ad 5 q)), (2, .int t)] (by decide) (Nat.le_of_ble_eq_true rfl) (ca_r (ca_r (ca_i ca_n))) rfl ?_
  intro X hl hX
  have h : OkX X b_Srv_leaseNew R_Srv K := hX.1
  have hN : X.nL = 6 := hX.2.1
  have hsv := cs_sv cs hs
  refine j_aload_n h d_Srv_leaseNew_0 rfl ?_
  refine j_callV h (c_Srv_leastOwn _ _ _ _ _ _ _ _ _ cs _ hs) d_Srv_leaseNew_1 ml_Srv_110 mv_Srv_leastOwn (by assumption) ⟨rfl, rfl⟩ rfl rfl (Nat.le_of_ble_eq_true rfl) (hR_of hX (by decide) (by decide)) (hf_of hX (by decide) (by decide)) ?_
  rintro _ _ _ _ ⟨rfl, rfl, rfl, rfl⟩
  rcases lstOwn_c A s n 0 with e | ⟨a, ha, e, hk⟩
  · rw [show lnwA A s n ld t (x 2) (x 6) (x 5) = A by unfold lnwA; rw [if_pos e]] at hX
    rw [e] at hX ⊢
    refine j_istore_n h d_Srv_leaseNew_4 (Nat.lt_of_lt_of_eq (m := 6) (by decide) hN.symm) ?_
    refine j_iload_n h d_Srv_leaseNew_5 rfl ?_
    refine j_iconst (v := -1) h d_Srv_leaseNew_6 (by decide) ?_
    refine j_ic_ne (tgt := 12) h d_Srv_leaseNew_7 (by decide) (fun z => absurd rfl z) (fun _ => ?_)
    refine j_iconst (v := -1) h d_Srv_leaseNew_10 (by decide) ?_
    exact j_iret hX d_Srv_leaseNew_11 rfl (Nat.le_refl _) (Nat.le_refl _) ⟨rfl, rfl, rfl, rfl⟩
  · have ha : a < n := by omega
    have hr := cs_rv cs hs ha
    have hn31 := cs_n31 cs
    rw [show lnwA A s n ld t (x 2) (x 6) (x 5) = lsNew A (32 * s + a) s ld t (x 2) (x 6) (x 5) by unfold lnwA; rw [e, if_neg (nI_m1 (by omega)), nI_clamp (by omega)]] at hX
    rw [e] at hX ⊢
    refine j_istore_n h d_Srv_leaseNew_4 (Nat.lt_of_lt_of_eq (m := 6) (by decide) hN.symm) ?_
    refine j_iload_n h d_Srv_leaseNew_5 rfl ?_
    refine j_iconst (v := -1) h d_Srv_leaseNew_6 (by decide) ?_
    refine j_ic_ne (tgt := 12) h d_Srv_leaseNew_7 (by decide) (fun _ => ?_) (fun z => absurd z (nI_m1 (by omega)))
    refine j_aload_n h d_Srv_leaseNew_12 rfl ?_
    refine j_getR h d_Srv_leaseNew_13 fl_Srv_26 rfl (by assumption) (cs_rp cs hs) ?_
    refine j_iload_n h d_Srv_leaseNew_16 rfl ?_
    refine j_recs h cs hs ha d_Srv_leaseNew_17 ?_
    refine j_astore h d_Srv_leaseNew_18 (Nat.lt_of_lt_of_eq (m := 6) (by decide) hN.symm) ?_
    refine j_iload_n h d_Srv_leaseNew_20 rfl ?_
    refine j_aload_n h d_Srv_leaseNew_21 rfl ?_
    refine j_get1e (v := x 6) h d_Srv_leaseNew_22 fl_Srv_114 rfl (by assumption) (by first | exact hcm.1 6 (by decide) | (simp [up_rd, mB_rd, hne, adB_k]; exact hcm.1 6 (by decide))) ?_
    refine j_iadd h d_Srv_leaseNew_25 ?_
    refine j_istore h d_Srv_leaseNew_26 (Nat.lt_of_lt_of_eq (m := 6) (by decide) hN.symm) ?_
    refine j_aload_n h d_Srv_leaseNew_28 rfl ?_
    refine j_get0 h d_Srv_leaseNew_29 fl_Srv_33 rfl (by assumption) ?_
    refine j_iconst (v := 2) h d_Srv_leaseNew_32 (by decide) ?_
    refine j_ic_ne (tgt := 52) h d_Srv_leaseNew_33 (by decide) (fun c1 => ?_) (fun c1 => ?_)
    · refine j_aload h d_Srv_leaseNew_52 rfl ?_
      refine j_iconst (v := 1) h d_Srv_leaseNew_54 (by decide) ?_
      refine j_putZ0 h d_Srv_leaseNew_55 fw_Srv_62 rfl rfl (by assumption) (by first | exact Or.inl rfl | exact Or.inr rfl | assumption) ?_
      refine j_aload h d_Srv_leaseNew_58 rfl ?_
      refine j_callV h (c_Rec_change _ _ _ _ _ _ _ _ _ hr) d_Srv_leaseNew_60 ml_Srv_122 mv_Rec_change (by assumption) ⟨rfl, rfl⟩ rfl rfl (Nat.le_of_ble_eq_true rfl) (hR_of hX (by decide) (by decide)) (hf_of hX (by decide) (by decide)) ?_
      rintro _ _ _ _ ⟨rfl, rfl, rfl, rfl⟩
      refine j_aload h d_Srv_leaseNew_63 rfl ?_
      refine j_aload_n h d_Srv_leaseNew_65 rfl ?_
      refine j_get1e (v := x 2) h d_Srv_leaseNew_66 fl_Srv_84 rfl (by assumption) (by first | exact hcm.1 2 (by decide) | (simp [up_rd, mB_rd, hne, adB_k]; exact hcm.1 2 (by decide))) ?_
      refine j_iload h d_Srv_leaseNew_69 rfl ?_
      refine j_aload_n h d_Srv_leaseNew_71 rfl ?_
      refine j_get1e (v := x 5) h d_Srv_leaseNew_72 fl_Srv_125 rfl (by assumption) (by first | exact hcm.1 5 (by decide) | (simp [up_rd, mB_rd, hne, adB_k]; exact hcm.1 5 (by decide))) ?_
      refine j_aload h d_Srv_leaseNew_75 rfl ?_
      refine j_get0 h d_Srv_leaseNew_77 fl_Srv_126 rfl (by assumption) ?_
      refine j_callV h (c_Rec_bind _ _ _ _ _ _ _ _ _ hr _ _ _ _) d_Srv_leaseNew_80 ml_Srv_129 mv_Rec_bind (by assumption) ⟨rfl, rfl⟩ rfl rfl (Nat.le_of_ble_eq_true rfl) (hR_of hX (by decide) (by decide)) (hf_of hX (by decide) (by decide)) ?_
      rintro _ _ _ _ ⟨rfl, rfl, rfl, rfl⟩
      refine j_iload_n h d_Srv_leaseNew_83 rfl ?_
      exact j_iret hX d_Srv_leaseNew_84 rfl (Nat.le_refl _) (Nat.le_refl _) ⟨rfl, rfl, by clear hX h hl; first | rfl | (simp_all [lsNew, up_rd, chg_rd]; done) | grind [lsNew, up_rd, chg_rd, bnd_rd], rfl⟩
    · refine j_iload h d_Srv_leaseNew_36 rfl ?_
      refine j_iload_n h d_Srv_leaseNew_38 rfl ?_
      refine j_aload_n h d_Srv_leaseNew_39 rfl ?_
      refine j_get1e h d_Srv_leaseNew_40 fl_Srv_18 rfl (by assumption) (kb s hs).2.2.1 ?_
      refine j_iadd h d_Srv_leaseNew_43 ?_
      refine j_mmin h d_Srv_leaseNew_44 wm_Srv_117 (hM_of hX (by decide) (Nat.le_of_ble_eq_true rfl)) (hf_of (mc' := 0) (ms' := 0) hX (by decide) (by decide)) ?_
      refine j_istore h d_Srv_leaseNew_47 (Nat.lt_of_lt_of_eq (m := 6) (by decide) hN.symm) ?_
      refine j_goto (tgt := 58) h d_Srv_leaseNew_49 (by decide) ?_
      refine j_aload h d_Srv_leaseNew_58 rfl ?_
      refine j_callV h (c_Rec_change _ _ _ _ _ _ _ _ _ hr) d_Srv_leaseNew_60 ml_Srv_122 mv_Rec_change (by assumption) ⟨rfl, rfl⟩ rfl rfl (Nat.le_of_ble_eq_true rfl) (hR_of hX (by decide) (by decide)) (hf_of hX (by decide) (by decide)) ?_
      rintro _ _ _ _ ⟨rfl, rfl, rfl, rfl⟩
      refine j_aload h d_Srv_leaseNew_63 rfl ?_
      refine j_aload_n h d_Srv_leaseNew_65 rfl ?_
      refine j_get1e (v := x 2) h d_Srv_leaseNew_66 fl_Srv_84 rfl (by assumption) (by first | exact hcm.1 2 (by decide) | (simp [up_rd, mB_rd, hne, adB_k]; exact hcm.1 2 (by decide))) ?_
      refine j_iload h d_Srv_leaseNew_69 rfl ?_
      refine j_aload_n h d_Srv_leaseNew_71 rfl ?_
      refine j_get1e (v := x 5) h d_Srv_leaseNew_72 fl_Srv_125 rfl (by assumption) (by first | exact hcm.1 5 (by decide) | (simp [up_rd, mB_rd, hne, adB_k]; exact hcm.1 5 (by decide))) ?_
      refine j_aload h d_Srv_leaseNew_75 rfl ?_
      refine j_get0 h d_Srv_leaseNew_77 fl_Srv_126 rfl (by assumption) ?_
      refine j_callV h (c_Rec_bind _ _ _ _ _ _ _ _ _ hr _ _ _ _) d_Srv_leaseNew_80 ml_Srv_129 mv_Rec_bind (by assumption) ⟨rfl, rfl⟩ rfl rfl (Nat.le_of_ble_eq_true rfl) (hR_of hX (by decide) (by decide)) (hf_of hX (by decide) (by decide)) ?_
      rintro _ _ _ _ ⟨rfl, rfl, rfl, rfl⟩
      refine j_iload_n h d_Srv_leaseNew_83 rfl ?_
      exact j_iret hX d_Srv_leaseNew_84 rfl (Nat.le_refl _) (Nat.le_refl _) ⟨rfl, rfl, by clear hX h hl; first | rfl | (simp_all [lsNew, up_rd, chg_rd]; done) | grind [lsNew, up_rd, chg_rd, bnd_rd], rfl⟩
theorem d_Srv_tell_0 : decode b_Srv_tell 0 = .ok (.iload_n 1, 1) := by decide +kernel
theorem d_Srv_tell_1 : decode b_Srv_tell 1 = .ok (.tableswitch 84 0 7 #[47, 52, 54, 59, 64, 69, 74, 79], 47) := by decide +kernel
theorem d_Srv_tell_48 : decode b_Srv_tell 48 = .ok (.aload_n 0, 1) := by decide +kernel
theorem d_Srv_tell_49 : decode b_Srv_tell 49 = .ok (.getfield 33, 3) := by decide +kernel
theorem d_Srv_tell_52 : decode b_Srv_tell 52 = .ok (.ireturn, 1) := by decide +kernel
theorem d_Srv_tell_53 : decode b_Srv_tell 53 = .ok (.iload_n 2, 1) := by decide +kernel
theorem d_Srv_tell_54 : decode b_Srv_tell 54 = .ok (.ireturn, 1) := by decide +kernel
theorem d_Srv_tell_55 : decode b_Srv_tell 55 = .ok (.aload_n 0, 1) := by decide +kernel
theorem d_Srv_tell_56 : decode b_Srv_tell 56 = .ok (.getfield 36, 3) := by decide +kernel
theorem d_Srv_tell_59 : decode b_Srv_tell 59 = .ok (.ireturn, 1) := by decide +kernel
theorem d_Srv_tell_60 : decode b_Srv_tell 60 = .ok (.aload_n 0, 1) := by decide +kernel
theorem d_Srv_tell_61 : decode b_Srv_tell 61 = .ok (.getfield 42, 3) := by decide +kernel
theorem d_Srv_tell_64 : decode b_Srv_tell 64 = .ok (.ireturn, 1) := by decide +kernel
theorem d_Srv_tell_65 : decode b_Srv_tell 65 = .ok (.aload_n 0, 1) := by decide +kernel
theorem d_Srv_tell_66 : decode b_Srv_tell 66 = .ok (.getfield 39, 3) := by decide +kernel
theorem d_Srv_tell_69 : decode b_Srv_tell 69 = .ok (.ireturn, 1) := by decide +kernel
theorem d_Srv_tell_70 : decode b_Srv_tell 70 = .ok (.aload_n 0, 1) := by decide +kernel
theorem d_Srv_tell_71 : decode b_Srv_tell 71 = .ok (.getfield 68, 3) := by decide +kernel
theorem d_Srv_tell_74 : decode b_Srv_tell 74 = .ok (.ireturn, 1) := by decide +kernel
theorem d_Srv_tell_75 : decode b_Srv_tell 75 = .ok (.aload_n 0, 1) := by decide +kernel
theorem d_Srv_tell_76 : decode b_Srv_tell 76 = .ok (.invokevirtual 241, 3) := by decide +kernel
theorem d_Srv_tell_79 : decode b_Srv_tell 79 = .ok (.ireturn, 1) := by decide +kernel
theorem d_Srv_tell_80 : decode b_Srv_tell 80 = .ok (.aload_n 0, 1) := by decide +kernel
theorem d_Srv_tell_81 : decode b_Srv_tell 81 = .ok (.invokevirtual 244, 3) := by decide +kernel
theorem d_Srv_tell_84 : decode b_Srv_tell 84 = .ok (.ireturn, 1) := by decide +kernel
theorem d_Srv_tell_85 : decode b_Srv_tell 85 = .ok (.aload_n 0, 1) := by decide +kernel
theorem d_Srv_tell_86 : decode b_Srv_tell 86 = .ok (.getfield 52, 3) := by decide +kernel
theorem d_Srv_tell_89 : decode b_Srv_tell 89 = .ok (.ireturn, 1) := by decide +kernel
set_option maxRecDepth 100000 in
set_option maxHeartbeats 4000000 in
theorem c_Srv_tell (l : Launch) (K : Kx) (V : Vx) (A B C D : MI) (P : MP) (n : Nat) (cs : CS K V P n) (s : Nat) (hs : s < 2) (t : Int32) (w : Nat) (hw : w < 9) : Ct l K md_Srv_tell (1, 22) 0 0 [.ref (K.ad 1 s), .int (nI w), .int t] V (bk4 A B C D) P (EQ V (some (.int (stell A s n t w))) (bk4 A B C D) P) := by
  refine ct_of [(0, .ref (K.ad 1 s)), (1, .int (nI w)), (2, .int t)] (by decide) (Nat.le_of_ble_eq_true rfl) (ca_r (ca_i (ca_i ca_n))) rfl ?_
  intro X hl hX
  have h : OkX X b_Srv_tell R_Srv K := hX.1
  have hN : X.nL = 3 := hX.2.1
  have hsv := cs_sv cs hs
  match w, hw with
  | 0, _ =>
    refine j_iload_n h d_Srv_tell_0 rfl ?_
    refine j_tabIn (off := 47) (tgt := 48) h d_Srv_tell_1 (by decide +kernel) (by decide +kernel) (by decide +kernel) (by decide) ?_
    refine j_aload_n h d_Srv_tell_48 rfl ?_
    refine j_get0 h d_Srv_tell_49 fl_Srv_33 rfl (by assumption) ?_
    exact j_iret hX d_Srv_tell_52 rfl (Nat.le_refl _) (Nat.le_refl _) ⟨rfl, rfl, rfl, rfl⟩
  | 1, _ =>
    refine j_iload_n h d_Srv_tell_0 rfl ?_
    refine j_tabIn (off := 52) (tgt := 53) h d_Srv_tell_1 (by decide +kernel) (by decide +kernel) (by decide +kernel) (by decide) ?_
    refine j_iload_n h d_Srv_tell_53 rfl ?_
    exact j_iret hX d_Srv_tell_54 rfl (Nat.le_refl _) (Nat.le_refl _) ⟨rfl, rfl, rfl, rfl⟩
  | 2, _ =>
    refine j_iload_n h d_Srv_tell_0 rfl ?_
    refine j_tabIn (off := 54) (tgt := 55) h d_Srv_tell_1 (by decide +kernel) (by decide +kernel) (by decide +kernel) (by decide) ?_
    refine j_aload_n h d_Srv_tell_55 rfl ?_
    refine j_get0 h d_Srv_tell_56 fl_Srv_36 rfl (by assumption) ?_
    exact j_iret hX d_Srv_tell_59 rfl (Nat.le_refl _) (Nat.le_refl _) ⟨rfl, rfl, rfl, rfl⟩
  | 3, _ =>
    refine j_iload_n h d_Srv_tell_0 rfl ?_
    refine j_tabIn (off := 59) (tgt := 60) h d_Srv_tell_1 (by decide +kernel) (by decide +kernel) (by decide +kernel) (by decide) ?_
    refine j_aload_n h d_Srv_tell_60 rfl ?_
    refine j_get0 h d_Srv_tell_61 fl_Srv_42 rfl (by assumption) ?_
    exact j_iret hX d_Srv_tell_64 rfl (Nat.le_refl _) (Nat.le_refl _) ⟨rfl, rfl, rfl, rfl⟩
  | 4, _ =>
    refine j_iload_n h d_Srv_tell_0 rfl ?_
    refine j_tabIn (off := 64) (tgt := 65) h d_Srv_tell_1 (by decide +kernel) (by decide +kernel) (by decide +kernel) (by decide) ?_
    refine j_aload_n h d_Srv_tell_65 rfl ?_
    refine j_get0 h d_Srv_tell_66 fl_Srv_39 rfl (by assumption) ?_
    exact j_iret hX d_Srv_tell_69 rfl (Nat.le_refl _) (Nat.le_refl _) ⟨rfl, rfl, rfl, rfl⟩
  | 5, _ =>
    refine j_iload_n h d_Srv_tell_0 rfl ?_
    refine j_tabIn (off := 69) (tgt := 70) h d_Srv_tell_1 (by decide +kernel) (by decide +kernel) (by decide +kernel) (by decide) ?_
    refine j_aload_n h d_Srv_tell_70 rfl ?_
    refine j_get0 h d_Srv_tell_71 fl_Srv_68 rfl (by assumption) ?_
    exact j_iret hX d_Srv_tell_74 rfl (Nat.le_refl _) (Nat.le_refl _) ⟨rfl, rfl, rfl, rfl⟩
  | 6, _ =>
    refine j_iload_n h d_Srv_tell_0 rfl ?_
    refine j_tabIn (off := 74) (tgt := 75) h d_Srv_tell_1 (by decide +kernel) (by decide +kernel) (by decide +kernel) (by decide) ?_
    refine j_aload_n h d_Srv_tell_75 rfl ?_
    refine j_callV h (c_Srv_countOwn _ _ _ _ _ _ _ _ _ cs _ hs) d_Srv_tell_76 ml_Srv_241 mv_Srv_countOwn (by assumption) ⟨rfl, rfl⟩ rfl rfl (Nat.le_of_ble_eq_true rfl) (hR_of hX (by decide) (by decide)) (hf_of hX (by decide) (by decide)) ?_
    rintro _ _ _ _ ⟨rfl, rfl, rfl, rfl⟩
    exact j_iret hX d_Srv_tell_79 rfl (Nat.le_refl _) (Nat.le_refl _) ⟨rfl, rfl, rfl, rfl⟩
  | 7, _ =>
    refine j_iload_n h d_Srv_tell_0 rfl ?_
    refine j_tabIn (off := 79) (tgt := 80) h d_Srv_tell_1 (by decide +kernel) (by decide +kernel) (by decide +kernel) (by decide) ?_
    refine j_aload_n h d_Srv_tell_80 rfl ?_
    refine j_callV h (c_Srv_countPending _ _ _ _ _ _ _ _ _ cs _ hs) d_Srv_tell_81 ml_Srv_244 mv_Srv_countPending (by assumption) ⟨rfl, rfl⟩ rfl rfl (Nat.le_of_ble_eq_true rfl) (hR_of hX (by decide) (by decide)) (hf_of hX (by decide) (by decide)) ?_
    rintro _ _ _ _ ⟨rfl, rfl, rfl, rfl⟩
    exact j_iret hX d_Srv_tell_84 rfl (Nat.le_refl _) (Nat.le_refl _) ⟨rfl, rfl, rfl, rfl⟩
  | 8, _ =>
    refine j_iload_n h d_Srv_tell_0 rfl ?_
    refine j_tabOut (tgt := 85) h d_Srv_tell_1 (by decide +kernel) (by decide) ?_
    refine j_aload_n h d_Srv_tell_85 rfl ?_
    refine j_get0 h d_Srv_tell_86 fl_Srv_52 rfl (by assumption) ?_
    exact j_iret hX d_Srv_tell_89 rfl (Nat.le_refl _) (Nat.le_refl _) ⟨rfl, rfl, rfl, rfl⟩
  | k + 9, hk => exact absurd hk (by omega)
end
section
/-! hearing an UPDATE, a request -/
noncomputable def uTk (A : MI) (r s : Nat) (t : Int32) (x : Msg) : Int32 × MI := if A 19 r < x 5 then tkIn A r s (nI s) t (x 3) (x 9) (x 6) (x 10) (x 11) (x 13) (x 12) else (0, A)
noncomputable def uA2 (A : MI) (r s : Nat) (t : Int32) (x : Msg) : MI := if (uTk A r s t x).1 = 0 then (uTk A r s t x).2 else up (uTk A r s t x).2 19 r (x 5)
def uA3 (A : MI) (s n : Nat) : MI := if A 0 s = 1 ∧ ¬ allF A s n 0 = 0 then up (up A 0 s 2) 3 s (A 2 s) else A
def uA4 (A : MI) (s n : Nat) (v6 : Int32) : MI := if ¬ v6 = 0 ∨ (A 0 s = 1 ∧ ¬ allF A s n 0 = 0) then wr (uA3 A s n) s else uA3 A s n
def uN (A : MI) (s a : Nat) (v5 v6 : Int32) (x : Msg) (N : List Msg) : List Msg := if (¬ v6 = 0 ∨ ¬ v5 = 0) ∧ ¬ A 0 s = 0 then netput (m_ack A s a (x 5) (if x 3 = 2 then x 6 else 0)) N else N
def uA1 (A : MI) (r s : Nat) (x : Msg) : MI := if x 8 = A 2 s then up A 22 r 1 else A
noncomputable def hupA (A : MI) (r s n : Nat) (t : Int32) (x : Msg) : MI := if A 20 r < x 7 then uA4 (uA2 (uA1 A r s x) r s t x) s n (uTk (uA1 A r s x) r s t x).1 else A
noncomputable def hupN (A : MI) (s a n : Nat) (t : Int32) (x : Msg) (N : List Msg) : List Msg := if A 20 (32 * s + a) < x 7 then uN (hupA A (32 * s + a) s n t x) s a (b01 (x 5 = uA1 A (32 * s + a) s x 19 (32 * s + a))) (uTk (uA1 A (32 * s + a) s x) (32 * s + a) s t x).1 x N else N
theorem tkI_z (A : MI) (r s : Nat) (num t k c e rq rel vd sn : Int32) : (tkIn A r s num t k c e rq rel vd sn).1 = 0 ∨ (tkIn A r s num t k c e rq rel vd sn).1 = 1 := by
  unfold tkIn
  split
  · exact tkB_z _ _ _ _ _
  · split
    · exact tkE_z _ _ _ _ _ _ _ _
    · split
      · exact tkG_z _ _
      · split
        · exact b01_z _
        · exact Or.inr rfl
theorem c_Srv_takeIn_x (l : Launch) (K : Kx) (V : Vx) (A B C D : MI) (P : MP) (s : Nat) (hs : V.1 1 s) (q : Nat) (hq : V.1 5 q) (r : Nat) (hr : V.1 2 r) (t : Int32) (x : Msg) (hcm : CM B q x) (h3 : x 0 = 3) (hn : B 60 s = nI s) : Ct l K md_Srv_takeIn (3, 62) 0 0 [.ref (K.ad 1 s), .ref (K.ad 5 q), .ref (K.ad 2 r), .int t] V (bk4 A B C D) P (EQ V (some (.int (tkIn A r s (nI s) t (x 3) (x 9) (x 6) (x 10) (x 11) (x 13) (x 12)).1)) (bk4 (tkIn A r s (nI s) t (x 3) (x 9) (x 6) (x 10) (x 11) (x 13) (x 12)).2 B C D) P) := by
  have e := c_Srv_takeIn l K V A B C D P s hs q hq r hr t
  rw [hn, show B 83 q = x 3 from hcm.1 3 (by decide), show B 89 q = x 9 from hcm.2.1 h3 9 (by decide), show B 86 q = x 6 from hcm.1 6 (by decide), show B 90 q = x 10 from hcm.2.1 h3 10 (by decide), show B 91 q = x 11 from hcm.2.1 h3 11 (by decide), show B 93 q = x 13 from hcm.2.1 h3 13 (by decide), show B 92 q = x 12 from hcm.2.1 h3 12 (by decide)] at e
  exact e
theorem d_Srv_hearUpdate_0 : decode b_Srv_hearUpdate 0 = .ok (.aload_n 0, 1) := by decide +kernel
theorem d_Srv_hearUpdate_1 : decode b_Srv_hearUpdate 1 = .ok (.getfield 26, 3) := by decide +kernel
theorem d_Srv_hearUpdate_4 : decode b_Srv_hearUpdate 4 = .ok (.aload_n 1, 1) := by decide +kernel
theorem d_Srv_hearUpdate_5 : decode b_Srv_hearUpdate 5 = .ok (.getfield 81, 3) := by decide +kernel
theorem d_Srv_hearUpdate_8 : decode b_Srv_hearUpdate 8 = .ok (.aaload, 1) := by decide +kernel
theorem d_Srv_hearUpdate_9 : decode b_Srv_hearUpdate 9 = .ok (.astore 4, 2) := by decide +kernel
theorem d_Srv_hearUpdate_11 : decode b_Srv_hearUpdate 11 = .ok (.aload_n 1, 1) := by decide +kernel
theorem d_Srv_hearUpdate_12 : decode b_Srv_hearUpdate 12 = .ok (.getfield 161, 3) := by decide +kernel
theorem d_Srv_hearUpdate_15 : decode b_Srv_hearUpdate 15 = .ok (.aload 4, 2) := by decide +kernel
theorem d_Srv_hearUpdate_17 : decode b_Srv_hearUpdate 17 = .ok (.getfield 162, 3) := by decide +kernel
theorem d_Srv_hearUpdate_20 : decode b_Srv_hearUpdate 20 = .ok (.if_icmp .gt 4, 3) := by decide +kernel
theorem d_Srv_hearUpdate_23 : decode b_Srv_hearUpdate 23 = .ok (.return_, 1) := by decide +kernel
theorem d_Srv_hearUpdate_24 : decode b_Srv_hearUpdate 24 = .ok (.aload_n 1, 1) := by decide +kernel
theorem d_Srv_hearUpdate_25 : decode b_Srv_hearUpdate 25 = .ok (.getfield 165, 3) := by decide +kernel
theorem d_Srv_hearUpdate_28 : decode b_Srv_hearUpdate 28 = .ok (.aload_n 0, 1) := by decide +kernel
theorem d_Srv_hearUpdate_29 : decode b_Srv_hearUpdate 29 = .ok (.getfield 36, 3) := by decide +kernel
theorem d_Srv_hearUpdate_32 : decode b_Srv_hearUpdate 32 = .ok (.if_icmp .ne 9, 3) := by decide +kernel
theorem d_Srv_hearUpdate_35 : decode b_Srv_hearUpdate 35 = .ok (.aload 4, 2) := by decide +kernel
theorem d_Srv_hearUpdate_37 : decode b_Srv_hearUpdate 37 = .ok (.iconst 1, 1) := by decide +kernel
theorem d_Srv_hearUpdate_38 : decode b_Srv_hearUpdate 38 = .ok (.putfield 58, 3) := by decide +kernel
theorem d_Srv_hearUpdate_41 : decode b_Srv_hearUpdate 41 = .ok (.aload_n 1, 1) := by decide +kernel
theorem d_Srv_hearUpdate_42 : decode b_Srv_hearUpdate 42 = .ok (.getfield 125, 3) := by decide +kernel
theorem d_Srv_hearUpdate_45 : decode b_Srv_hearUpdate 45 = .ok (.aload 4, 2) := by decide +kernel
theorem d_Srv_hearUpdate_47 : decode b_Srv_hearUpdate 47 = .ok (.getfield 166, 3) := by decide +kernel
theorem d_Srv_hearUpdate_50 : decode b_Srv_hearUpdate 50 = .ok (.if_icmp .ne 7, 3) := by decide +kernel
theorem d_Srv_hearUpdate_53 : decode b_Srv_hearUpdate 53 = .ok (.iconst 1, 1) := by decide +kernel
theorem d_Srv_hearUpdate_54 : decode b_Srv_hearUpdate 54 = .ok (.goto 4, 3) := by decide +kernel
theorem d_Srv_hearUpdate_57 : decode b_Srv_hearUpdate 57 = .ok (.iconst 0, 1) := by decide +kernel
theorem d_Srv_hearUpdate_58 : decode b_Srv_hearUpdate 58 = .ok (.istore 5, 2) := by decide +kernel
theorem d_Srv_hearUpdate_60 : decode b_Srv_hearUpdate 60 = .ok (.aload_n 1, 1) := by decide +kernel
theorem d_Srv_hearUpdate_61 : decode b_Srv_hearUpdate 61 = .ok (.getfield 125, 3) := by decide +kernel
theorem d_Srv_hearUpdate_64 : decode b_Srv_hearUpdate 64 = .ok (.aload 4, 2) := by decide +kernel
theorem d_Srv_hearUpdate_66 : decode b_Srv_hearUpdate 66 = .ok (.getfield 166, 3) := by decide +kernel
theorem d_Srv_hearUpdate_69 : decode b_Srv_hearUpdate 69 = .ok (.if_icmp .le 18, 3) := by decide +kernel
theorem d_Srv_hearUpdate_72 : decode b_Srv_hearUpdate 72 = .ok (.aload_n 0, 1) := by decide +kernel
theorem d_Srv_hearUpdate_73 : decode b_Srv_hearUpdate 73 = .ok (.aload_n 1, 1) := by decide +kernel
theorem d_Srv_hearUpdate_74 : decode b_Srv_hearUpdate 74 = .ok (.aload 4, 2) := by decide +kernel
theorem d_Srv_hearUpdate_76 : decode b_Srv_hearUpdate 76 = .ok (.iload_n 2, 1) := by decide +kernel
theorem d_Srv_hearUpdate_77 : decode b_Srv_hearUpdate 77 = .ok (.invokevirtual 169, 3) := by decide +kernel
theorem d_Srv_hearUpdate_80 : decode b_Srv_hearUpdate 80 = .ok (.ifCond .eq 7, 3) := by decide +kernel
theorem d_Srv_hearUpdate_83 : decode b_Srv_hearUpdate 83 = .ok (.iconst 1, 1) := by decide +kernel
theorem d_Srv_hearUpdate_84 : decode b_Srv_hearUpdate 84 = .ok (.goto 4, 3) := by decide +kernel
theorem d_Srv_hearUpdate_87 : decode b_Srv_hearUpdate 87 = .ok (.iconst 0, 1) := by decide +kernel
theorem d_Srv_hearUpdate_88 : decode b_Srv_hearUpdate 88 = .ok (.istore 6, 2) := by decide +kernel
theorem d_Srv_hearUpdate_90 : decode b_Srv_hearUpdate 90 = .ok (.iload 6, 2) := by decide +kernel
theorem d_Srv_hearUpdate_92 : decode b_Srv_hearUpdate 92 = .ok (.ifCond .eq 12, 3) := by decide +kernel
theorem d_Srv_hearUpdate_95 : decode b_Srv_hearUpdate 95 = .ok (.aload 4, 2) := by decide +kernel
theorem d_Srv_hearUpdate_97 : decode b_Srv_hearUpdate 97 = .ok (.aload_n 1, 1) := by decide +kernel
theorem d_Srv_hearUpdate_98 : decode b_Srv_hearUpdate 98 = .ok (.getfield 125, 3) := by decide +kernel
theorem d_Srv_hearUpdate_101 : decode b_Srv_hearUpdate 101 = .ok (.putfield 166, 3) := by decide +kernel
theorem d_Srv_hearUpdate_104 : decode b_Srv_hearUpdate 104 = .ok (.aload_n 0, 1) := by decide +kernel
theorem d_Srv_hearUpdate_105 : decode b_Srv_hearUpdate 105 = .ok (.invokevirtual 173, 3) := by decide +kernel
theorem d_Srv_hearUpdate_108 : decode b_Srv_hearUpdate 108 = .ok (.istore 7, 2) := by decide +kernel
theorem d_Srv_hearUpdate_110 : decode b_Srv_hearUpdate 110 = .ok (.iload 6, 2) := by decide +kernel
theorem d_Srv_hearUpdate_112 : decode b_Srv_hearUpdate 112 = .ok (.ifCond .ne 8, 3) := by decide +kernel
theorem d_Srv_hearUpdate_115 : decode b_Srv_hearUpdate 115 = .ok (.iload 7, 2) := by decide +kernel
theorem d_Srv_hearUpdate_117 : decode b_Srv_hearUpdate 117 = .ok (.ifCond .eq 7, 3) := by decide +kernel
theorem d_Srv_hearUpdate_120 : decode b_Srv_hearUpdate 120 = .ok (.aload_n 0, 1) := by decide +kernel
theorem d_Srv_hearUpdate_121 : decode b_Srv_hearUpdate 121 = .ok (.invokevirtual 65, 3) := by decide +kernel
theorem d_Srv_hearUpdate_124 : decode b_Srv_hearUpdate 124 = .ok (.iload 6, 2) := by decide +kernel
theorem d_Srv_hearUpdate_126 : decode b_Srv_hearUpdate 126 = .ok (.ifCond .ne 8, 3) := by decide +kernel
theorem d_Srv_hearUpdate_129 : decode b_Srv_hearUpdate 129 = .ok (.iload 5, 2) := by decide +kernel
theorem d_Srv_hearUpdate_131 : decode b_Srv_hearUpdate 131 = .ok (.ifCond .eq 18, 3) := by decide +kernel
theorem d_Srv_hearUpdate_134 : decode b_Srv_hearUpdate 134 = .ok (.aload_n 0, 1) := by decide +kernel
theorem d_Srv_hearUpdate_135 : decode b_Srv_hearUpdate 135 = .ok (.getfield 33, 3) := by decide +kernel
theorem d_Srv_hearUpdate_138 : decode b_Srv_hearUpdate 138 = .ok (.ifCond .eq 11, 3) := by decide +kernel
theorem d_Srv_hearUpdate_141 : decode b_Srv_hearUpdate 141 = .ok (.aload_n 0, 1) := by decide +kernel
theorem d_Srv_hearUpdate_142 : decode b_Srv_hearUpdate 142 = .ok (.aload_n 1, 1) := by decide +kernel
theorem d_Srv_hearUpdate_143 : decode b_Srv_hearUpdate 143 = .ok (.aload 4, 2) := by decide +kernel
theorem d_Srv_hearUpdate_145 : decode b_Srv_hearUpdate 145 = .ok (.aload_n 3, 1) := by decide +kernel
theorem d_Srv_hearUpdate_146 : decode b_Srv_hearUpdate 146 = .ok (.invokevirtual 176, 3) := by decide +kernel
theorem d_Srv_hearUpdate_149 : decode b_Srv_hearUpdate 149 = .ok (.return_, 1) := by decide +kernel
set_option maxRecDepth 100000 in
set_option maxHeartbeats 4000000 in
theorem c_Srv_hearUpdate (l : Launch) (K : Kx) (V : Vx) (A B C D : MI) (P : MP) (n : Nat) (cs : CS K V P n) (s : Nat) (hs : s < 2) (ld sk : Int32) (N T : List Msg) (U : Msg) (hnc : NC K P B ld sk N T U) (q : Nat) (hq : V.1 5 q) (x : Msg) (hcm : CM B q x) (h3 : x 0 = 3) (hoff : offR K P q) (a : Nat) (ha : a < n) (hxa : x 4 = nI a) (t : Int32) : Ct l K md_Srv_hearUpdate (4, 85) 0 0 [.ref (K.ad 1 s), .ref (K.ad 5 q), .int t, .ref (K.ad 4 0)] V (bk4 A B C D) P (NP K V C D P ld sk none (hupA A (32 * s + a) s n t x) (hupN A s a n t x N) T U) := by
  refine ct_of [(0, .ref (K.ad 1 s)), (1, .ref (K.ad 5 q)), (2, .int t), (3, .ref (K.ad 4 0))] (by decide) (Nat.le_of_ble_eq_true rfl) (ca_r (ca_r (ca_i (ca_r ca_n)))) rfl ?_
  intro X hl hX
  have h : OkX X b_Srv_hearUpdate R_Srv K := hX.1
  have hN : X.nL = 8 := hX.2.1
  have hsv := cs_sv cs hs
  have hr := cs_rv cs hs ha
  have j124 : ∀ (Y : MI) (v5 v6 : Int32), hupA A (32 * s + a) s n t x = Y → hupN A s a n t x N = uN Y s a v5 v6 x N → J X K V (bk4 Y B C D) P 0 0 124 [(0, .ref (K.ad 1 s)), (1, .ref (K.ad 5 q)), (2, .int t), (3, .ref (K.ad 4 0)), (4, .ref (K.ad 2 (32 * s + a))), (5, .int v5), (6, .int v6)] [] := by
    intro Y v5 v6 eA eN
    refine j_iload h d_Srv_hearUpdate_124 rfl ?_
    refine j_if_ne (tgt := 134) h d_Srv_hearUpdate_126 (by decide) (fun c1 => ?_) (fun c1 => ?_)
    · refine j_aload_n h d_Srv_hearUpdate_134 rfl ?_
      refine j_get0 h d_Srv_hearUpdate_135 fl_Srv_33 rfl (by assumption) ?_
      refine j_if_eq (tgt := 149) h d_Srv_hearUpdate_138 (by decide) (fun c2 => ?_) (fun c2 => ?_)
      · exact j_vret hX d_Srv_hearUpdate_149 rfl (Nat.le_refl _) (Nat.le_refl _) ⟨rfl, rfl, rfl, _, by rw [eA], by first | (rw [eN, uN, if_neg (by clear hX h hl; grind)]; exact hnc) | (rw [eN, uN, if_pos (by clear hX h hl; grind)]; exact hn2)⟩
      · refine j_aload_n h d_Srv_hearUpdate_141 rfl ?_
        refine j_aload_n h d_Srv_hearUpdate_142 rfl ?_
        refine j_aload h d_Srv_hearUpdate_143 rfl ?_
        refine j_aload_n h d_Srv_hearUpdate_145 rfl ?_
        refine j_callV h (c_Srv_acknowledge _ _ _ _ _ _ _ _ _ cs _ hs _ _ _ _ _ hnc _ hq _ hcm hoff _ ha hxa) d_Srv_hearUpdate_146 ml_Srv_176 mv_Srv_acknowledge (by assumption) ⟨rfl, rfl⟩ rfl rfl (Nat.le_of_ble_eq_true rfl) (hR_of hX (by decide) (by decide)) (hf_of hX (by decide) (by decide)) ?_
        rintro _ _ _ _ ⟨rfl, rfl, rfl, B2, rfl, hn2⟩
        exact j_vret hX d_Srv_hearUpdate_149 rfl (Nat.le_refl _) (Nat.le_refl _) ⟨rfl, rfl, rfl, _, by rw [eA], by first | (rw [eN, uN, if_neg (by clear hX h hl; grind)]; exact hnc) | (rw [eN, uN, if_pos (by clear hX h hl; grind)]; exact hn2)⟩
    · refine j_iload h d_Srv_hearUpdate_129 rfl ?_
      refine j_if_eq (tgt := 149) h d_Srv_hearUpdate_131 (by decide) (fun c3 => ?_) (fun c3 => ?_)
      · exact j_vret hX d_Srv_hearUpdate_149 rfl (Nat.le_refl _) (Nat.le_refl _) ⟨rfl, rfl, rfl, _, by rw [eA], by first | (rw [eN, uN, if_neg (by clear hX h hl; grind)]; exact hnc) | (rw [eN, uN, if_pos (by clear hX h hl; grind)]; exact hn2)⟩
      · refine j_aload_n h d_Srv_hearUpdate_134 rfl ?_
        refine j_get0 h d_Srv_hearUpdate_135 fl_Srv_33 rfl (by assumption) ?_
        refine j_if_eq (tgt := 149) h d_Srv_hearUpdate_138 (by decide) (fun c4 => ?_) (fun c4 => ?_)
        · exact j_vret hX d_Srv_hearUpdate_149 rfl (Nat.le_refl _) (Nat.le_refl _) ⟨rfl, rfl, rfl, _, by rw [eA], by first | (rw [eN, uN, if_neg (by clear hX h hl; grind)]; exact hnc) | (rw [eN, uN, if_pos (by clear hX h hl; grind)]; exact hn2)⟩
        · refine j_aload_n h d_Srv_hearUpdate_141 rfl ?_
          refine j_aload_n h d_Srv_hearUpdate_142 rfl ?_
          refine j_aload h d_Srv_hearUpdate_143 rfl ?_
          refine j_aload_n h d_Srv_hearUpdate_145 rfl ?_
          refine j_callV h (c_Srv_acknowledge _ _ _ _ _ _ _ _ _ cs _ hs _ _ _ _ _ hnc _ hq _ hcm hoff _ ha hxa) d_Srv_hearUpdate_146 ml_Srv_176 mv_Srv_acknowledge (by assumption) ⟨rfl, rfl⟩ rfl rfl (Nat.le_of_ble_eq_true rfl) (hR_of hX (by decide) (by decide)) (hf_of hX (by decide) (by decide)) ?_
          rintro _ _ _ _ ⟨rfl, rfl, rfl, B2, rfl, hn2⟩
          exact j_vret hX d_Srv_hearUpdate_149 rfl (Nat.le_refl _) (Nat.le_refl _) ⟨rfl, rfl, rfl, _, by rw [eA], by first | (rw [eN, uN, if_neg (by clear hX h hl; grind)]; exact hnc) | (rw [eN, uN, if_pos (by clear hX h hl; grind)]; exact hn2)⟩
  have j104 : ∀ (Y : MI) (v5 v6 : Int32), hupA A (32 * s + a) s n t x = uA4 Y s n v6 → hupN A s a n t x N = uN (uA4 Y s n v6) s a v5 v6 x N → J X K V (bk4 Y B C D) P 0 0 104 [(0, .ref (K.ad 1 s)), (1, .ref (K.ad 5 q)), (2, .int t), (3, .ref (K.ad 4 0)), (4, .ref (K.ad 2 (32 * s + a))), (5, .int v5), (6, .int v6)] [] := by
    intro Y v5 v6 eA eN
    refine j_aload_n h d_Srv_hearUpdate_104 rfl ?_
    refine j_callV h (c_Srv_recover _ _ _ _ _ _ _ _ _ cs _ hs) d_Srv_hearUpdate_105 ml_Srv_173 mv_Srv_recover (by assumption) ⟨rfl, rfl⟩ rfl rfl (Nat.le_of_ble_eq_true rfl) (hR_of hX (by decide) (by decide)) (hf_of hX (by decide) (by decide)) ?_
    rintro _ _ _ _ ⟨rfl, rfl, rfl, rfl⟩
    refine j_istore h d_Srv_hearUpdate_108 (Nat.lt_of_lt_of_eq (m := 8) (by decide) hN.symm) ?_
    refine j_iload h d_Srv_hearUpdate_110 rfl ?_
    refine j_if_ne (tgt := 120) h d_Srv_hearUpdate_112 (by decide) (fun c1 => ?_) (fun c1 => ?_)
    · refine j_aload_n h d_Srv_hearUpdate_120 rfl ?_
      refine j_callV h (c_Srv_write _ _ _ _ _ _ _ _ _ hsv) d_Srv_hearUpdate_121 ml_Srv_65 mv_Srv_write (by assumption) ⟨rfl, rfl⟩ rfl rfl (Nat.le_of_ble_eq_true rfl) (hR_of hX (by decide) (by decide)) (hf_of hX (by decide) (by decide)) ?_
      rintro _ _ _ _ ⟨rfl, rfl, rfl, rfl⟩
      refine j_lv (lv' := [(0, .ref (K.ad 1 s)), (1, .ref (K.ad 5 q)), (2, .int t), (3, .ref (K.ad 4 0)), (4, .ref (K.ad 2 (32 * s + a))), (5, .int v5), (6, .int v6)]) (lvs rfl (lvs rfl (lvs rfl (lvs rfl (lvs rfl (lvs rfl (lvs rfl lvs0))))))) ?_
      refine j124 _ v5 v6 (eA.trans ?_) (eN.trans (congrArg (fun z => uN z s a v5 v6 x N) ?_)) <;> (clear hX h hl j124 eA eN; first | (simp_all [uA4, uA3, b01_0]; done) | grind [uA4, uA3, b01_0])
    · refine j_iload h d_Srv_hearUpdate_115 rfl ?_
      refine j_if_eq (tgt := 124) h d_Srv_hearUpdate_117 (by decide) (fun c2 => ?_) (fun c2 => ?_)
      · refine j_lv (lv' := [(0, .ref (K.ad 1 s)), (1, .ref (K.ad 5 q)), (2, .int t), (3, .ref (K.ad 4 0)), (4, .ref (K.ad 2 (32 * s + a))), (5, .int v5), (6, .int v6)]) (lvs rfl (lvs rfl (lvs rfl (lvs rfl (lvs rfl (lvs rfl (lvs rfl lvs0))))))) ?_
        refine j124 _ v5 v6 (eA.trans ?_) (eN.trans (congrArg (fun z => uN z s a v5 v6 x N) ?_)) <;> (clear hX h hl j124 eA eN; first | (simp_all [uA4, uA3, b01_0]; done) | grind [uA4, uA3, b01_0])
      · refine j_aload_n h d_Srv_hearUpdate_120 rfl ?_
        refine j_callV h (c_Srv_write _ _ _ _ _ _ _ _ _ hsv) d_Srv_hearUpdate_121 ml_Srv_65 mv_Srv_write (by assumption) ⟨rfl, rfl⟩ rfl rfl (Nat.le_of_ble_eq_true rfl) (hR_of hX (by decide) (by decide)) (hf_of hX (by decide) (by decide)) ?_
        rintro _ _ _ _ ⟨rfl, rfl, rfl, rfl⟩
        refine j_lv (lv' := [(0, .ref (K.ad 1 s)), (1, .ref (K.ad 5 q)), (2, .int t), (3, .ref (K.ad 4 0)), (4, .ref (K.ad 2 (32 * s + a))), (5, .int v5), (6, .int v6)]) (lvs rfl (lvs rfl (lvs rfl (lvs rfl (lvs rfl (lvs rfl (lvs rfl lvs0))))))) ?_
        refine j124 _ v5 v6 (eA.trans ?_) (eN.trans (congrArg (fun z => uN z s a v5 v6 x N) ?_)) <;> (clear hX h hl j124 eA eN; first | (simp_all [uA4, uA3, b01_0]; done) | grind [uA4, uA3, b01_0])
  have j60 : ∀ (Y : MI) (v5 : Int32), hupA A (32 * s + a) s n t x = uA4 (uA2 Y (32 * s + a) s t x) s n (uTk Y (32 * s + a) s t x).1 → hupN A s a n t x N = uN (uA4 (uA2 Y (32 * s + a) s t x) s n (uTk Y (32 * s + a) s t x).1) s a v5 (uTk Y (32 * s + a) s t x).1 x N → J X K V (bk4 Y B C D) P 0 0 60 [(0, .ref (K.ad 1 s)), (1, .ref (K.ad 5 q)), (2, .int t), (3, .ref (K.ad 4 0)), (4, .ref (K.ad 2 (32 * s + a))), (5, .int v5)] [] := by
    intro Y v5 eA eN
    refine j_aload_n h d_Srv_hearUpdate_60 rfl ?_
    refine j_get1e (v := x 5) h d_Srv_hearUpdate_61 fl_Srv_125 rfl (by assumption) (hcm.1 5 (by decide)) ?_
    refine j_aload h d_Srv_hearUpdate_64 rfl ?_
    refine j_get0 h d_Srv_hearUpdate_66 fl_Srv_166 rfl (by assumption) ?_
    refine j_ic_le (tgt := 87) h d_Srv_hearUpdate_69 (by decide) (fun c1 => ?_) (fun c1 => ?_)
    · refine j_iconst (v := 0) h d_Srv_hearUpdate_87 (by decide) ?_
      refine j_istore h d_Srv_hearUpdate_88 (Nat.lt_of_lt_of_eq (m := 8) (by decide) hN.symm) ?_
      refine j_iload h d_Srv_hearUpdate_90 rfl ?_
      refine j_if_eq (tgt := 104) h d_Srv_hearUpdate_92 (by decide) (fun c2 => ?_) (fun c2 => absurd c2 (by decide))
      refine j_lv (lv' := [(0, .ref (K.ad 1 s)), (1, .ref (K.ad 5 q)), (2, .int t), (3, .ref (K.ad 4 0)), (4, .ref (K.ad 2 (32 * s + a))), (5, .int v5), (6, .int _)]) (lvs rfl (lvs rfl (lvs rfl (lvs rfl (lvs rfl (lvs rfl (lvs rfl lvs0))))))) ?_
      refine j104 _ v5 _ (eA.trans ?_) (eN.trans ?_) <;> (have hzz := tkI_z Y (32 * s + a) s (nI s) t (x 3) (x 9) (x 6) (x 10) (x 11) (x 13) (x 12); clear hX h hl j124 j104 eA eN; first | (simp_all [uA2, uTk]; done) | grind [uA2, uTk])
    · refine j_aload_n h d_Srv_hearUpdate_72 rfl ?_
      refine j_aload_n h d_Srv_hearUpdate_73 rfl ?_
      refine j_aload h d_Srv_hearUpdate_74 rfl ?_
      refine j_iload_n h d_Srv_hearUpdate_76 rfl ?_
      refine j_callV h (c_Srv_takeIn_x _ _ _ _ _ _ _ _ _ hsv _ hq _ hr _ _ hcm h3 (hnc.1 s hs).1) d_Srv_hearUpdate_77 ml_Srv_169 mv_Srv_takeIn (by assumption) ⟨rfl, rfl⟩ rfl rfl (Nat.le_of_ble_eq_true rfl) (hR_of hX (by decide) (by decide)) (hf_of hX (by decide) (by decide)) ?_
      rintro _ _ _ _ ⟨rfl, rfl, rfl, rfl⟩
      refine j_if_eq (tgt := 87) h d_Srv_hearUpdate_80 (by decide) (fun c3 => ?_) (fun c3 => ?_)
      · refine j_iconst (v := 0) h d_Srv_hearUpdate_87 (by decide) ?_
        refine j_istore h d_Srv_hearUpdate_88 (Nat.lt_of_lt_of_eq (m := 8) (by decide) hN.symm) ?_
        refine j_iload h d_Srv_hearUpdate_90 rfl ?_
        refine j_if_eq (tgt := 104) h d_Srv_hearUpdate_92 (by decide) (fun c4 => ?_) (fun c4 => absurd c4 (by decide))
        refine j_lv (lv' := [(0, .ref (K.ad 1 s)), (1, .ref (K.ad 5 q)), (2, .int t), (3, .ref (K.ad 4 0)), (4, .ref (K.ad 2 (32 * s + a))), (5, .int v5), (6, .int _)]) (lvs rfl (lvs rfl (lvs rfl (lvs rfl (lvs rfl (lvs rfl (lvs rfl lvs0))))))) ?_
        refine j104 _ v5 _ (eA.trans ?_) (eN.trans ?_) <;> (have hzz := tkI_z Y (32 * s + a) s (nI s) t (x 3) (x 9) (x 6) (x 10) (x 11) (x 13) (x 12); clear hX h hl j124 j104 eA eN; first | (simp_all [uA2, uTk]; done) | grind [uA2, uTk])
      · refine j_iconst (v := 1) h d_Srv_hearUpdate_83 (by decide) ?_
        refine j_goto (tgt := 88) h d_Srv_hearUpdate_84 (by decide) ?_
        refine j_istore h d_Srv_hearUpdate_88 (Nat.lt_of_lt_of_eq (m := 8) (by decide) hN.symm) ?_
        refine j_iload h d_Srv_hearUpdate_90 rfl ?_
        refine j_if_eq (tgt := 104) h d_Srv_hearUpdate_92 (by decide) (fun c5 => absurd c5 (by decide)) (fun c5 => ?_)
        refine j_aload h d_Srv_hearUpdate_95 rfl ?_
        refine j_aload_n h d_Srv_hearUpdate_97 rfl ?_
        refine j_get1e (v := x 5) h d_Srv_hearUpdate_98 fl_Srv_125 rfl (by assumption) (hcm.1 5 (by decide)) ?_
        refine j_put0 h d_Srv_hearUpdate_101 fw_Srv_166 rfl rfl (by assumption) ?_
        refine j_lv (lv' := [(0, .ref (K.ad 1 s)), (1, .ref (K.ad 5 q)), (2, .int t), (3, .ref (K.ad 4 0)), (4, .ref (K.ad 2 (32 * s + a))), (5, .int v5), (6, .int _)]) (lvs rfl (lvs rfl (lvs rfl (lvs rfl (lvs rfl (lvs rfl (lvs rfl lvs0))))))) ?_
        refine j104 _ v5 _ (eA.trans ?_) (eN.trans ?_) <;> (have hzz := tkI_z Y (32 * s + a) s (nI s) t (x 3) (x 9) (x 6) (x 10) (x 11) (x 13) (x 12); clear hX h hl j124 j104 eA eN; first | (simp_all [uA2, uTk]; done) | grind [uA2, uTk])
  refine j_aload_n h d_Srv_hearUpdate_0 rfl ?_
  refine j_getR h d_Srv_hearUpdate_1 fl_Srv_26 rfl (by assumption) (cs_rp cs hs) ?_
  refine j_aload_n h d_Srv_hearUpdate_4 rfl ?_
  refine j_get1e (v := nI a) h d_Srv_hearUpdate_5 fl_Srv_81 rfl (by assumption) ((hcm.1 4 (by decide)).trans hxa) ?_
  refine j_recs h cs hs ha d_Srv_hearUpdate_8 ?_
  refine j_astore h d_Srv_hearUpdate_9 (Nat.lt_of_lt_of_eq (m := 8) (by decide) hN.symm) ?_
  refine j_aload_n h d_Srv_hearUpdate_11 rfl ?_
  refine j_get1e (v := x 7) h d_Srv_hearUpdate_12 fl_Srv_161 rfl (by assumption) (hcm.2.1 h3 7 (by decide)) ?_
  refine j_aload h d_Srv_hearUpdate_15 rfl ?_
  refine j_get0 h d_Srv_hearUpdate_17 fl_Srv_162 rfl (by assumption) ?_
  refine j_ic_gt (tgt := 24) h d_Srv_hearUpdate_20 (by decide) (fun c1 => ?_) (fun c1 => ?_)
  · refine j_aload_n h d_Srv_hearUpdate_24 rfl ?_
    refine j_get1e (v := x 8) h d_Srv_hearUpdate_25 fl_Srv_165 rfl (by assumption) (hcm.2.1 h3 8 (by decide)) ?_
    refine j_aload_n h d_Srv_hearUpdate_28 rfl ?_
    refine j_get0 h d_Srv_hearUpdate_29 fl_Srv_36 rfl (by assumption) ?_
    refine j_ic_ne (tgt := 41) h d_Srv_hearUpdate_32 (by decide) (fun c2 => ?_) (fun c2 => ?_)
    · refine j_aload_n h d_Srv_hearUpdate_41 rfl ?_
      refine j_get1e (v := x 5) h d_Srv_hearUpdate_42 fl_Srv_125 rfl (by assumption) (hcm.1 5 (by decide)) ?_
      refine j_aload h d_Srv_hearUpdate_45 rfl ?_
      refine j_get0 h d_Srv_hearUpdate_47 fl_Srv_166 rfl (by assumption) ?_
      refine j_ic_ne (tgt := 57) h d_Srv_hearUpdate_50 (by decide) (fun c3 => ?_) (fun c3 => ?_)
      · refine j_iconst (v := 0) h d_Srv_hearUpdate_57 (by decide) ?_
        refine j_istore h d_Srv_hearUpdate_58 (Nat.lt_of_lt_of_eq (m := 8) (by decide) hN.symm) ?_
        refine j_lv (lv' := [(0, .ref (K.ad 1 s)), (1, .ref (K.ad 5 q)), (2, .int t), (3, .ref (K.ad 4 0)), (4, .ref (K.ad 2 (32 * s + a))), (5, .int _)]) (lvs rfl (lvs rfl (lvs rfl (lvs rfl (lvs rfl (lvs rfl lvs0)))))) ?_
        refine j60 _ _ ?_ ?_ <;> (clear hX h hl j124 j104 j60; first | (simp_all [hupA, hupN, uA1, b01, up_rd]; done) | grind [hupA, hupN, uA1, b01, up_rd])
      · refine j_iconst (v := 1) h d_Srv_hearUpdate_53 (by decide) ?_
        refine j_goto (tgt := 58) h d_Srv_hearUpdate_54 (by decide) ?_
        refine j_istore h d_Srv_hearUpdate_58 (Nat.lt_of_lt_of_eq (m := 8) (by decide) hN.symm) ?_
        refine j_lv (lv' := [(0, .ref (K.ad 1 s)), (1, .ref (K.ad 5 q)), (2, .int t), (3, .ref (K.ad 4 0)), (4, .ref (K.ad 2 (32 * s + a))), (5, .int _)]) (lvs rfl (lvs rfl (lvs rfl (lvs rfl (lvs rfl (lvs rfl lvs0)))))) ?_
        refine j60 _ _ ?_ ?_ <;> (clear hX h hl j124 j104 j60; first | (simp_all [hupA, hupN, uA1, b01, up_rd]; done) | grind [hupA, hupN, uA1, b01, up_rd])
    · refine j_aload h d_Srv_hearUpdate_35 rfl ?_
      refine j_iconst (v := 1) h d_Srv_hearUpdate_37 (by decide) ?_
      refine j_putZ0 h d_Srv_hearUpdate_38 fw_Srv_58 rfl rfl (by assumption) (by first | exact Or.inl rfl | exact Or.inr rfl | assumption) ?_
      refine j_aload_n h d_Srv_hearUpdate_41 rfl ?_
      refine j_get1e (v := x 5) h d_Srv_hearUpdate_42 fl_Srv_125 rfl (by assumption) (hcm.1 5 (by decide)) ?_
      refine j_aload h d_Srv_hearUpdate_45 rfl ?_
      refine j_get0 h d_Srv_hearUpdate_47 fl_Srv_166 rfl (by assumption) ?_
      refine j_ic_ne (tgt := 57) h d_Srv_hearUpdate_50 (by decide) (fun c4 => ?_) (fun c4 => ?_)
      · refine j_iconst (v := 0) h d_Srv_hearUpdate_57 (by decide) ?_
        refine j_istore h d_Srv_hearUpdate_58 (Nat.lt_of_lt_of_eq (m := 8) (by decide) hN.symm) ?_
        refine j_lv (lv' := [(0, .ref (K.ad 1 s)), (1, .ref (K.ad 5 q)), (2, .int t), (3, .ref (K.ad 4 0)), (4, .ref (K.ad 2 (32 * s + a))), (5, .int _)]) (lvs rfl (lvs rfl (lvs rfl (lvs rfl (lvs rfl (lvs rfl lvs0)))))) ?_
        refine j60 _ _ ?_ ?_ <;> (clear hX h hl j124 j104 j60; first | (simp_all [hupA, hupN, uA1, b01, up_rd]; done) | grind [hupA, hupN, uA1, b01, up_rd])
      · refine j_iconst (v := 1) h d_Srv_hearUpdate_53 (by decide) ?_
        refine j_goto (tgt := 58) h d_Srv_hearUpdate_54 (by decide) ?_
        refine j_istore h d_Srv_hearUpdate_58 (Nat.lt_of_lt_of_eq (m := 8) (by decide) hN.symm) ?_
        refine j_lv (lv' := [(0, .ref (K.ad 1 s)), (1, .ref (K.ad 5 q)), (2, .int t), (3, .ref (K.ad 4 0)), (4, .ref (K.ad 2 (32 * s + a))), (5, .int _)]) (lvs rfl (lvs rfl (lvs rfl (lvs rfl (lvs rfl (lvs rfl lvs0)))))) ?_
        refine j60 _ _ ?_ ?_ <;> (clear hX h hl j124 j104 j60; first | (simp_all [hupA, hupN, uA1, b01, up_rd]; done) | grind [hupA, hupN, uA1, b01, up_rd])
  · exact j_vret hX d_Srv_hearUpdate_23 rfl (Nat.le_refl _) (Nat.le_refl _) ⟨rfl, rfl, rfl, _, by rw [hupA, if_neg (by assumption)], by rw [hupN, if_neg (by assumption)]; exact hnc⟩
end
section
/-! hearing a request -/
def fA (A : MI) (s : Nat) (v : Int32) : MI := if v = -1 then A else wr A s
def fN (A : MI) (s : Nat) (v c num : Int32) (N : List Msg) : List Msg := if fA A s v 0 s = 0 then N else netput (if v = -1 then m_ans s c num 0 (-1) 0 else m_ans s c num 1 v (fA A s v 12 (32 * s + v.toNatClampNeg))) N
def hrnA (A : MI) (s a : Nat) (ld t : Int32) (x : Msg) : MI := if (rnw A (32 * s + a) s a ld t (x 2) (x 6) (x 5)).1 = -2 then A else fA (rnw A (32 * s + a) s a ld t (x 2) (x 6) (x 5)).2 s (rnw A (32 * s + a) s a ld t (x 2) (x 6) (x 5)).1
def hrnN (A : MI) (s a : Nat) (ld t : Int32) (x : Msg) (N : List Msg) : List Msg := if (rnw A (32 * s + a) s a ld t (x 2) (x 6) (x 5)).1 = -2 then N else fN (rnw A (32 * s + a) s a ld t (x 2) (x 6) (x 5)).2 s (rnw A (32 * s + a) s a ld t (x 2) (x 6) (x 5)).1 (x 2) (x 5) N
def hnwA (A : MI) (s n : Nat) (ld t : Int32) (x : Msg) : MI := if lsdTo A s (x 2) t n 0 = -1 then fA (lnwA A s n ld t (x 2) (x 6) (x 5)) s (lstOwn A s n 0) else hrnA A s (lsdTo A s (x 2) t n 0).toNatClampNeg ld t x
def hnwN (A : MI) (s n : Nat) (ld t : Int32) (x : Msg) (N : List Msg) : List Msg := if lsdTo A s (x 2) t n 0 = -1 then fN (lnwA A s n ld t (x 2) (x 6) (x 5)) s (lstOwn A s n 0) (x 2) (x 5) N else hrnN A s (lsdTo A s (x 2) t n 0).toNatClampNeg ld t x N
theorem rnw_c (A : MI) (r s a : Nat) (ld t c amt num : Int32) : rnw A r s a ld t c amt num = (-1, A) ∨ rnw A r s a ld t c amt num = (-2, A) ∨ (rnw A r s a ld t c amt num).1 = nI a := by
  unfold rnw
  split
  · exact Or.inl rfl
  · split
    · exact Or.inr (Or.inl rfl)
    · split
      · exact Or.inl rfl
      · exact Or.inr (Or.inr rfl)
theorem nI_m2 {a : Nat} (h : a < 2 ^ 31) : ¬ nI a = -2 := by
  intro q
  have := nI_toInt h
  rw [q] at this
  simp at this
theorem c_Srv_renew_x (l : Launch) (K : Kx) (V : Vx) (A B C D : MI) (P : MP) (n : Nat) (cs : CS K V P n) (s : Nat) (hs : s < 2) (q : Nat) (hq : V.1 5 q) (a : Nat) (ha : a < n) (t ld sk : Int32) (x : Msg) (hcm : CM B q x) (kb : KB B ld sk) : Ct l K md_Srv_renew (1, 21) 0 0 [.ref (K.ad 1 s), .ref (K.ad 5 q), .int (nI a), .int t] V (bk4 A B C D) P (EQ V (some (.int (rnw A (32 * s + a) s a ld t (x 2) (x 6) (x 5)).1)) (bk4 (rnw A (32 * s + a) s a ld t (x 2) (x 6) (x 5)).2 B C D) P) := by
  have e := c_Srv_renew l K V A B C D P n cs s hs q hq a ha t
  rw [(kb s hs).2.2.1, show B 82 q = x 2 from hcm.1 2 (by decide), show B 86 q = x 6 from hcm.1 6 (by decide), show B 85 q = x 5 from hcm.1 5 (by decide)] at e
  exact e
theorem c_Srv_release_x (l : Launch) (K : Kx) (V : Vx) (A B C D : MI) (P : MP) (n : Nat) (cs : CS K V P n) (s : Nat) (hs : s < 2) (q : Nat) (hq : V.1 5 q) (a : Nat) (ha : a < n) (x : Msg) (hcm : CM B q x) (hxa : x 4 = nI a) : Ct l K md_Srv_release (2, 41) 0 0 [.ref (K.ad 1 s), .ref (K.ad 5 q)] V (bk4 A B C D) P (EQ V none (bk4 (hrRel A (32 * s + a) s (x 2) (x 5)) B C D) P) := by
  have e := c_Srv_release l K V A B C D P n cs s hs q hq a ha ((hcm.1 4 (by decide)).trans hxa)
  rw [show B 82 q = x 2 from hcm.1 2 (by decide), show B 85 q = x 5 from hcm.1 5 (by decide)] at e
  exact e
theorem d_Srv_hearRequest_0 : decode b_Srv_hearRequest 0 = .ok (.aload_n 1, 1) := by decide +kernel
theorem d_Srv_hearRequest_1 : decode b_Srv_hearRequest 1 = .ok (.getfield 74, 3) := by decide +kernel
theorem d_Srv_hearRequest_4 : decode b_Srv_hearRequest 4 = .ok (.iconst 2, 1) := by decide +kernel
theorem d_Srv_hearRequest_5 : decode b_Srv_hearRequest 5 = .ok (.if_icmp .ne 9, 3) := by decide +kernel
theorem d_Srv_hearRequest_8 : decode b_Srv_hearRequest 8 = .ok (.aload_n 0, 1) := by decide +kernel
theorem d_Srv_hearRequest_9 : decode b_Srv_hearRequest 9 = .ok (.aload_n 1, 1) := by decide +kernel
theorem d_Srv_hearRequest_10 : decode b_Srv_hearRequest 10 = .ok (.invokevirtual 77, 3) := by decide +kernel
theorem d_Srv_hearRequest_13 : decode b_Srv_hearRequest 13 = .ok (.return_, 1) := by decide +kernel
theorem d_Srv_hearRequest_14 : decode b_Srv_hearRequest 14 = .ok (.aload_n 1, 1) := by decide +kernel
theorem d_Srv_hearRequest_15 : decode b_Srv_hearRequest 15 = .ok (.getfield 74, 3) := by decide +kernel
theorem d_Srv_hearRequest_18 : decode b_Srv_hearRequest 18 = .ok (.iconst 1, 1) := by decide +kernel
theorem d_Srv_hearRequest_19 : decode b_Srv_hearRequest 19 = .ok (.if_icmp .ne 10, 3) := by decide +kernel
theorem d_Srv_hearRequest_22 : decode b_Srv_hearRequest 22 = .ok (.aload_n 1, 1) := by decide +kernel
theorem d_Srv_hearRequest_23 : decode b_Srv_hearRequest 23 = .ok (.getfield 81, 3) := by decide +kernel
theorem d_Srv_hearRequest_26 : decode b_Srv_hearRequest 26 = .ok (.goto 12, 3) := by decide +kernel
theorem d_Srv_hearRequest_29 : decode b_Srv_hearRequest 29 = .ok (.aload_n 0, 1) := by decide +kernel
theorem d_Srv_hearRequest_30 : decode b_Srv_hearRequest 30 = .ok (.aload_n 1, 1) := by decide +kernel
theorem d_Srv_hearRequest_31 : decode b_Srv_hearRequest 31 = .ok (.getfield 84, 3) := by decide +kernel
theorem d_Srv_hearRequest_34 : decode b_Srv_hearRequest 34 = .ok (.iload_n 2, 1) := by decide +kernel
theorem d_Srv_hearRequest_35 : decode b_Srv_hearRequest 35 = .ok (.invokevirtual 87, 3) := by decide +kernel
theorem d_Srv_hearRequest_38 : decode b_Srv_hearRequest 38 = .ok (.istore 4, 2) := by decide +kernel
theorem d_Srv_hearRequest_40 : decode b_Srv_hearRequest 40 = .ok (.iload 4, 2) := by decide +kernel
theorem d_Srv_hearRequest_42 : decode b_Srv_hearRequest 42 = .ok (.iconst (-1), 1) := by decide +kernel
theorem d_Srv_hearRequest_43 : decode b_Srv_hearRequest 43 = .ok (.if_icmp .ne 12, 3) := by decide +kernel
theorem d_Srv_hearRequest_46 : decode b_Srv_hearRequest 46 = .ok (.aload_n 0, 1) := by decide +kernel
theorem d_Srv_hearRequest_47 : decode b_Srv_hearRequest 47 = .ok (.aload_n 1, 1) := by decide +kernel
theorem d_Srv_hearRequest_48 : decode b_Srv_hearRequest 48 = .ok (.iload_n 2, 1) := by decide +kernel
theorem d_Srv_hearRequest_49 : decode b_Srv_hearRequest 49 = .ok (.invokevirtual 91, 3) := by decide +kernel
theorem d_Srv_hearRequest_52 : decode b_Srv_hearRequest 52 = .ok (.goto 11, 3) := by decide +kernel
theorem d_Srv_hearRequest_55 : decode b_Srv_hearRequest 55 = .ok (.aload_n 0, 1) := by decide +kernel
theorem d_Srv_hearRequest_56 : decode b_Srv_hearRequest 56 = .ok (.aload_n 1, 1) := by decide +kernel
theorem d_Srv_hearRequest_57 : decode b_Srv_hearRequest 57 = .ok (.iload 4, 2) := by decide +kernel
theorem d_Srv_hearRequest_59 : decode b_Srv_hearRequest 59 = .ok (.iload_n 2, 1) := by decide +kernel
theorem d_Srv_hearRequest_60 : decode b_Srv_hearRequest 60 = .ok (.invokevirtual 95, 3) := by decide +kernel
theorem d_Srv_hearRequest_63 : decode b_Srv_hearRequest 63 = .ok (.istore 5, 2) := by decide +kernel
theorem d_Srv_hearRequest_65 : decode b_Srv_hearRequest 65 = .ok (.iload 5, 2) := by decide +kernel
theorem d_Srv_hearRequest_67 : decode b_Srv_hearRequest 67 = .ok (.bipush (-2), 2) := by decide +kernel
theorem d_Srv_hearRequest_69 : decode b_Srv_hearRequest 69 = .ok (.if_icmp .ne 4, 3) := by decide +kernel
theorem d_Srv_hearRequest_72 : decode b_Srv_hearRequest 72 = .ok (.return_, 1) := by decide +kernel
theorem d_Srv_hearRequest_73 : decode b_Srv_hearRequest 73 = .ok (.iload 5, 2) := by decide +kernel
theorem d_Srv_hearRequest_75 : decode b_Srv_hearRequest 75 = .ok (.iconst (-1), 1) := by decide +kernel
theorem d_Srv_hearRequest_76 : decode b_Srv_hearRequest 76 = .ok (.if_icmp .eq 7, 3) := by decide +kernel
theorem d_Srv_hearRequest_79 : decode b_Srv_hearRequest 79 = .ok (.aload_n 0, 1) := by decide +kernel
theorem d_Srv_hearRequest_80 : decode b_Srv_hearRequest 80 = .ok (.invokevirtual 65, 3) := by decide +kernel
theorem d_Srv_hearRequest_83 : decode b_Srv_hearRequest 83 = .ok (.aload_n 0, 1) := by decide +kernel
theorem d_Srv_hearRequest_84 : decode b_Srv_hearRequest 84 = .ok (.getfield 33, 3) := by decide +kernel
theorem d_Srv_hearRequest_87 : decode b_Srv_hearRequest 87 = .ok (.ifCond .eq 11, 3) := by decide +kernel
theorem d_Srv_hearRequest_90 : decode b_Srv_hearRequest 90 = .ok (.aload_n 0, 1) := by decide +kernel
theorem d_Srv_hearRequest_91 : decode b_Srv_hearRequest 91 = .ok (.aload_n 1, 1) := by decide +kernel
theorem d_Srv_hearRequest_92 : decode b_Srv_hearRequest 92 = .ok (.iload 5, 2) := by decide +kernel
theorem d_Srv_hearRequest_94 : decode b_Srv_hearRequest 94 = .ok (.aload_n 3, 1) := by decide +kernel
theorem d_Srv_hearRequest_95 : decode b_Srv_hearRequest 95 = .ok (.invokevirtual 99, 3) := by decide +kernel
theorem d_Srv_hearRequest_98 : decode b_Srv_hearRequest 98 = .ok (.return_, 1) := by decide +kernel
set_option maxRecDepth 100000 in
set_option maxHeartbeats 4000000 in
theorem c_Srv_hearRequest_rel (l : Launch) (K : Kx) (V : Vx) (A B C D : MI) (P : MP) (n : Nat) (cs : CS K V P n) (s : Nat) (hs : s < 2) (ld sk : Int32) (N T : List Msg) (U : Msg) (hnc : NC K P B ld sk N T U) (q : Nat) (hq : V.1 5 q) (x : Msg) (hcm : CM B q x) (hoff : offR K P q) (t : Int32) (hk : x 3 = 2) (a : Nat) (ha : a < n) (hxa : x 4 = nI a) : Ct l K md_Srv_hearRequest (5, 68) 0 0 [.ref (K.ad 1 s), .ref (K.ad 5 q), .int t, .ref (K.ad 4 0)] V (bk4 A B C D) P (NP K V C D P ld sk none (hrRel A (32 * s + a) s (x 2) (x 5)) N T U) := by
  refine ct_of [(0, .ref (K.ad 1 s)), (1, .ref (K.ad 5 q)), (2, .int t), (3, .ref (K.ad 4 0))] (by decide) (Nat.le_of_ble_eq_true rfl) (ca_r (ca_r (ca_i (ca_r ca_n)))) rfl ?_
  intro X hl hX
  have h : OkX X b_Srv_hearRequest R_Srv K := hX.1
  have hN : X.nL = 6 := hX.2.1
  have hsv := cs_sv cs hs
  have kb := hnc.1
  have hn31 := cs_n31 cs
  refine j_aload_n h d_Srv_hearRequest_0 rfl ?_
  refine j_get1e (v := x 3) h d_Srv_hearRequest_1 fl_Srv_74 rfl (by assumption) (hcm.1 3 (by decide)) ?_
  refine j_iconst (v := 2) h d_Srv_hearRequest_4 (by decide) ?_
  refine j_ic_ne (tgt := 14) h d_Srv_hearRequest_5 (by decide) (fun z => absurd hk z) (fun _ => ?_)
  refine j_aload_n h d_Srv_hearRequest_8 rfl ?_
  refine j_aload_n h d_Srv_hearRequest_9 rfl ?_
  refine j_callV h (c_Srv_release_x _ _ _ _ _ _ _ _ _ cs _ hs _ hq _ ha _ hcm hxa) d_Srv_hearRequest_10 ml_Srv_77 mv_Srv_release (by assumption) ⟨rfl, rfl⟩ rfl rfl (Nat.le_of_ble_eq_true rfl) (hR_of hX (by decide) (by decide)) (hf_of hX (by decide) (by decide)) ?_
  rintro _ _ _ _ ⟨rfl, rfl, rfl, rfl⟩
  exact j_vret hX d_Srv_hearRequest_13 rfl (Nat.le_refl _) (Nat.le_refl _) ⟨rfl, rfl, rfl, _, rfl, hnc⟩
set_option maxRecDepth 100000 in
set_option maxHeartbeats 4000000 in
theorem c_Srv_hearRequest_renew (l : Launch) (K : Kx) (V : Vx) (A B C D : MI) (P : MP) (n : Nat) (cs : CS K V P n) (s : Nat) (hs : s < 2) (ld sk : Int32) (N T : List Msg) (U : Msg) (hnc : NC K P B ld sk N T U) (q : Nat) (hq : V.1 5 q) (x : Msg) (hcm : CM B q x) (hoff : offR K P q) (t : Int32) (hk : x 3 = 1) (a : Nat) (ha : a < n) (hxa : x 4 = nI a) : Ct l K md_Srv_hearRequest (5, 71) 0 0 [.ref (K.ad 1 s), .ref (K.ad 5 q), .int t, .ref (K.ad 4 0)] V (bk4 A B C D) P (NP K V C D P ld sk none (hrnA A s a ld t x) (hrnN A s a ld t x N) T U) := by
  refine ct_of [(0, .ref (K.ad 1 s)), (1, .ref (K.ad 5 q)), (2, .int t), (3, .ref (K.ad 4 0))] (by decide) (Nat.le_of_ble_eq_true rfl) (ca_r (ca_r (ca_i (ca_r ca_n)))) rfl ?_
  intro X hl hX
  have h : OkX X b_Srv_hearRequest R_Srv K := hX.1
  have hN : X.nL = 6 := hX.2.1
  have hsv := cs_sv cs hs
  have kb := hnc.1
  have hn31 := cs_n31 cs
  refine j_aload_n h d_Srv_hearRequest_0 rfl ?_
  refine j_get1e (v := x 3) h d_Srv_hearRequest_1 fl_Srv_74 rfl (by assumption) (hcm.1 3 (by decide)) ?_
  refine j_iconst (v := 2) h d_Srv_hearRequest_4 (by decide) ?_
  refine j_ic_ne (tgt := 14) h d_Srv_hearRequest_5 (by decide) (fun _ => ?_) (fun z => absurd (hk.symm.trans z) (by decide))
  refine j_aload_n h d_Srv_hearRequest_14 rfl ?_
  refine j_get1e (v := x 3) h d_Srv_hearRequest_15 fl_Srv_74 rfl (by assumption) (hcm.1 3 (by decide)) ?_
  refine j_iconst (v := 1) h d_Srv_hearRequest_18 (by decide) ?_
  refine j_ic_ne (tgt := 29) h d_Srv_hearRequest_19 (by decide) (fun z => absurd hk z) (fun _ => ?_)
  refine j_aload_n h d_Srv_hearRequest_22 rfl ?_
  refine j_get1e (v := nI a) h d_Srv_hearRequest_23 fl_Srv_81 rfl (by assumption) ((hcm.1 4 (by decide)).trans hxa) ?_
  refine j_goto (tgt := 38) h d_Srv_hearRequest_26 (by decide) ?_
  refine j_istore h d_Srv_hearRequest_38 (Nat.lt_of_lt_of_eq (m := 6) (by decide) hN.symm) ?_
  refine j_iload h d_Srv_hearRequest_40 rfl ?_
  refine j_iconst (v := -1) h d_Srv_hearRequest_42 (by decide) ?_
  refine j_ic_ne (tgt := 55) h d_Srv_hearRequest_43 (by decide) (fun _ => ?_) (fun z => absurd z (nI_m1 (by omega)))
  refine j_aload_n h d_Srv_hearRequest_55 rfl ?_
  refine j_aload_n h d_Srv_hearRequest_56 rfl ?_
  refine j_iload h d_Srv_hearRequest_57 rfl ?_
  refine j_iload_n h d_Srv_hearRequest_59 rfl ?_
  refine j_callV h (c_Srv_renew_x _ _ _ _ _ _ _ _ _ cs _ hs _ hq _ ha _ _ _ _ hcm kb) d_Srv_hearRequest_60 ml_Srv_95 mv_Srv_renew (by assumption) ⟨rfl, rfl⟩ rfl rfl (Nat.le_of_ble_eq_true rfl) (hR_of hX (by decide) (by decide)) (hf_of hX (by decide) (by decide)) ?_
  rintro _ _ _ _ ⟨rfl, rfl, rfl, rfl⟩
  rcases rnw_c A (32 * s + a) s a ld t (x 2) (x 6) (x 5) with e | e | e
  · have e1 : (rnw A (32 * s + a) s a ld t (x 2) (x 6) (x 5)).1 = -1 := by rw [e]
    have e2 : (rnw A (32 * s + a) s a ld t (x 2) (x 6) (x 5)).2 = A := by rw [e]
    rw [show hrnA A s a ld t x = fA A s (-1) by unfold hrnA; rw [e1, e2, if_neg (by decide)], show hrnN A s a ld t x N = fN A s (-1) (x 2) (x 5) N by unfold hrnN; rw [e1, e2, if_neg (by decide)]] at hX
    rw [e1, e2]
    refine j_istore h d_Srv_hearRequest_63 (Nat.lt_of_lt_of_eq (m := 6) (by decide) hN.symm) ?_
    refine j_iload h d_Srv_hearRequest_65 rfl ?_
    refine j_bipush (v := -2) h d_Srv_hearRequest_67 (by decide) ?_
    refine j_ic_ne (tgt := 73) h d_Srv_hearRequest_69 (by decide) (fun _ => ?_) (fun z => absurd z (by decide))
    refine j_iload h d_Srv_hearRequest_73 rfl ?_
    refine j_iconst (v := -1) h d_Srv_hearRequest_75 (by decide) ?_
    refine j_ic_eq (tgt := 83) h d_Srv_hearRequest_76 (by decide) (fun _ => ?_) (fun z => absurd rfl z)
    refine j_aload_n h d_Srv_hearRequest_83 rfl ?_
    refine j_get0 h d_Srv_hearRequest_84 fl_Srv_33 rfl (by assumption) ?_
    refine j_if_eq (tgt := 98) h d_Srv_hearRequest_87 (by decide) (fun c1 => ?_) (fun c1 => ?_)
    · exact j_vret hX d_Srv_hearRequest_98 rfl (Nat.le_refl _) (Nat.le_refl _) ⟨rfl, rfl, rfl, _, by rw [fA, if_pos rfl], by first | (rw [fN, fA, if_pos rfl, if_pos (by assumption)]; exact hnc) | (rw [fN, fA, if_pos rfl, if_neg (by assumption), if_pos rfl]; exact hn2)⟩
    · refine j_aload_n h d_Srv_hearRequest_90 rfl ?_
      refine j_aload_n h d_Srv_hearRequest_91 rfl ?_
      refine j_iload h d_Srv_hearRequest_92 rfl ?_
      refine j_aload_n h d_Srv_hearRequest_94 rfl ?_
      refine j_callV h (c_Srv_answer_no _ _ _ _ _ _ _ _ _ cs _ hs _ _ _ _ _ hnc _ hq _ hcm hoff) d_Srv_hearRequest_95 ml_Srv_99 mv_Srv_answer (by assumption) ⟨rfl, rfl⟩ rfl rfl (Nat.le_of_ble_eq_true rfl) (hR_of hX (by decide) (by decide)) (hf_of hX (by decide) (by decide)) ?_
      rintro _ _ _ _ ⟨rfl, rfl, rfl, B2, rfl, hn2⟩
      exact j_vret hX d_Srv_hearRequest_98 rfl (Nat.le_refl _) (Nat.le_refl _) ⟨rfl, rfl, rfl, _, by rw [fA, if_pos rfl], by first | (rw [fN, fA, if_pos rfl, if_pos (by assumption)]; exact hnc) | (rw [fN, fA, if_pos rfl, if_neg (by assumption), if_pos rfl]; exact hn2)⟩
  · have e1 : (rnw A (32 * s + a) s a ld t (x 2) (x 6) (x 5)).1 = -2 := by rw [e]
    have e2 : (rnw A (32 * s + a) s a ld t (x 2) (x 6) (x 5)).2 = A := by rw [e]
    rw [show hrnA A s a ld t x = A by unfold hrnA; rw [e1, if_pos rfl], show hrnN A s a ld t x N = N by unfold hrnN; rw [e1, if_pos rfl]] at hX
    rw [e1, e2]
    refine j_istore h d_Srv_hearRequest_63 (Nat.lt_of_lt_of_eq (m := 6) (by decide) hN.symm) ?_
    refine j_iload h d_Srv_hearRequest_65 rfl ?_
    refine j_bipush (v := -2) h d_Srv_hearRequest_67 (by decide) ?_
    refine j_ic_ne (tgt := 73) h d_Srv_hearRequest_69 (by decide) (fun z => absurd rfl z) (fun _ => ?_)
    exact j_vret hX d_Srv_hearRequest_72 rfl (Nat.le_refl _) (Nat.le_refl _) ⟨rfl, rfl, rfl, _, rfl, hnc⟩
  · rw [show hrnA A s a ld t x = fA (rnw A (32 * s + a) s a ld t (x 2) (x 6) (x 5)).2 s (nI a) by unfold hrnA; rw [e, if_neg (nI_m2 (by omega))], show hrnN A s a ld t x N = fN (rnw A (32 * s + a) s a ld t (x 2) (x 6) (x 5)).2 s (nI a) (x 2) (x 5) N by unfold hrnN; rw [e, if_neg (nI_m2 (by omega))]] at hX
    rw [e]
    refine j_istore h d_Srv_hearRequest_63 (Nat.lt_of_lt_of_eq (m := 6) (by decide) hN.symm) ?_
    refine j_iload h d_Srv_hearRequest_65 rfl ?_
    refine j_bipush (v := -2) h d_Srv_hearRequest_67 (by decide) ?_
    refine j_ic_ne (tgt := 73) h d_Srv_hearRequest_69 (by decide) (fun _ => ?_) (fun z => absurd z (nI_m2 (by omega)))
    refine j_iload h d_Srv_hearRequest_73 rfl ?_
    refine j_iconst (v := -1) h d_Srv_hearRequest_75 (by decide) ?_
    refine j_ic_eq (tgt := 83) h d_Srv_hearRequest_76 (by decide) (fun z => absurd z (nI_m1 (by omega))) (fun _ => ?_)
    refine j_aload_n h d_Srv_hearRequest_79 rfl ?_
    refine j_callV h (c_Srv_write _ _ _ _ _ _ _ _ _ hsv) d_Srv_hearRequest_80 ml_Srv_65 mv_Srv_write (by assumption) ⟨rfl, rfl⟩ rfl rfl (Nat.le_of_ble_eq_true rfl) (hR_of hX (by decide) (by decide)) (hf_of hX (by decide) (by decide)) ?_
    rintro _ _ _ _ ⟨rfl, rfl, rfl, rfl⟩
    refine j_aload_n h d_Srv_hearRequest_83 rfl ?_
    refine j_get0 h d_Srv_hearRequest_84 fl_Srv_33 rfl (by assumption) ?_
    refine j_if_eq (tgt := 98) h d_Srv_hearRequest_87 (by decide) (fun c1 => ?_) (fun c1 => ?_)
    · exact j_vret hX d_Srv_hearRequest_98 rfl (Nat.le_refl _) (Nat.le_refl _) ⟨rfl, rfl, rfl, _, by rw [fA, if_neg (nI_m1 (by omega))], by first | (rw [fN, fA, if_neg (nI_m1 (by omega)), if_pos (by assumption)]; exact hnc) | (rw [fN, fA, if_neg (nI_m1 (by omega)), if_neg (by assumption), if_neg (nI_m1 (by omega)), nI_clamp (by omega)]; exact hn2)⟩
    · refine j_aload_n h d_Srv_hearRequest_90 rfl ?_
      refine j_aload_n h d_Srv_hearRequest_91 rfl ?_
      refine j_iload h d_Srv_hearRequest_92 rfl ?_
      refine j_aload_n h d_Srv_hearRequest_94 rfl ?_
      refine j_callV h (c_Srv_answer_yes _ _ _ _ _ _ _ _ _ cs _ hs _ _ _ _ _ hnc _ hq _ hcm hoff _ ha) d_Srv_hearRequest_95 ml_Srv_99 mv_Srv_answer (by assumption) ⟨rfl, rfl⟩ rfl rfl (Nat.le_of_ble_eq_true rfl) (hR_of hX (by decide) (by decide)) (hf_of hX (by decide) (by decide)) ?_
      rintro _ _ _ _ ⟨rfl, rfl, rfl, B2, rfl, hn2⟩
      exact j_vret hX d_Srv_hearRequest_98 rfl (Nat.le_refl _) (Nat.le_refl _) ⟨rfl, rfl, rfl, _, by rw [fA, if_neg (nI_m1 (by omega))], by first | (rw [fN, fA, if_neg (nI_m1 (by omega)), if_pos (by assumption)]; exact hnc) | (rw [fN, fA, if_neg (nI_m1 (by omega)), if_neg (by assumption), if_neg (nI_m1 (by omega)), nI_clamp (by omega)]; exact hn2)⟩
set_option maxRecDepth 100000 in
set_option maxHeartbeats 4000000 in
theorem c_Srv_hearRequest_new (l : Launch) (K : Kx) (V : Vx) (A B C D : MI) (P : MP) (n : Nat) (cs : CS K V P n) (s : Nat) (hs : s < 2) (ld sk : Int32) (N T : List Msg) (U : Msg) (hnc : NC K P B ld sk N T U) (q : Nat) (hq : V.1 5 q) (x : Msg) (hcm : CM B q x) (hoff : offR K P q) (t : Int32) (hk : x 3 = 0) : Ct l K md_Srv_hearRequest (5, 71) 0 0 [.ref (K.ad 1 s), .ref (K.ad 5 q), .int t, .ref (K.ad 4 0)] V (bk4 A B C D) P (NP K V C D P ld sk none (hnwA A s n ld t x) (hnwN A s n ld t x N) T U) := by
  refine ct_of [(0, .ref (K.ad 1 s)), (1, .ref (K.ad 5 q)), (2, .int t), (3, .ref (K.ad 4 0))] (by decide) (Nat.le_of_ble_eq_true rfl) (ca_r (ca_r (ca_i (ca_r ca_n)))) rfl ?_
  intro X hl hX
  have h : OkX X b_Srv_hearRequest R_Srv K := hX.1
  have hN : X.nL = 6 := hX.2.1
  have hsv := cs_sv cs hs
  have kb := hnc.1
  have hn31 := cs_n31 cs
  refine j_aload_n h d_Srv_hearRequest_0 rfl ?_
  refine j_get1e (v := x 3) h d_Srv_hearRequest_1 fl_Srv_74 rfl (by assumption) (hcm.1 3 (by decide)) ?_
  refine j_iconst (v := 2) h d_Srv_hearRequest_4 (by decide) ?_
  refine j_ic_ne (tgt := 14) h d_Srv_hearRequest_5 (by decide) (fun _ => ?_) (fun z => absurd (hk.symm.trans z) (by decide))
  refine j_aload_n h d_Srv_hearRequest_14 rfl ?_
  refine j_get1e (v := x 3) h d_Srv_hearRequest_15 fl_Srv_74 rfl (by assumption) (hcm.1 3 (by decide)) ?_
  refine j_iconst (v := 1) h d_Srv_hearRequest_18 (by decide) ?_
  refine j_ic_ne (tgt := 29) h d_Srv_hearRequest_19 (by decide) (fun _ => ?_) (fun z => absurd (hk.symm.trans z) (by decide))
  refine j_aload_n h d_Srv_hearRequest_29 rfl ?_
  refine j_aload_n h d_Srv_hearRequest_30 rfl ?_
  refine j_get1e (v := x 2) h d_Srv_hearRequest_31 fl_Srv_84 rfl (by assumption) (hcm.1 2 (by decide)) ?_
  refine j_iload_n h d_Srv_hearRequest_34 rfl ?_
  refine j_callV h (c_Srv_leasedTo _ _ _ _ _ _ _ _ _ cs _ hs _ _) d_Srv_hearRequest_35 ml_Srv_87 mv_Srv_leasedTo (by assumption) ⟨rfl, rfl⟩ rfl rfl (Nat.le_of_ble_eq_true rfl) (hR_of hX (by decide) (by decide)) (hf_of hX (by decide) (by decide)) ?_
  rintro _ _ _ _ ⟨rfl, rfl, rfl, rfl⟩
  rcases lsdTo_c A s (x 2) t n 0 with e | ⟨a, ha, e⟩
  · rw [show hnwA A s n ld t x = fA (lnwA A s n ld t (x 2) (x 6) (x 5)) s (lstOwn A s n 0) by unfold hnwA; rw [if_pos e], show hnwN A s n ld t x N = fN (lnwA A s n ld t (x 2) (x 6) (x 5)) s (lstOwn A s n 0) (x 2) (x 5) N by unfold hnwN; rw [if_pos e]] at hX
    rw [e]
    refine j_istore h d_Srv_hearRequest_38 (Nat.lt_of_lt_of_eq (m := 6) (by decide) hN.symm) ?_
    refine j_iload h d_Srv_hearRequest_40 rfl ?_
    refine j_iconst (v := -1) h d_Srv_hearRequest_42 (by decide) ?_
    refine j_ic_ne (tgt := 55) h d_Srv_hearRequest_43 (by decide) (fun z => absurd rfl z) (fun _ => ?_)
    refine j_aload_n h d_Srv_hearRequest_46 rfl ?_
    refine j_aload_n h d_Srv_hearRequest_47 rfl ?_
    refine j_iload_n h d_Srv_hearRequest_48 rfl ?_
    refine j_callV h (c_Srv_leaseNew _ _ _ _ _ _ _ _ _ cs _ hs _ _ kb _ hq _ hcm _) d_Srv_hearRequest_49 ml_Srv_91 mv_Srv_leaseNew (by assumption) ⟨rfl, rfl⟩ rfl rfl (Nat.le_of_ble_eq_true rfl) (hR_of hX (by decide) (by decide)) (hf_of hX (by decide) (by decide)) ?_
    rintro _ _ _ _ ⟨rfl, rfl, rfl, rfl⟩
    refine j_goto (tgt := 63) h d_Srv_hearRequest_52 (by decide) ?_
    rcases lstOwn_c A s n 0 with e1 | ⟨a, ha, e1, -⟩
    · rw [e1] at hX ⊢
      refine j_istore h d_Srv_hearRequest_63 (Nat.lt_of_lt_of_eq (m := 6) (by decide) hN.symm) ?_
      refine j_iload h d_Srv_hearRequest_65 rfl ?_
      refine j_bipush (v := -2) h d_Srv_hearRequest_67 (by decide) ?_
      refine j_ic_ne (tgt := 73) h d_Srv_hearRequest_69 (by decide) (fun _ => ?_) (fun z => absurd z (by decide))
      refine j_iload h d_Srv_hearRequest_73 rfl ?_
      refine j_iconst (v := -1) h d_Srv_hearRequest_75 (by decide) ?_
      refine j_ic_eq (tgt := 83) h d_Srv_hearRequest_76 (by decide) (fun _ => ?_) (fun z => absurd rfl z)
      refine j_aload_n h d_Srv_hearRequest_83 rfl ?_
      refine j_get0 h d_Srv_hearRequest_84 fl_Srv_33 rfl (by assumption) ?_
      refine j_if_eq (tgt := 98) h d_Srv_hearRequest_87 (by decide) (fun c1 => ?_) (fun c1 => ?_)
      · exact j_vret hX d_Srv_hearRequest_98 rfl (Nat.le_refl _) (Nat.le_refl _) ⟨rfl, rfl, rfl, _, by rw [fA, if_pos rfl], by first | (rw [fN, fA, if_pos rfl, if_pos (by assumption)]; exact hnc) | (rw [fN, fA, if_pos rfl, if_neg (by assumption), if_pos rfl]; exact hn2)⟩
      · refine j_aload_n h d_Srv_hearRequest_90 rfl ?_
        refine j_aload_n h d_Srv_hearRequest_91 rfl ?_
        refine j_iload h d_Srv_hearRequest_92 rfl ?_
        refine j_aload_n h d_Srv_hearRequest_94 rfl ?_
        refine j_callV h (c_Srv_answer_no _ _ _ _ _ _ _ _ _ cs _ hs _ _ _ _ _ hnc _ hq _ hcm hoff) d_Srv_hearRequest_95 ml_Srv_99 mv_Srv_answer (by assumption) ⟨rfl, rfl⟩ rfl rfl (Nat.le_of_ble_eq_true rfl) (hR_of hX (by decide) (by decide)) (hf_of hX (by decide) (by decide)) ?_
        rintro _ _ _ _ ⟨rfl, rfl, rfl, B2, rfl, hn2⟩
        exact j_vret hX d_Srv_hearRequest_98 rfl (Nat.le_refl _) (Nat.le_refl _) ⟨rfl, rfl, rfl, _, by rw [fA, if_pos rfl], by first | (rw [fN, fA, if_pos rfl, if_pos (by assumption)]; exact hnc) | (rw [fN, fA, if_pos rfl, if_neg (by assumption), if_pos rfl]; exact hn2)⟩
    · have ha : a < n := by omega
      rw [e1] at hX ⊢
      refine j_istore h d_Srv_hearRequest_63 (Nat.lt_of_lt_of_eq (m := 6) (by decide) hN.symm) ?_
      refine j_iload h d_Srv_hearRequest_65 rfl ?_
      refine j_bipush (v := -2) h d_Srv_hearRequest_67 (by decide) ?_
      refine j_ic_ne (tgt := 73) h d_Srv_hearRequest_69 (by decide) (fun _ => ?_) (fun z => absurd z (nI_m2 (by omega)))
      refine j_iload h d_Srv_hearRequest_73 rfl ?_
      refine j_iconst (v := -1) h d_Srv_hearRequest_75 (by decide) ?_
      refine j_ic_eq (tgt := 83) h d_Srv_hearRequest_76 (by decide) (fun z => absurd z (nI_m1 (by omega))) (fun _ => ?_)
      refine j_aload_n h d_Srv_hearRequest_79 rfl ?_
      refine j_callV h (c_Srv_write _ _ _ _ _ _ _ _ _ hsv) d_Srv_hearRequest_80 ml_Srv_65 mv_Srv_write (by assumption) ⟨rfl, rfl⟩ rfl rfl (Nat.le_of_ble_eq_true rfl) (hR_of hX (by decide) (by decide)) (hf_of hX (by decide) (by decide)) ?_
      rintro _ _ _ _ ⟨rfl, rfl, rfl, rfl⟩
      refine j_aload_n h d_Srv_hearRequest_83 rfl ?_
      refine j_get0 h d_Srv_hearRequest_84 fl_Srv_33 rfl (by assumption) ?_
      refine j_if_eq (tgt := 98) h d_Srv_hearRequest_87 (by decide) (fun c1 => ?_) (fun c1 => ?_)
      · exact j_vret hX d_Srv_hearRequest_98 rfl (Nat.le_refl _) (Nat.le_refl _) ⟨rfl, rfl, rfl, _, by rw [fA, if_neg (nI_m1 (by omega))], by first | (rw [fN, fA, if_neg (nI_m1 (by omega)), if_pos (by assumption)]; exact hnc) | (rw [fN, fA, if_neg (nI_m1 (by omega)), if_neg (by assumption), if_neg (nI_m1 (by omega)), nI_clamp (by omega)]; exact hn2)⟩
      · refine j_aload_n h d_Srv_hearRequest_90 rfl ?_
        refine j_aload_n h d_Srv_hearRequest_91 rfl ?_
        refine j_iload h d_Srv_hearRequest_92 rfl ?_
        refine j_aload_n h d_Srv_hearRequest_94 rfl ?_
        refine j_callV h (c_Srv_answer_yes _ _ _ _ _ _ _ _ _ cs _ hs _ _ _ _ _ hnc _ hq _ hcm hoff _ ha) d_Srv_hearRequest_95 ml_Srv_99 mv_Srv_answer (by assumption) ⟨rfl, rfl⟩ rfl rfl (Nat.le_of_ble_eq_true rfl) (hR_of hX (by decide) (by decide)) (hf_of hX (by decide) (by decide)) ?_
        rintro _ _ _ _ ⟨rfl, rfl, rfl, B2, rfl, hn2⟩
        exact j_vret hX d_Srv_hearRequest_98 rfl (Nat.le_refl _) (Nat.le_refl _) ⟨rfl, rfl, rfl, _, by rw [fA, if_neg (nI_m1 (by omega))], by first | (rw [fN, fA, if_neg (nI_m1 (by omega)), if_pos (by assumption)]; exact hnc) | (rw [fN, fA, if_neg (nI_m1 (by omega)), if_neg (by assumption), if_neg (nI_m1 (by omega)), nI_clamp (by omega)]; exact hn2)⟩
  · have ha : a < n := by omega
    rw [show hnwA A s n ld t x = hrnA A s a ld t x by unfold hnwA; rw [e, if_neg (nI_m1 (by omega)), nI_clamp (by omega)], show hnwN A s n ld t x N = hrnN A s a ld t x N by unfold hnwN; rw [e, if_neg (nI_m1 (by omega)), nI_clamp (by omega)]] at hX
    rw [e]
    refine j_istore h d_Srv_hearRequest_38 (Nat.lt_of_lt_of_eq (m := 6) (by decide) hN.symm) ?_
    refine j_iload h d_Srv_hearRequest_40 rfl ?_
    refine j_iconst (v := -1) h d_Srv_hearRequest_42 (by decide) ?_
    refine j_ic_ne (tgt := 55) h d_Srv_hearRequest_43 (by decide) (fun _ => ?_) (fun z => absurd z (nI_m1 (by omega)))
    refine j_aload_n h d_Srv_hearRequest_55 rfl ?_
    refine j_aload_n h d_Srv_hearRequest_56 rfl ?_
    refine j_iload h d_Srv_hearRequest_57 rfl ?_
    refine j_iload_n h d_Srv_hearRequest_59 rfl ?_
    refine j_callV h (c_Srv_renew_x _ _ _ _ _ _ _ _ _ cs _ hs _ hq _ ha _ _ _ _ hcm kb) d_Srv_hearRequest_60 ml_Srv_95 mv_Srv_renew (by assumption) ⟨rfl, rfl⟩ rfl rfl (Nat.le_of_ble_eq_true rfl) (hR_of hX (by decide) (by decide)) (hf_of hX (by decide) (by decide)) ?_
    rintro _ _ _ _ ⟨rfl, rfl, rfl, rfl⟩
    rcases rnw_c A (32 * s + a) s a ld t (x 2) (x 6) (x 5) with e | e | e
    · have e1 : (rnw A (32 * s + a) s a ld t (x 2) (x 6) (x 5)).1 = -1 := by rw [e]
      have e2 : (rnw A (32 * s + a) s a ld t (x 2) (x 6) (x 5)).2 = A := by rw [e]
      rw [show hrnA A s a ld t x = fA A s (-1) by unfold hrnA; rw [e1, e2, if_neg (by decide)], show hrnN A s a ld t x N = fN A s (-1) (x 2) (x 5) N by unfold hrnN; rw [e1, e2, if_neg (by decide)]] at hX
      rw [e1, e2]
      refine j_istore h d_Srv_hearRequest_63 (Nat.lt_of_lt_of_eq (m := 6) (by decide) hN.symm) ?_
      refine j_iload h d_Srv_hearRequest_65 rfl ?_
      refine j_bipush (v := -2) h d_Srv_hearRequest_67 (by decide) ?_
      refine j_ic_ne (tgt := 73) h d_Srv_hearRequest_69 (by decide) (fun _ => ?_) (fun z => absurd z (by decide))
      refine j_iload h d_Srv_hearRequest_73 rfl ?_
      refine j_iconst (v := -1) h d_Srv_hearRequest_75 (by decide) ?_
      refine j_ic_eq (tgt := 83) h d_Srv_hearRequest_76 (by decide) (fun _ => ?_) (fun z => absurd rfl z)
      refine j_aload_n h d_Srv_hearRequest_83 rfl ?_
      refine j_get0 h d_Srv_hearRequest_84 fl_Srv_33 rfl (by assumption) ?_
      refine j_if_eq (tgt := 98) h d_Srv_hearRequest_87 (by decide) (fun c1 => ?_) (fun c1 => ?_)
      · exact j_vret hX d_Srv_hearRequest_98 rfl (Nat.le_refl _) (Nat.le_refl _) ⟨rfl, rfl, rfl, _, by rw [fA, if_pos rfl], by first | (rw [fN, fA, if_pos rfl, if_pos (by assumption)]; exact hnc) | (rw [fN, fA, if_pos rfl, if_neg (by assumption), if_pos rfl]; exact hn2)⟩
      · refine j_aload_n h d_Srv_hearRequest_90 rfl ?_
        refine j_aload_n h d_Srv_hearRequest_91 rfl ?_
        refine j_iload h d_Srv_hearRequest_92 rfl ?_
        refine j_aload_n h d_Srv_hearRequest_94 rfl ?_
        refine j_callV h (c_Srv_answer_no _ _ _ _ _ _ _ _ _ cs _ hs _ _ _ _ _ hnc _ hq _ hcm hoff) d_Srv_hearRequest_95 ml_Srv_99 mv_Srv_answer (by assumption) ⟨rfl, rfl⟩ rfl rfl (Nat.le_of_ble_eq_true rfl) (hR_of hX (by decide) (by decide)) (hf_of hX (by decide) (by decide)) ?_
        rintro _ _ _ _ ⟨rfl, rfl, rfl, B2, rfl, hn2⟩
        exact j_vret hX d_Srv_hearRequest_98 rfl (Nat.le_refl _) (Nat.le_refl _) ⟨rfl, rfl, rfl, _, by rw [fA, if_pos rfl], by first | (rw [fN, fA, if_pos rfl, if_pos (by assumption)]; exact hnc) | (rw [fN, fA, if_pos rfl, if_neg (by assumption), if_pos rfl]; exact hn2)⟩
    · have e1 : (rnw A (32 * s + a) s a ld t (x 2) (x 6) (x 5)).1 = -2 := by rw [e]
      have e2 : (rnw A (32 * s + a) s a ld t (x 2) (x 6) (x 5)).2 = A := by rw [e]
      rw [show hrnA A s a ld t x = A by unfold hrnA; rw [e1, if_pos rfl], show hrnN A s a ld t x N = N by unfold hrnN; rw [e1, if_pos rfl]] at hX
      rw [e1, e2]
      refine j_istore h d_Srv_hearRequest_63 (Nat.lt_of_lt_of_eq (m := 6) (by decide) hN.symm) ?_
      refine j_iload h d_Srv_hearRequest_65 rfl ?_
      refine j_bipush (v := -2) h d_Srv_hearRequest_67 (by decide) ?_
      refine j_ic_ne (tgt := 73) h d_Srv_hearRequest_69 (by decide) (fun z => absurd rfl z) (fun _ => ?_)
      exact j_vret hX d_Srv_hearRequest_72 rfl (Nat.le_refl _) (Nat.le_refl _) ⟨rfl, rfl, rfl, _, rfl, hnc⟩
    · rw [show hrnA A s a ld t x = fA (rnw A (32 * s + a) s a ld t (x 2) (x 6) (x 5)).2 s (nI a) by unfold hrnA; rw [e, if_neg (nI_m2 (by omega))], show hrnN A s a ld t x N = fN (rnw A (32 * s + a) s a ld t (x 2) (x 6) (x 5)).2 s (nI a) (x 2) (x 5) N by unfold hrnN; rw [e, if_neg (nI_m2 (by omega))]] at hX
      rw [e]
      refine j_istore h d_Srv_hearRequest_63 (Nat.lt_of_lt_of_eq (m := 6) (by decide) hN.symm) ?_
      refine j_iload h d_Srv_hearRequest_65 rfl ?_
      refine j_bipush (v := -2) h d_Srv_hearRequest_67 (by decide) ?_
      refine j_ic_ne (tgt := 73) h d_Srv_hearRequest_69 (by decide) (fun _ => ?_) (fun z => absurd z (nI_m2 (by omega)))
      refine j_iload h d_Srv_hearRequest_73 rfl ?_
      refine j_iconst (v := -1) h d_Srv_hearRequest_75 (by decide) ?_
      refine j_ic_eq (tgt := 83) h d_Srv_hearRequest_76 (by decide) (fun z => absurd z (nI_m1 (by omega))) (fun _ => ?_)
      refine j_aload_n h d_Srv_hearRequest_79 rfl ?_
      refine j_callV h (c_Srv_write _ _ _ _ _ _ _ _ _ hsv) d_Srv_hearRequest_80 ml_Srv_65 mv_Srv_write (by assumption) ⟨rfl, rfl⟩ rfl rfl (Nat.le_of_ble_eq_true rfl) (hR_of hX (by decide) (by decide)) (hf_of hX (by decide) (by decide)) ?_
      rintro _ _ _ _ ⟨rfl, rfl, rfl, rfl⟩
      refine j_aload_n h d_Srv_hearRequest_83 rfl ?_
      refine j_get0 h d_Srv_hearRequest_84 fl_Srv_33 rfl (by assumption) ?_
      refine j_if_eq (tgt := 98) h d_Srv_hearRequest_87 (by decide) (fun c1 => ?_) (fun c1 => ?_)
      · exact j_vret hX d_Srv_hearRequest_98 rfl (Nat.le_refl _) (Nat.le_refl _) ⟨rfl, rfl, rfl, _, by rw [fA, if_neg (nI_m1 (by omega))], by first | (rw [fN, fA, if_neg (nI_m1 (by omega)), if_pos (by assumption)]; exact hnc) | (rw [fN, fA, if_neg (nI_m1 (by omega)), if_neg (by assumption), if_neg (nI_m1 (by omega)), nI_clamp (by omega)]; exact hn2)⟩
      · refine j_aload_n h d_Srv_hearRequest_90 rfl ?_
        refine j_aload_n h d_Srv_hearRequest_91 rfl ?_
        refine j_iload h d_Srv_hearRequest_92 rfl ?_
        refine j_aload_n h d_Srv_hearRequest_94 rfl ?_
        refine j_callV h (c_Srv_answer_yes _ _ _ _ _ _ _ _ _ cs _ hs _ _ _ _ _ hnc _ hq _ hcm hoff _ ha) d_Srv_hearRequest_95 ml_Srv_99 mv_Srv_answer (by assumption) ⟨rfl, rfl⟩ rfl rfl (Nat.le_of_ble_eq_true rfl) (hR_of hX (by decide) (by decide)) (hf_of hX (by decide) (by decide)) ?_
        rintro _ _ _ _ ⟨rfl, rfl, rfl, B2, rfl, hn2⟩
        exact j_vret hX d_Srv_hearRequest_98 rfl (Nat.le_refl _) (Nat.le_refl _) ⟨rfl, rfl, rfl, _, by rw [fA, if_neg (nI_m1 (by omega))], by first | (rw [fN, fA, if_neg (nI_m1 (by omega)), if_pos (by assumption)]; exact hnc) | (rw [fN, fA, if_neg (nI_m1 (by omega)), if_neg (by assumption), if_neg (nI_m1 (by omega)), nI_clamp (by omega)]; exact hn2)⟩
end
section
/-! LeasePair: delivering a message -/
theorem cs_lv {K : Kx} {V : Vx} {P : MP} {n : Nat} (c : CS K V P n) : V.1 0 0 := c.1.2.1
theorem cs_p0 {K : Kx} {V : Vx} {P : MP} {n : Nat} (c : CS K V P n) : P 0 0 = some (K.aad 0) := c.2.2.1
theorem cs_p1 {K : Kx} {V : Vx} {P : MP} {n : Nat} (c : CS K V P n) : P 1 0 = some (K.aad 1) := c.2.2.2.1
theorem cs_p2 {K : Kx} {V : Vx} {P : MP} {n : Nat} (c : CS K V P n) : P 2 0 = some (K.ad 4 0) := c.2.2.2.2.1
theorem cs_p3 {K : Kx} {V : Vx} {P : MP} {n : Nat} (c : CS K V P n) : P 3 0 = some (K.ad 5 600) := c.2.2.2.2.2.1
theorem cs_sp {K : Kx} {V : Vx} {P : MP} {n : Nat} (c : CS K V P n) {s : Nat} (h : s < 2) : P 10 s = some (K.ad 1 s) := c.2.2.2.2.2.2.2.1 s h
theorem cs_cp {K : Kx} {V : Vx} {P : MP} {n : Nat} (c : CS K V P n) {s : Nat} (h : s < 16) : P 11 s = some (K.ad 3 s) := c.2.2.2.2.2.2.2.2.1 s h
section JL
variable {X : Jx} {cc : ByteArray} {own : String} {K : Kx} {V : Vx} {I : MI3} {P : MP} {cells slots pc : Nat} {lv : List (Nat × Value)} {st : List Value} {n : Nat}
theorem j_srvs (h : OkX X cc own K) (cs : CS K V P n) {s : Nat} (hs : s < 2) (d : decode cc pc = .ok (.aaload, 1)) (kk : J X K V I P cells slots (pc + 1) lv (.ref (K.ad 1 s) :: st)) : J X K V I P cells slots pc lv (.int (nI s) :: .ref (K.aad 0) :: st) :=
  j_aald (a := 0) (b := 9) (col := 10) (C := "LeasePair$Server") h d rfl ⟨rfl, by decide⟩ (cs_av cs (by omega)) rfl (by rw [cs.2.1.2.1]; exact hs) (by rw [cs.2.1.2.1]; decide) (cs_sp cs hs) kk
theorem j_clis (h : OkX X cc own K) (cs : CS K V P n) {s : Nat} (hs : s < 16) (d : decode cc pc = .ok (.aaload, 1)) (kk : J X K V I P cells slots (pc + 1) lv (.ref (K.ad 3 s) :: st)) : J X K V I P cells slots pc lv (.int (nI s) :: .ref (K.aad 1) :: st) :=
  j_aald (a := 1) (b := 9) (col := 11) (C := "LeasePair$Client") h d rfl ⟨rfl, by decide⟩ (cs_av cs (by omega)) rfl (by rw [cs.2.1.2.2.1]; exact hs) (by rw [cs.2.1.2.2.1]; decide) (cs_cp cs hs) kk
end JL
def hld (A : MI) (c : Nat) : Prop := ¬ A 30 c = -1 ∧ A 40 0 < A 31 c - A 44 0
def cntR (A : MI) (a : Int32) : Nat → Nat → Int32 → Int32
  | 0, _, g => g
  | k + 1, i, g => cntR A a k (i + 1) (if A 30 i = a ∧ ¬ A 30 i = -1 ∧ A 40 0 < A 31 i - A 44 0 then g + 1 else g)
def clk (A : MI) (s : Nat) : Int32 := A 40 0 + A 1 s
def anA (A : MI) (c : Nat) (x : Msg) : MI := if (x 5 = A 32 c ∧ ¬ A 33 c = 2) ∧ x 3 = 1 then up (up (up A 30 c (x 4)) 31 c (x 6)) 41 0 (gr (A 41 0) (cntR (up (up A 30 c (x 4)) 31 c (x 6)) (x 4) 16 0 0)) else A
def hrs (A : MI) (s : Nat) (ty : Int32) : Int32 := b01 ((ty = 0 ∧ (A 0 s = 2 ∨ A 0 s = 3)) ∨ (¬ ty = 0 ∧ ¬ A 0 s = 0))
/-- what delivering x answers and does -/
def dlR (A : MI) (x : Msg) : Int32 := if x 0 = 1 then b01 (x 5 = A 32 (x 1).toNatClampNeg ∧ ¬ A 33 (x 1).toNatClampNeg = 2) else hrs A (x 1).toNatClampNeg (x 0)
noncomputable def dlA (A : MI) (n : Nat) (ld : Int32) (x : Msg) : MI :=
  if x 0 = 1 then anA A (x 1).toNatClampNeg x
  else if hrs A (x 1).toNatClampNeg (x 0) = 0 then A
  else if x 0 = 0 then (if x 3 = 2 then hrRel A (32 * (x 1).toNatClampNeg + (x 4).toNatClampNeg) (x 1).toNatClampNeg (x 2) (x 5) else if x 3 = 1 then hrnA A (x 1).toNatClampNeg (x 4).toNatClampNeg ld (clk A (x 1).toNatClampNeg) x else hnwA A (x 1).toNatClampNeg n ld (clk A (x 1).toNatClampNeg) x)
  else if x 0 = 2 then hhA A (x 1).toNatClampNeg n (x 5)
  else if x 0 = 3 then hupA A (32 * (x 1).toNatClampNeg + (x 4).toNatClampNeg) (x 1).toNatClampNeg n (clk A (x 1).toNatClampNeg) x
  else hrAck A (32 * (x 1).toNatClampNeg + (x 4).toNatClampNeg) (x 1).toNatClampNeg (x 5) (x 6) (x 7) (x 8)
noncomputable def dlN (A : MI) (n : Nat) (ld : Int32) (x : Msg) (N : List Msg) : List Msg :=
  if x 0 = 1 then N
  else if hrs A (x 1).toNatClampNeg (x 0) = 0 then N
  else if x 0 = 0 then (if x 3 = 2 then N else if x 3 = 1 then hrnN A (x 1).toNatClampNeg (x 4).toNatClampNeg ld (clk A (x 1).toNatClampNeg) x N else hnwN A (x 1).toNatClampNeg n ld (clk A (x 1).toNatClampNeg) x N)
  else if x 0 = 2 then hhN A (x 1).toNatClampNeg n (x 5) N
  else if x 0 = 3 then hupN A (x 1).toNatClampNeg (x 4).toNatClampNeg n (clk A (x 1).toNatClampNeg) x N
  else N
/-- a message that somebody may have sent -/
def VMsg (n : Nat) (x : Msg) : Prop :=
  (x 0 = 0 ∧ ∃ s c, s < 2 ∧ c < 16 ∧ x 1 = nI s ∧ x 2 = nI c ∧ (x 3 = 0 ∨ ((x 3 = 1 ∨ x 3 = 2) ∧ ∃ a, a < n ∧ x 4 = nI a))) ∨
  (x 0 = 1 ∧ ∃ c, c < 16 ∧ x 1 = nI c ∧ (x 3 = 0 ∨ (x 3 = 1 ∧ ∃ a, a < n ∧ x 4 = nI a))) ∨
  (x 0 = 2 ∧ ∃ s, s < 2 ∧ x 1 = nI s) ∨
  ((x 0 = 3 ∨ x 0 = 4) ∧ ∃ s a, s < 2 ∧ a < n ∧ x 1 = nI s ∧ x 4 = nI a ∧ (x 11 = 0 ∨ x 11 = 1))
theorem d_LP_isWithin_0 : decode b_LP_isWithin 0 = .ok (.iload_n 0, 1) := by decide +kernel
theorem d_LP_isWithin_1 : decode b_LP_isWithin 1 = .ok (.iload_n 1, 1) := by decide +kernel
theorem d_LP_isWithin_2 : decode b_LP_isWithin 2 = .ok (.if_icmp .lt 12, 3) := by decide +kernel
theorem d_LP_isWithin_5 : decode b_LP_isWithin 5 = .ok (.iload_n 0, 1) := by decide +kernel
theorem d_LP_isWithin_6 : decode b_LP_isWithin 6 = .ok (.iload_n 2, 1) := by decide +kernel
theorem d_LP_isWithin_7 : decode b_LP_isWithin 7 = .ok (.if_icmp .gt 7, 3) := by decide +kernel
theorem d_LP_isWithin_10 : decode b_LP_isWithin 10 = .ok (.iconst 1, 1) := by decide +kernel
theorem d_LP_isWithin_11 : decode b_LP_isWithin 11 = .ok (.goto 4, 3) := by decide +kernel
theorem d_LP_isWithin_14 : decode b_LP_isWithin 14 = .ok (.iconst 0, 1) := by decide +kernel
theorem d_LP_isWithin_15 : decode b_LP_isWithin 15 = .ok (.ireturn, 1) := by decide +kernel
set_option maxRecDepth 100000 in
set_option maxHeartbeats 4000000 in
theorem c_LP_isWithin (l : Launch) (K : Kx) (V : Vx) (A B C D : MI) (P : MP) (x a b : Int32) : Ct l K md_LP_isWithin (0, 0) 0 0 [.int x, .int a, .int b] V (bk4 A B C D) P (EQ V (some (.int (b01 (¬ x < a ∧ ¬ b < x)))) (bk4 A B C D) P) := by
  refine ct_of [(0, .int x), (1, .int a), (2, .int b)] (by decide) (Nat.le_of_ble_eq_true rfl) (ca_i (ca_i (ca_i ca_n))) rfl ?_
  intro X hl hX
  have h : OkX X b_LP_isWithin R_LP K := hX.1
  have hN : X.nL = 3 := hX.2.1
  refine j_iload_n h d_LP_isWithin_0 rfl ?_
  refine j_iload_n h d_LP_isWithin_1 rfl ?_
  refine j_ic_lt (tgt := 14) h d_LP_isWithin_2 (by decide) (fun c1 => ?_) (fun c1 => ?_)
  · refine j_iconst (v := 0) h d_LP_isWithin_14 (by decide) ?_
    exact j_zret hX d_LP_isWithin_15 rfl (by first | exact Or.inl rfl | exact Or.inr rfl | exact b01_z _ | assumption) (Nat.le_refl _) (Nat.le_refl _) ⟨rfl, by clear hX h hl; first | rfl | (simp_all [b01]; done) | grind [b01], by clear hX h hl; first | rfl | (simp_all [b01, up_rd]; done) | grind [b01, up_rd, chgTo_rd, chg_rd, settle_rd, bnd_rd], rfl⟩
  · refine j_iload_n h d_LP_isWithin_5 rfl ?_
    refine j_iload_n h d_LP_isWithin_6 rfl ?_
    refine j_ic_gt (tgt := 14) h d_LP_isWithin_7 (by decide) (fun c2 => ?_) (fun c2 => ?_)
    · refine j_iconst (v := 0) h d_LP_isWithin_14 (by decide) ?_
      exact j_zret hX d_LP_isWithin_15 rfl (by first | exact Or.inl rfl | exact Or.inr rfl | exact b01_z _ | assumption) (Nat.le_refl _) (Nat.le_refl _) ⟨rfl, by clear hX h hl; first | rfl | (simp_all [b01]; done) | grind [b01], by clear hX h hl; first | rfl | (simp_all [b01, up_rd]; done) | grind [b01, up_rd, chgTo_rd, chg_rd, settle_rd, bnd_rd], rfl⟩
    · refine j_iconst (v := 1) h d_LP_isWithin_10 (by decide) ?_
      refine j_goto (tgt := 15) h d_LP_isWithin_11 (by decide) ?_
      exact j_zret hX d_LP_isWithin_15 rfl (by first | exact Or.inl rfl | exact Or.inr rfl | exact b01_z _ | assumption) (Nat.le_refl _) (Nat.le_refl _) ⟨rfl, by clear hX h hl; first | rfl | (simp_all [b01]; done) | grind [b01], by clear hX h hl; first | rfl | (simp_all [b01, up_rd]; done) | grind [b01, up_rd, chgTo_rd, chg_rd, settle_rd, bnd_rd], rfl⟩
theorem d_LP_within_0 : decode b_LP_within 0 = .ok (.iload_n 0, 1) := by decide +kernel
theorem d_LP_within_1 : decode b_LP_within 1 = .ok (.iload_n 1, 1) := by decide +kernel
theorem d_LP_within_2 : decode b_LP_within 2 = .ok (.invokestatic 191, 3) := by decide +kernel
theorem d_LP_within_5 : decode b_LP_within 5 = .ok (.iload_n 2, 1) := by decide +kernel
theorem d_LP_within_6 : decode b_LP_within 6 = .ok (.invokestatic 196, 3) := by decide +kernel
theorem d_LP_within_9 : decode b_LP_within 9 = .ok (.ireturn, 1) := by decide +kernel
set_option maxRecDepth 100000 in
set_option maxHeartbeats 4000000 in
theorem c_LP_within (l : Launch) (K : Kx) (V : Vx) (A B C D : MI) (P : MP) (x a b : Int32) : Ct l K md_LP_within (1, 20) 0 0 [.int x, .int a, .int b] V (bk4 A B C D) P (EQ V (some (.int (ls_ (gr x a) b))) (bk4 A B C D) P) := by
  refine ct_of [(0, .int x), (1, .int a), (2, .int b)] (by decide) (Nat.le_of_ble_eq_true rfl) (ca_i (ca_i (ca_i ca_n))) rfl ?_
  intro X hl hX
  have h : OkX X b_LP_within R_LP K := hX.1
  have hN : X.nL = 3 := hX.2.1
  refine j_iload_n h d_LP_within_0 rfl ?_
  refine j_iload_n h d_LP_within_1 rfl ?_
  refine j_mmax h d_LP_within_2 wm_LP_191 (hM_of hX (by decide) (Nat.le_of_ble_eq_true rfl)) (hf_of (mc' := 0) (ms' := 0) hX (by decide) (by decide)) ?_
  refine j_iload_n h d_LP_within_5 rfl ?_
  refine j_mmin h d_LP_within_6 wm_LP_196 (hM_of hX (by decide) (Nat.le_of_ble_eq_true rfl)) (hf_of (mc' := 0) (ms' := 0) hX (by decide) (by decide)) ?_
  exact j_iret hX d_LP_within_9 rfl (Nat.le_refl _) (Nat.le_refl _) ⟨rfl, rfl, rfl, rfl⟩
theorem d_LP_clockOf_0 : decode b_LP_clockOf 0 = .ok (.aload_n 0, 1) := by decide +kernel
theorem d_LP_clockOf_1 : decode b_LP_clockOf 1 = .ok (.getfield 56, 3) := by decide +kernel
theorem d_LP_clockOf_4 : decode b_LP_clockOf 4 = .ok (.aload_n 1, 1) := by decide +kernel
theorem d_LP_clockOf_5 : decode b_LP_clockOf 5 = .ok (.getfield 67, 3) := by decide +kernel
theorem d_LP_clockOf_8 : decode b_LP_clockOf 8 = .ok (.iadd, 1) := by decide +kernel
theorem d_LP_clockOf_9 : decode b_LP_clockOf 9 = .ok (.ireturn, 1) := by decide +kernel
set_option maxRecDepth 100000 in
set_option maxHeartbeats 4000000 in
theorem c_LP_clockOf (l : Launch) (K : Kx) (V : Vx) (A B C D : MI) (P : MP) (hv : V.1 0 0) (s : Nat) (hs : V.1 1 s) : Ct l K md_LP_clockOf (0, 0) 0 0 [.ref (K.ad 0 0), .ref (K.ad 1 s)] V (bk4 A B C D) P (EQ V (some (.int (clk A s))) (bk4 A B C D) P) := by
  refine ct_of [(0, .ref (K.ad 0 0)), (1, .ref (K.ad 1 s))] (by decide) (Nat.le_of_ble_eq_true rfl) (ca_r (ca_r ca_n)) rfl ?_
  intro X hl hX
  have h : OkX X b_LP_clockOf R_LP K := hX.1
  have hN : X.nL = 2 := hX.2.1
  refine j_aload_n h d_LP_clockOf_0 rfl ?_
  refine j_get0 h d_LP_clockOf_1 fl_LP_56 rfl (by assumption) ?_
  refine j_aload_n h d_LP_clockOf_4 rfl ?_
  refine j_get0 h d_LP_clockOf_5 fl_LP_67 rfl (by assumption) ?_
  refine j_iadd h d_LP_clockOf_8 ?_
  exact j_iret hX d_LP_clockOf_9 rfl (Nat.le_refl _) (Nat.le_refl _) ⟨rfl, rfl, rfl, rfl⟩
theorem d_LP_countHolders_0 : decode b_LP_countHolders 0 = .ok (.iconst 0, 1) := by decide +kernel
theorem d_LP_countHolders_1 : decode b_LP_countHolders 1 = .ok (.istore_n 2, 1) := by decide +kernel
theorem d_LP_countHolders_2 : decode b_LP_countHolders 2 = .ok (.iconst 0, 1) := by decide +kernel
theorem d_LP_countHolders_3 : decode b_LP_countHolders 3 = .ok (.istore_n 3, 1) := by decide +kernel
theorem d_LP_countHolders_4 : decode b_LP_countHolders 4 = .ok (.iload_n 3, 1) := by decide +kernel
theorem d_LP_countHolders_5 : decode b_LP_countHolders 5 = .ok (.bipush 16, 2) := by decide +kernel
theorem d_LP_countHolders_7 : decode b_LP_countHolders 7 = .ok (.if_icmp .ge 45, 3) := by decide +kernel
theorem d_LP_countHolders_10 : decode b_LP_countHolders 10 = .ok (.aload_n 0, 1) := by decide +kernel
theorem d_LP_countHolders_11 : decode b_LP_countHolders 11 = .ok (.getfield 31, 3) := by decide +kernel
theorem d_LP_countHolders_14 : decode b_LP_countHolders 14 = .ok (.iload_n 3, 1) := by decide +kernel
theorem d_LP_countHolders_15 : decode b_LP_countHolders 15 = .ok (.aaload, 1) := by decide +kernel
theorem d_LP_countHolders_16 : decode b_LP_countHolders 16 = .ok (.getfield 174, 3) := by decide +kernel
theorem d_LP_countHolders_19 : decode b_LP_countHolders 19 = .ok (.iload_n 1, 1) := by decide +kernel
theorem d_LP_countHolders_20 : decode b_LP_countHolders 20 = .ok (.if_icmp .ne 26, 3) := by decide +kernel
theorem d_LP_countHolders_23 : decode b_LP_countHolders 23 = .ok (.aload_n 0, 1) := by decide +kernel
theorem d_LP_countHolders_24 : decode b_LP_countHolders 24 = .ok (.getfield 31, 3) := by decide +kernel
theorem d_LP_countHolders_27 : decode b_LP_countHolders 27 = .ok (.iload_n 3, 1) := by decide +kernel
theorem d_LP_countHolders_28 : decode b_LP_countHolders 28 = .ok (.aaload, 1) := by decide +kernel
theorem d_LP_countHolders_29 : decode b_LP_countHolders 29 = .ok (.aload_n 0, 1) := by decide +kernel
theorem d_LP_countHolders_30 : decode b_LP_countHolders 30 = .ok (.getfield 56, 3) := by decide +kernel
theorem d_LP_countHolders_33 : decode b_LP_countHolders 33 = .ok (.aload_n 0, 1) := by decide +kernel
theorem d_LP_countHolders_34 : decode b_LP_countHolders 34 = .ok (.getfield 17, 3) := by decide +kernel
theorem d_LP_countHolders_37 : decode b_LP_countHolders 37 = .ok (.invokevirtual 170, 3) := by decide +kernel
theorem d_LP_countHolders_40 : decode b_LP_countHolders 40 = .ok (.ifCond .eq 6, 3) := by decide +kernel
theorem d_LP_countHolders_43 : decode b_LP_countHolders 43 = .ok (.iinc 2 1, 3) := by decide +kernel
theorem d_LP_countHolders_46 : decode b_LP_countHolders 46 = .ok (.iinc 3 1, 3) := by decide +kernel
theorem d_LP_countHolders_49 : decode b_LP_countHolders 49 = .ok (.goto (-45), 3) := by decide +kernel
theorem d_LP_countHolders_52 : decode b_LP_countHolders 52 = .ok (.iload_n 2, 1) := by decide +kernel
theorem d_LP_countHolders_53 : decode b_LP_countHolders 53 = .ok (.ireturn, 1) := by decide +kernel
set_option maxRecDepth 100000 in
set_option maxHeartbeats 4000000 in
theorem c_LP_countHolders (l : Launch) (K : Kx) (V : Vx) (A B C D : MI) (P : MP) (n : Nat) (cs : CS K V P n) (a : Int32) : Ct l K md_LP_countHolders (1, 22) 0 0 [.ref (K.ad 0 0), .int a] V (bk4 A B C D) P (EQ V (some (.int (cntR A a 16 0 0))) (bk4 A B C D) P) := by
  refine ct_of [(0, .ref (K.ad 0 0)), (1, .int a)] (by decide) (Nat.le_of_ble_eq_true rfl) (ca_r (ca_i ca_n)) rfl ?_
  intro X hl hX
  have h : OkX X b_LP_countHolders R_LP K := hX.1
  have hN : X.nL = 4 := hX.2.1
  have hlv := cs_lv cs
  have hL : ∀ (k i : Nat) (g : Int32), i + k = 16 → cntR A a 16 0 0 = cntR A a k i g → J X K V (bk4 A B C D) P 0 0 4 [(0, .ref (K.ad 0 0)), (1, .int a), (2, .int g), (3, .int (nI i))] [] := by
    intro k
    induction k with
    | zero =>
      intro i g hi hv
      have hi2 : i = 16 := by omega
      subst hi2
      refine j_iload_n h d_LP_countHolders_4 rfl ?_
      refine j_bipush (v := 16) h d_LP_countHolders_5 (by decide) ?_
      refine j_ic_ge (tgt := 52) h d_LP_countHolders_7 (by decide) (fun _ => ?_) (fun c => absurd (nI_le (Nat.le_refl _) (by decide)) c)
      refine j_iload_n h d_LP_countHolders_52 rfl ?_
      exact j_iret hX d_LP_countHolders_53 rfl (Nat.le_refl _) (Nat.le_refl _) ⟨rfl, by rw [hv]; rfl, rfl, rfl⟩
    | succ k ih =>
      intro i g hi hv
      have hi2 : i < 16 := by omega
      have hcv := cs_cv cs hi2
      refine j_iload_n h d_LP_countHolders_4 rfl ?_
      refine j_bipush (v := 16) h d_LP_countHolders_5 (by decide) ?_
      refine j_ic_ge (tgt := 52) h d_LP_countHolders_7 (by decide) (fun c => absurd c (nI_ge hi2 (by decide))) (fun _ => ?_)
      refine j_aload_n h d_LP_countHolders_10 rfl ?_
      refine j_getR h d_LP_countHolders_11 fl_LP_31 rfl (by assumption) (cs_p1 cs) ?_
      refine j_iload_n h d_LP_countHolders_14 rfl ?_
      refine j_clis h cs hi2 d_LP_countHolders_15 ?_
      refine j_get0 h d_LP_countHolders_16 fl_LP_174 rfl (by assumption) ?_
      refine j_iload_n h d_LP_countHolders_19 rfl ?_
      refine j_ic_ne (tgt := 46) h d_LP_countHolders_20 (by decide) (fun c1 => ?_) (fun c1 => ?_)
      · refine j_iinc (v := nI (i + 1)) h d_LP_countHolders_46 rfl (nI_i i) (Nat.lt_of_lt_of_eq (m := 4) (by decide) hN.symm) ?_
        refine j_goto (tgt := 4) h d_LP_countHolders_49 (by decide) ?_
        refine j_lv (lv' := [(0, .ref (K.ad 0 0)), (1, .int a), (2, .int _), (3, .int (nI (i + 1)))]) (lvs rfl (lvs rfl (lvs rfl (lvs rfl lvs0)))) ?_
        exact ih (i + 1) _ (by omega) (hv.trans (by simp only [cntR]; clear ih hX h hl; congr 1; first | (simp_all [b01_0]; done) | grind [b01_0]))
      · refine j_aload_n h d_LP_countHolders_23 rfl ?_
        refine j_getR h d_LP_countHolders_24 fl_LP_31 rfl (by assumption) (cs_p1 cs) ?_
        refine j_iload_n h d_LP_countHolders_27 rfl ?_
        refine j_clis h cs hi2 d_LP_countHolders_28 ?_
        refine j_aload_n h d_LP_countHolders_29 rfl ?_
        refine j_get0 h d_LP_countHolders_30 fl_LP_56 rfl (by assumption) ?_
        refine j_aload_n h d_LP_countHolders_33 rfl ?_
        refine j_get0 h d_LP_countHolders_34 fl_LP_17 rfl (by assumption) ?_
        refine j_callV h (c_Cli_holds _ _ _ _ _ _ _ _ _ hcv _ _) d_LP_countHolders_37 ml_LP_170 mv_Cli_holds (by assumption) ⟨rfl, rfl⟩ rfl rfl (Nat.le_of_ble_eq_true rfl) (hR_of hX (by decide) (by decide)) (hf_of hX (by decide) (by decide)) ?_
        rintro _ _ _ _ ⟨rfl, rfl, rfl, rfl⟩
        refine j_if_eq (tgt := 46) h d_LP_countHolders_40 (by decide) (fun c2 => ?_) (fun c2 => ?_)
        · refine j_iinc (v := nI (i + 1)) h d_LP_countHolders_46 rfl (nI_i i) (Nat.lt_of_lt_of_eq (m := 4) (by decide) hN.symm) ?_
          refine j_goto (tgt := 4) h d_LP_countHolders_49 (by decide) ?_
          refine j_lv (lv' := [(0, .ref (K.ad 0 0)), (1, .int a), (2, .int _), (3, .int (nI (i + 1)))]) (lvs rfl (lvs rfl (lvs rfl (lvs rfl lvs0)))) ?_
          exact ih (i + 1) _ (by omega) (hv.trans (by simp only [cntR]; clear ih hX h hl; congr 1; first | (simp_all [b01_0]; done) | grind [b01_0]))
        · refine j_iinc (v := g + 1) h d_LP_countHolders_43 rfl rfl (Nat.lt_of_lt_of_eq (m := 4) (by decide) hN.symm) ?_
          refine j_iinc (v := nI (i + 1)) h d_LP_countHolders_46 rfl (nI_i i) (Nat.lt_of_lt_of_eq (m := 4) (by decide) hN.symm) ?_
          refine j_goto (tgt := 4) h d_LP_countHolders_49 (by decide) ?_
          refine j_lv (lv' := [(0, .ref (K.ad 0 0)), (1, .int a), (2, .int _), (3, .int (nI (i + 1)))]) (lvs rfl (lvs rfl (lvs rfl (lvs rfl lvs0)))) ?_
          exact ih (i + 1) _ (by omega) (hv.trans (by simp only [cntR]; clear ih hX h hl; congr 1; first | (simp_all [b01_0]; done) | grind [b01_0]))
  refine j_iconst (v := 0) h d_LP_countHolders_0 (by decide) ?_
  refine j_istore_n h d_LP_countHolders_1 (Nat.lt_of_lt_of_eq (m := 4) (by decide) hN.symm) ?_
  refine j_iconst (v := 0) h d_LP_countHolders_2 (by decide) ?_
  refine j_istore_n h d_LP_countHolders_3 (Nat.lt_of_lt_of_eq (m := 4) (by decide) hN.symm) ?_
  refine j_lv (lv' := [(0, .ref (K.ad 0 0)), (1, .int a), (2, .int 0), (3, .int (nI 0))]) (lvs rfl (lvs rfl (lvs rfl (lvs rfl lvs0)))) ?_
  exact hL 16 0 0 (by omega) rfl
end
section
/-! the net: has, takeAll, remove -/
section JNN
variable {X : Jx} {cc : ByteArray} {own : String} {K : Kx} {V : Vx} {I : MI3} {P : MP} {cells slots pc : Nat} {lv : List (Nat × Value)} {st : List Value} {md : Mx} {d : Nat × Nat} {mc ms : Nat} {post : Px}
theorem j_callSN (h : OkX X cc own K) {idx n : Nat} {host : String} {As rest st0 : List Value} (hM : Ct X.l K md d mc ms As V I P post) (dd : decode cc pc = .ok (.invokestatic idx, 3)) (wn : Cond.methodLinkNest own idx md.1 host ∈ NWN) (w3 : Cond.code md.1 md.2.1 md.2.2.1 md.2.2.2 ∈ WA) (w2 : Cond.initialized md.1.cls ∈ WA) (ws : Cond.static md.1 ∈ WA) (hd : md.1.cls ≠ "java/lang/invoke/MethodHandle" ∧ md.1.cls ≠ "java/lang/invoke/VarHandle" ∧ (parseMethodDescriptor md.1.desc).map (fun d => d.parameters.length) = some n)
    (hst : st0 = As.reverse ++ rest) (hn : As.length = n) (hcat : (rest.map fun v => v.category).sum ≤ 8) (hR : d.1 + 1 ≤ X.R.frames ∧ md.2.2.1 + 19 + d.2 ≤ X.R.locals) (hf : cells + mc ≤ X.R.cells ∧ slots + ms ≤ X.R.slots)
    (kk : ∀ (V' : Vx) (r : Option Value) (I' : MI3) (P' : MP), post V' r I' P' → J X K V' I' P' (cells + mc) (slots + ms) (pc + 3) lv (r.toList ++ rest)) : J X K V I P cells slots pc lv st0 := by
  subst hst
  refine j_run (post := post) (rest := rest) (a0 := As.toArray) (fun H locs ls a b e g => ?_) kk
  have ht := h.2.2.2.2.1
  exact va_runSN (Ts := WA) ⟨h.1, h.2.1, h.2.2.1, h.2.2.2.1, ht⟩ hM ⟨va_cnB n ht (good_ws w3) rfl rfl rfl (h.2.2.2.2.2.2.1.2.1.2 _ wn) (ht _ w2) hd ⟨hR.1, by show 8 + (md.2.2.1 + 11) + d.2 ≤ _; omega⟩, ht _ ws, trivial⟩ ⟨PC_blind, fun U hU hW => pc_at h a b e U hU hW⟩ rfl hn g.1.1 rfl (st_room hcat) dd hf
theorem j_callIN (h : OkX X cc own K) {idx q0 n : Nat} {host : String} {As rest st0 : List Value} (hM : Ct X.l K md d mc ms (.ref q0 :: As) V I P post) (dd : decode cc pc = .ok (.invokespecial idx, 3)) (wn : Cond.methodLinkNest own idx md.1 host ∈ NWN) (w3 : Cond.code md.1 md.2.1 md.2.2.1 md.2.2.2 ∈ WA) (w2 : Cond.initialized md.1.cls ∈ WA) (ws : Cond.instanceMethod md.1 ∈ WA) (hin : md.1.name = "<init>") (hret : md.2.2.2 = none) (hd : md.1.cls ≠ "java/lang/invoke/MethodHandle" ∧ md.1.cls ≠ "java/lang/invoke/VarHandle" ∧ (parseMethodDescriptor md.1.desc).map (fun d => d.parameters.length) = some n)
    (hst : st0 = As.reverse ++ .ref q0 :: rest) (hn : As.length = n) (hcat : (rest.map fun v => v.category).sum ≤ 8) (hR : d.1 + 1 ≤ X.R.frames ∧ md.2.2.1 + 19 + d.2 ≤ X.R.locals) (hf : cells + mc ≤ X.R.cells ∧ slots + ms ≤ X.R.slots)
    (kk : ∀ (V' : Vx) (r : Option Value) (I' : MI3) (P' : MP), post V' r I' P' → J X K V' I' P' (cells + mc) (slots + ms) (pc + 3) lv (r.toList ++ rest)) : J X K V I P cells slots pc lv st0 := by
  subst hst
  refine j_run (post := post) (rest := rest) (a0 := (Value.ref q0 :: As).toArray) (fun H locs ls a b e g => ?_) kk
  have ht := h.2.2.2.2.1
  exact va_runIN (Ts := WA) ⟨h.1, h.2.1, h.2.2.1, h.2.2.2.1, ht⟩ hM ⟨hret ▸ va_cnB n ht (good_ws w3) rfl rfl rfl (h.2.2.2.2.2.2.1.2.1.2 _ wn) (ht _ w2) hd ⟨hR.1, by show 8 + (md.2.2.1 + 11) + d.2 ≤ _; omega⟩, hin, ht _ ws⟩ ⟨PC_blind, fun U hU hW => pc_at h a b e U hU hW⟩ rfl hn g.1.1 rfl (st_room hcat) dd hf
end JNN
def PE (P P' : MP) : Prop := ∀ col i, col ≠ 5 → col ≠ 6 → col ≠ 14 → col ≠ 15 → P' col i = P col i
theorem CS_pe {K : Kx} {V : Vx} {P P' : MP} {n : Nat} (pe : PE P P') (c : CS K V P n) : CS K V P' n := by
  obtain ⟨a, b, p0, p1, p2, p3, p4, p10, p11, p12⟩ := c
  have e := fun col i h1 h2 h3 h4 => pe col i h1 h2 h3 h4
  refine ⟨a, b, ?_, ?_, ?_, ?_, ?_, ?_, ?_, ?_⟩
  · rw [e _ _ (by decide) (by decide) (by decide) (by decide)]; exact p0
  · rw [e _ _ (by decide) (by decide) (by decide) (by decide)]; exact p1
  · rw [e _ _ (by decide) (by decide) (by decide) (by decide)]; exact p2
  · rw [e _ _ (by decide) (by decide) (by decide) (by decide)]; exact p3
  · intro s hs; rw [e _ _ (by decide) (by decide) (by decide) (by decide)]; exact p4 s hs
  · intro s hs; rw [e _ _ (by decide) (by decide) (by decide) (by decide)]; exact p10 s hs
  · intro s hs; rw [e _ _ (by decide) (by decide) (by decide) (by decide)]; exact p11 s hs
  · intro s a hs ha; rw [e _ _ (by omega) (by omega) (by omega) (by omega)]; exact p12 s a hs ha
/-- the ring or its arrays have moved -/
def TP (K : Kx) (V : Vx) (C D : MI) (P : MP) (ld sk : Int32) (r : Option Value) (A : MI) (N T : List Msg) (U : Msg) : Px := fun V' r' I' P' => V' = V ∧ r' = r ∧ PE P P' ∧ ∃ B, I' = bk4 A B C D ∧ NC K P' B ld sk N T U
theorem NC_take {K : Kx} {P : MP} {B : MI} {ld sk : Int32} {N T : List Msg} {U : Msg} {t f ft : Nat} {g : Nat → Nat → Nat} (kb : KB B ld sk) (w : NCw K P B N T U t g f ft) : NC K (up (up P 5 0 (some (K.aad (5 - t)))) 6 0 (some (K.aad (4 + t)))) (up (up (up B 71 0 (nI f)) 70 0 0) 72 0 0) ld sk [] N U := by
  obtain ⟨⟨ht, hf, hc, b70, b72, p5, p6, hg, hgi⟩, hN, b71, hft, hT, hU, hz⟩ := w
  have keep : ∀ q x, CM B q x → CM (up (up (up B 71 0 (nI f)) 70 0 0) 72 0 0) q x := fun q x h => CM_kept h (fun col hcol => by rw [up_c _ _ (by omega), up_c _ _ (by omega), up_c _ _ (by omega)])
  refine ⟨fun s hs => ?_, 1 - t, g, 0, f, ⟨by omega, by decide, by decide, rfl, rfl, ?_, ?_, ?_, hgi⟩, ?_, rfl, hf, ?_, keep _ _ hU, ?_⟩
  · obtain ⟨k1, k2, k3, k4⟩ := kb s hs
    exact ⟨k1, k2, k3, k4⟩
  · show some (K.aad (5 - t)) = some (K.aad (4 + (1 - t)))
    rw [show 5 - t = 4 + (1 - t) by omega]
  · show some (K.aad (4 + t)) = some (K.aad (5 - (1 - t)))
    rw [show 4 + t = 5 - (1 - t) by omega]
  · intro u j hu hj
    refine ⟨?_, (hg u j hu hj).2⟩
    rw [up_c _ _ (by omega), up_c _ _ (by omega)]
    exact (hg u j hu hj).1
  · intro k x hk
    simp at hk
  · intro k x hk
    have hl := (List.getElem?_eq_some_iff.mp hk).1
    refine ⟨by omega, ?_⟩
    rw [show 1 - (1 - t) = t by omega]
    exact keep _ _ (hN k x hk)
  · intro q hq
    exact hz q hq
theorem d_Net_has_0 : decode b_Net_has 0 = .ok (.iload_n 1, 1) := by decide +kernel
theorem d_Net_has_1 : decode b_Net_has 1 = .ok (.iconst 0, 1) := by decide +kernel
theorem d_Net_has_2 : decode b_Net_has 2 = .ok (.aload_n 0, 1) := by decide +kernel
theorem d_Net_has_3 : decode b_Net_has 3 = .ok (.getfield 21, 3) := by decide +kernel
theorem d_Net_has_6 : decode b_Net_has 6 = .ok (.iconst 1, 1) := by decide +kernel
theorem d_Net_has_7 : decode b_Net_has 7 = .ok (.isub, 1) := by decide +kernel
theorem d_Net_has_8 : decode b_Net_has 8 = .ok (.invokestatic 25, 3) := by decide +kernel
theorem d_Net_has_11 : decode b_Net_has 11 = .ok (.ireturn, 1) := by decide +kernel
set_option maxRecDepth 100000 in
set_option maxHeartbeats 4000000 in
theorem c_Net_has (l : Launch) (K : Kx) (V : Vx) (A B C D : MI) (P : MP) (n : Nat) (cs : CS K V P n) (c : Nat) (b72 : B 72 0 = nI c) (x : Int32) : Ct l K md_Net_has (1, 22) 0 0 [.ref (K.ad 4 0), .int x] V (bk4 A B C D) P (EQ V (some (.int (b01 (¬ x < 0 ∧ ¬ nI c - 1 < x)))) (bk4 A B C D) P) := by
  refine ct_of [(0, .ref (K.ad 4 0)), (1, .int x)] (by decide) (Nat.le_of_ble_eq_true rfl) (ca_r (ca_i ca_n)) rfl ?_
  intro X hl hX
  have h : OkX X b_Net_has R_Net K := hX.1
  have hN : X.nL = 2 := hX.2.1
  have hnv := cs_nv cs
  refine j_iload_n h d_Net_has_0 rfl ?_
  refine j_iconst (v := 0) h d_Net_has_1 (by decide) ?_
  refine j_aload_n h d_Net_has_2 rfl ?_
  refine j_get1e h d_Net_has_3 fl_Net_21 rfl (by assumption) b72 ?_
  refine j_iconst (v := 1) h d_Net_has_6 (by decide) ?_
  refine j_isub h d_Net_has_7 ?_
  refine j_callSN (n := 3) (host := "LeasePair") h (c_LP_isWithin _ _ _ _ _ _ _ _ _ _ _) d_Net_has_8 (by decide +kernel) wk_LP_isWithin wn_LP_isWithin ms_LP_isWithin (by decide +kernel) rfl rfl (Nat.le_of_ble_eq_true rfl) (hR_of hX (by decide) (by decide)) (hf_of hX (by decide) (by decide)) ?_
  rintro _ _ _ _ ⟨rfl, rfl, rfl, rfl⟩
  exact j_zret hX d_Net_has_11 rfl (by first | exact Or.inl rfl | exact Or.inr rfl | exact b01_z _ | assumption) (Nat.le_refl _) (Nat.le_refl _) ⟨rfl, rfl, rfl, rfl⟩
theorem d_Net_takeAll_0 : decode b_Net_takeAll 0 = .ok (.aload_n 0, 1) := by decide +kernel
theorem d_Net_takeAll_1 : decode b_Net_takeAll 1 = .ok (.getfield 11, 3) := by decide +kernel
theorem d_Net_takeAll_4 : decode b_Net_takeAll 4 = .ok (.astore_n 1, 1) := by decide +kernel
theorem d_Net_takeAll_5 : decode b_Net_takeAll 5 = .ok (.aload_n 0, 1) := by decide +kernel
theorem d_Net_takeAll_6 : decode b_Net_takeAll 6 = .ok (.aload_n 0, 1) := by decide +kernel
theorem d_Net_takeAll_7 : decode b_Net_takeAll 7 = .ok (.getfield 17, 3) := by decide +kernel
theorem d_Net_takeAll_10 : decode b_Net_takeAll 10 = .ok (.putfield 11, 3) := by decide +kernel
theorem d_Net_takeAll_13 : decode b_Net_takeAll 13 = .ok (.aload_n 0, 1) := by decide +kernel
theorem d_Net_takeAll_14 : decode b_Net_takeAll 14 = .ok (.aload_n 1, 1) := by decide +kernel
theorem d_Net_takeAll_15 : decode b_Net_takeAll 15 = .ok (.putfield 17, 3) := by decide +kernel
theorem d_Net_takeAll_18 : decode b_Net_takeAll 18 = .ok (.aload_n 0, 1) := by decide +kernel
theorem d_Net_takeAll_19 : decode b_Net_takeAll 19 = .ok (.aload_n 0, 1) := by decide +kernel
theorem d_Net_takeAll_20 : decode b_Net_takeAll 20 = .ok (.getfield 29, 3) := by decide +kernel
theorem d_Net_takeAll_23 : decode b_Net_takeAll 23 = .ok (.putfield 32, 3) := by decide +kernel
theorem d_Net_takeAll_26 : decode b_Net_takeAll 26 = .ok (.aload_n 0, 1) := by decide +kernel
theorem d_Net_takeAll_27 : decode b_Net_takeAll 27 = .ok (.iconst 0, 1) := by decide +kernel
theorem d_Net_takeAll_28 : decode b_Net_takeAll 28 = .ok (.putfield 29, 3) := by decide +kernel
theorem d_Net_takeAll_31 : decode b_Net_takeAll 31 = .ok (.aload_n 0, 1) := by decide +kernel
theorem d_Net_takeAll_32 : decode b_Net_takeAll 32 = .ok (.getfield 21, 3) := by decide +kernel
theorem d_Net_takeAll_35 : decode b_Net_takeAll 35 = .ok (.istore_n 2, 1) := by decide +kernel
theorem d_Net_takeAll_36 : decode b_Net_takeAll 36 = .ok (.aload_n 0, 1) := by decide +kernel
theorem d_Net_takeAll_37 : decode b_Net_takeAll 37 = .ok (.iconst 0, 1) := by decide +kernel
theorem d_Net_takeAll_38 : decode b_Net_takeAll 38 = .ok (.putfield 21, 3) := by decide +kernel
theorem d_Net_takeAll_41 : decode b_Net_takeAll 41 = .ok (.iload_n 2, 1) := by decide +kernel
theorem d_Net_takeAll_42 : decode b_Net_takeAll 42 = .ok (.ireturn, 1) := by decide +kernel
set_option maxRecDepth 100000 in
set_option maxHeartbeats 4000000 in
theorem c_Net_takeAll (l : Launch) (K : Kx) (V : Vx) (A B C D : MI) (P : MP) (n : Nat) (cs : CS K V P n) (ld sk : Int32) (N T : List Msg) (U : Msg) (hnc : NC K P B ld sk N T U) : Ct l K md_Net_takeAll (0, 0) 0 0 [.ref (K.ad 4 0)] V (bk4 A B C D) P (TP K V C D P ld sk (some (.int (nI N.length))) A [] N U) := by
  refine ct_of [(0, .ref (K.ad 4 0))] (by decide) (Nat.le_of_ble_eq_true rfl) (ca_r ca_n) rfl ?_
  intro X hl hX
  have h : OkX X b_Net_takeAll R_Net K := hX.1
  have hN : X.nL = 3 := hX.2.1
  have hnv := cs_nv cs
  obtain ⟨kb, t, g, f, ft, nw⟩ := id hnc
  obtain ⟨ht, hf, hc, b70, b72, p5, p6, hg, hgi⟩ := id nw.1
  refine j_aload_n h d_Net_takeAll_0 rfl ?_
  refine j_getR h d_Net_takeAll_1 fl_Net_11 rfl (by assumption) p5 ?_
  refine j_astore_n h d_Net_takeAll_4 (Nat.lt_of_lt_of_eq (m := 3) (by decide) hN.symm) ?_
  refine j_aload_n h d_Net_takeAll_5 rfl ?_
  refine j_aload_n h d_Net_takeAll_6 rfl ?_
  refine j_getR h d_Net_takeAll_7 fl_Net_17 rfl (by assumption) p6 ?_
  refine j_putR h d_Net_takeAll_10 fw_Net_11 rfl ⟨rfl, rfl⟩ (by assumption) ?_
  refine j_aload_n h d_Net_takeAll_13 rfl ?_
  refine j_aload_n h d_Net_takeAll_14 rfl ?_
  refine j_putR h d_Net_takeAll_15 fw_Net_17 rfl ⟨rfl, rfl⟩ (by assumption) ?_
  refine j_aload_n h d_Net_takeAll_18 rfl ?_
  refine j_aload_n h d_Net_takeAll_19 rfl ?_
  refine j_get1e h d_Net_takeAll_20 fl_Net_29 rfl (by assumption) b70 ?_
  refine j_put1 h d_Net_takeAll_23 fw_Net_32 rfl rfl (by assumption) ?_
  refine j_aload_n h d_Net_takeAll_26 rfl ?_
  refine j_iconst (v := 0) h d_Net_takeAll_27 (by decide) ?_
  refine j_put1 h d_Net_takeAll_28 fw_Net_29 rfl rfl (by assumption) ?_
  refine j_aload_n h d_Net_takeAll_31 rfl ?_
  refine j_get1e h d_Net_takeAll_32 fl_Net_21 rfl (by assumption) b72 ?_
  refine j_istore_n h d_Net_takeAll_35 (Nat.lt_of_lt_of_eq (m := 3) (by decide) hN.symm) ?_
  refine j_aload_n h d_Net_takeAll_36 rfl ?_
  refine j_iconst (v := 0) h d_Net_takeAll_37 (by decide) ?_
  refine j_put1 h d_Net_takeAll_38 fw_Net_21 rfl rfl (by assumption) ?_
  refine j_iload_n h d_Net_takeAll_41 rfl ?_
  exact j_iret hX d_Net_takeAll_42 rfl (Nat.le_refl _) (Nat.le_refl _) ⟨rfl, rfl, fun col i h1 h2 _ _ => by rw [up_c _ _ h2, up_c _ _ h1], _, rfl, NC_take kb nw⟩
theorem c_Net_at_w (l : Launch) (K : Kx) (V : Vx) (A B C D : MI) (P : MP) (n : Nat) (cs : CS K V P n) (t f q : Nat) (ht : t < 2) (hf : f < 300) (b70 : B 70 0 = nI f) (p5 : P 5 0 = some (K.aad (4 + t))) (k : Nat) (hk : k ≤ 300) (hp : P (14 + t) ((f + k) % 300) = some q) : Ct l K md_Net_at (0, 0) 0 0 [.ref (K.ad 4 0), .int (nI k)] V (bk4 A B C D) P (EQ V (some (.ref q)) (bk4 A B C D) P) := by
  refine ct_of [(0, .ref (K.ad 4 0)), (1, .int (nI k))] (by decide) (Nat.le_of_ble_eq_true rfl) (ca_r (ca_i ca_n)) rfl ?_
  intro X hl hX
  have h : OkX X b_Net_at R_Net K := hX.1
  have hnv := cs_nv cs
  refine j_aload_n h d_Net_at_0 rfl ?_
  refine j_getR h d_Net_at_1 fl_Net_11 rfl (by assumption) p5 ?_
  refine j_aload_n h d_Net_at_4 rfl ?_
  refine j_get1e h d_Net_at_5 fl_Net_29 rfl (by assumption) b70 ?_
  refine j_iload_n h d_Net_at_8 rfl ?_
  refine j_iadd h d_Net_at_9 ?_
  refine j_sipush (v := 300) h d_Net_at_10 (by decide) ?_
  refine j_irem h d_Net_at_13 (by decide) ?_
  refine j_ring h cs ht (by rw [nI_add]; exact rem300 (by omega)) (Nat.mod_lt _ (by decide)) hp d_Net_at_14 ?_
  exact j_aret hX d_Net_at_15 rfl (Nat.le_refl _) (Nat.le_refl _) ⟨rfl, rfl, rfl, rfl⟩
theorem NC_rm {K : Kx} {P P3 : MP} {B : MI} {ld sk : Int32} {N T : List Msg} {U : Msg} {t f ft pl : Nat} {g g3 : Nat → Nat → Nat} (kb : KB B ld sk) (w : NCw K P B N T U t g f ft) (hpl : pl < N.length) (h1 : ∀ u j, u < 2 → j < 300 → P3 (14 + u) j = some (K.ad 5 (g3 u j)))
    (h2 : ∀ p, p < 300 → g3 t ((f + p) % 300) = if pl ≤ p ∧ p < N.length - 1 then g t ((f + p + 1) % 300) else if p = N.length - 1 then g t ((f + pl) % 300) else g t ((f + p) % 300)) (h3 : ∀ j, j < 300 → g3 (1 - t) j = g (1 - t) j) (h4 : ∀ col j, col ≠ 14 + t → P3 col j = P col j) : NC K P3 (up B 72 0 (nI (N.length - 1))) ld sk (N.eraseIdx pl) T U := by
  obtain ⟨⟨ht, hf, hc, b70, b72, p5, p6, hg, hgi⟩, hN, b71, hft, hT, hU, hz⟩ := w
  have hl : (N.eraseIdx pl).length = N.length - 1 := by rw [List.length_eraseIdx]; rw [if_pos hpl]
  have keep : ∀ q x, CM B q x → CM (up B 72 0 (nI (N.length - 1))) q x := fun q x h => CM_kept h (fun col hcol => by rw [up_c _ _ (by omega)])
  obtain ⟨pi, hpi⟩ : ∃ pi : Nat → Nat, pi = fun p => if pl ≤ p ∧ p < N.length - 1 then p + 1 else if p = N.length - 1 then pl else p := ⟨_, rfl⟩
  have hpi' : ∀ p, pi p = if pl ≤ p ∧ p < N.length - 1 then p + 1 else if p = N.length - 1 then pl else p := fun p => by rw [hpi]
  have hg3 : ∀ p, p < 300 → g3 t ((f + p) % 300) = g t ((f + pi p) % 300) := by
    intro p hp
    rw [h2 p hp, hpi']
    split
    · rfl
    · split <;> rfl
  have hlt : ∀ p, p < 300 → pi p < 300 := by
    intro p hp
    rw [hpi']
    split
    · omega
    · split <;> omega
  have hinj : ∀ p p', p < 300 → p' < 300 → pi p = pi p' → p = p' := by
    intro p p' hp hp' e
    rw [hpi', hpi'] at e
    split at e <;> split at e <;> (try split at e) <;> (try split at e) <;> omega
  have hj : ∀ j, j < 300 → ∃ p, p < 300 ∧ j = (f + p) % 300 := fun j hj => ⟨(j + 300 - f) % 300, Nat.mod_lt _ (by decide), by omega⟩
  have hmod : ∀ p p', p < 300 → p' < 300 → (f + p) % 300 = (f + p') % 300 → p = p' := fun p p' h h' e => by omega
  have hb : ∀ u j, u < 2 → j < 300 → ∃ j', j' < 300 ∧ g3 u j = g u j' ∧ ∀ i, i < 300 → g3 u i = g u j' → i = j := by
    intro u j hu hjj
    by_cases hut : u = t
    · subst hut
      obtain ⟨p, hp, rfl⟩ := hj j hjj
      refine ⟨(f + pi p) % 300, Nat.mod_lt _ (by decide), hg3 p hp, fun i hi e => ?_⟩
      obtain ⟨p', hp', rfl⟩ := hj i hi
      rw [hg3 p' hp'] at e
      have := (hgi u _ u _ hu (Nat.mod_lt _ (by decide)) hu (Nat.mod_lt _ (by decide)) e).2
      have := hmod _ _ (hlt p' hp') (hlt p hp) this
      rw [hinj _ _ hp' hp this]
    · have : u = 1 - t := by omega
      subst this
      refine ⟨j, hjj, h3 j hjj, fun i hi e => ?_⟩
      rw [h3 i hi] at e
      exact (hgi (1 - t) _ (1 - t) _ hu hi hu hjj e).2
  refine ⟨fun s hs => ?_, t, g3, f, ft, ⟨ht, hf, by omega, b70, by rw [hl]; rfl, ?_, ?_, ?_, ?_⟩, ?_, b71, hft, ?_, keep _ _ hU, fun q hq => hz q hq⟩
  · obtain ⟨k1, k2, k3, k4⟩ := kb s hs
    exact ⟨k1, k2, k3, k4⟩
  · rw [h4 _ _ (by omega)]; exact p5
  · rw [h4 _ _ (by omega)]; exact p6
  · intro u j hu hjj
    obtain ⟨j', h5, h6, -⟩ := hb u j hu hjj
    exact ⟨h1 u j hu hjj, by rw [h6]; exact (hg u j' hu h5).2⟩
  · intro u j u' j' hu hjj hu' hj' e
    obtain ⟨a, ha, ea, ia⟩ := hb u j hu hjj
    obtain ⟨b, hb', eb, ib⟩ := hb u' j' hu' hj'
    rw [ea, eb] at e
    obtain ⟨e1, e2⟩ := hgi u a u' b hu ha hu' hb' e
    subst e1; subst e2
    exact ⟨rfl, ib j hjj ea⟩
  · intro k x hk
    have hkl : k < N.length - 1 := by
      have := (List.getElem?_eq_some_iff.mp hk).1
      omega
    rw [List.getElem?_eraseIdx] at hk
    rw [hg3 k (by omega), hpi']
    split at hk
    · rw [if_neg (by omega), if_neg (by omega)]
      exact keep _ _ (hN k x hk)
    · rw [if_pos (by omega)]
      exact keep _ _ (hN (k + 1) x hk)
  · intro k x hk
    obtain ⟨e1, e2⟩ := hT k x hk
    refine ⟨e1, ?_⟩
    rw [h3 _ (Nat.mod_lt _ (by decide))]
    exact keep _ _ e2
theorem d_Net_remove_0 : decode b_Net_remove 0 = .ok (.aload_n 0, 1) := by decide +kernel
theorem d_Net_remove_1 : decode b_Net_remove 1 = .ok (.iload_n 1, 1) := by decide +kernel
theorem d_Net_remove_2 : decode b_Net_remove 2 = .ok (.invokevirtual 35, 3) := by decide +kernel
theorem d_Net_remove_5 : decode b_Net_remove 5 = .ok (.astore_n 2, 1) := by decide +kernel
theorem d_Net_remove_6 : decode b_Net_remove 6 = .ok (.iload_n 1, 1) := by decide +kernel
theorem d_Net_remove_7 : decode b_Net_remove 7 = .ok (.istore_n 3, 1) := by decide +kernel
theorem d_Net_remove_8 : decode b_Net_remove 8 = .ok (.iload_n 3, 1) := by decide +kernel
theorem d_Net_remove_9 : decode b_Net_remove 9 = .ok (.aload_n 0, 1) := by decide +kernel
theorem d_Net_remove_10 : decode b_Net_remove 10 = .ok (.getfield 21, 3) := by decide +kernel
theorem d_Net_remove_13 : decode b_Net_remove 13 = .ok (.iconst 1, 1) := by decide +kernel
theorem d_Net_remove_14 : decode b_Net_remove 14 = .ok (.isub, 1) := by decide +kernel
theorem d_Net_remove_15 : decode b_Net_remove 15 = .ok (.if_icmp .ge 31, 3) := by decide +kernel
theorem d_Net_remove_18 : decode b_Net_remove 18 = .ok (.aload_n 0, 1) := by decide +kernel
theorem d_Net_remove_19 : decode b_Net_remove 19 = .ok (.getfield 11, 3) := by decide +kernel
theorem d_Net_remove_22 : decode b_Net_remove 22 = .ok (.aload_n 0, 1) := by decide +kernel
theorem d_Net_remove_23 : decode b_Net_remove 23 = .ok (.getfield 29, 3) := by decide +kernel
theorem d_Net_remove_26 : decode b_Net_remove 26 = .ok (.iload_n 3, 1) := by decide +kernel
theorem d_Net_remove_27 : decode b_Net_remove 27 = .ok (.iadd, 1) := by decide +kernel
theorem d_Net_remove_28 : decode b_Net_remove 28 = .ok (.sipush 300, 3) := by decide +kernel
theorem d_Net_remove_31 : decode b_Net_remove 31 = .ok (.irem, 1) := by decide +kernel
theorem d_Net_remove_32 : decode b_Net_remove 32 = .ok (.aload_n 0, 1) := by decide +kernel
theorem d_Net_remove_33 : decode b_Net_remove 33 = .ok (.iload_n 3, 1) := by decide +kernel
theorem d_Net_remove_34 : decode b_Net_remove 34 = .ok (.iconst 1, 1) := by decide +kernel
theorem d_Net_remove_35 : decode b_Net_remove 35 = .ok (.iadd, 1) := by decide +kernel
theorem d_Net_remove_36 : decode b_Net_remove 36 = .ok (.invokevirtual 35, 3) := by decide +kernel
theorem d_Net_remove_39 : decode b_Net_remove 39 = .ok (.aastore, 1) := by decide +kernel
theorem d_Net_remove_40 : decode b_Net_remove 40 = .ok (.iinc 3 1, 3) := by decide +kernel
theorem d_Net_remove_43 : decode b_Net_remove 43 = .ok (.goto (-35), 3) := by decide +kernel
theorem d_Net_remove_46 : decode b_Net_remove 46 = .ok (.aload_n 0, 1) := by decide +kernel
theorem d_Net_remove_47 : decode b_Net_remove 47 = .ok (.getfield 11, 3) := by decide +kernel
theorem d_Net_remove_50 : decode b_Net_remove 50 = .ok (.aload_n 0, 1) := by decide +kernel
theorem d_Net_remove_51 : decode b_Net_remove 51 = .ok (.getfield 29, 3) := by decide +kernel
theorem d_Net_remove_54 : decode b_Net_remove 54 = .ok (.aload_n 0, 1) := by decide +kernel
theorem d_Net_remove_55 : decode b_Net_remove 55 = .ok (.getfield 21, 3) := by decide +kernel
theorem d_Net_remove_58 : decode b_Net_remove 58 = .ok (.iadd, 1) := by decide +kernel
theorem d_Net_remove_59 : decode b_Net_remove 59 = .ok (.iconst 1, 1) := by decide +kernel
theorem d_Net_remove_60 : decode b_Net_remove 60 = .ok (.isub, 1) := by decide +kernel
theorem d_Net_remove_61 : decode b_Net_remove 61 = .ok (.sipush 300, 3) := by decide +kernel
theorem d_Net_remove_64 : decode b_Net_remove 64 = .ok (.irem, 1) := by decide +kernel
theorem d_Net_remove_65 : decode b_Net_remove 65 = .ok (.aload_n 2, 1) := by decide +kernel
theorem d_Net_remove_66 : decode b_Net_remove 66 = .ok (.aastore, 1) := by decide +kernel
theorem d_Net_remove_67 : decode b_Net_remove 67 = .ok (.aload_n 0, 1) := by decide +kernel
theorem d_Net_remove_68 : decode b_Net_remove 68 = .ok (.dup, 1) := by decide +kernel
theorem d_Net_remove_69 : decode b_Net_remove 69 = .ok (.getfield 21, 3) := by decide +kernel
theorem d_Net_remove_72 : decode b_Net_remove 72 = .ok (.iconst 1, 1) := by decide +kernel
theorem d_Net_remove_73 : decode b_Net_remove 73 = .ok (.isub, 1) := by decide +kernel
theorem d_Net_remove_74 : decode b_Net_remove 74 = .ok (.putfield 21, 3) := by decide +kernel
theorem d_Net_remove_77 : decode b_Net_remove 77 = .ok (.return_, 1) := by decide +kernel
set_option maxRecDepth 100000 in
set_option maxHeartbeats 4000000 in
theorem c_Net_remove (l : Launch) (K : Kx) (V : Vx) (A B C D : MI) (P : MP) (n : Nat) (cs : CS K V P n) (ld sk : Int32) (N T : List Msg) (U : Msg) (hnc : NC K P B ld sk N T U) (pl : Nat) (hpl : pl < N.length) : Ct l K md_Net_remove (1, 21) 0 0 [.ref (K.ad 4 0), .int (nI pl)] V (bk4 A B C D) P (TP K V C D P ld sk none A (N.eraseIdx pl) T U) := by
  refine ct_of [(0, .ref (K.ad 4 0)), (1, .int (nI pl))] (by decide) (Nat.le_of_ble_eq_true rfl) (ca_r (ca_i ca_n)) rfl ?_
  intro X hl hX
  have h : OkX X b_Net_remove R_Net K := hX.1
  have hN : X.nL = 4 := hX.2.1
  have hnv := cs_nv cs
  obtain ⟨kb, t, g, f, ft, nw⟩ := id hnc
  obtain ⟨ht, hf, hc, b70, b72, p5, p6, hg, hgi⟩ := id nw.1
  have hm1 : nI N.length - 1 = nI (N.length - 1) := by
    obtain ⟨z, hz⟩ : ∃ z, N.length = z + 1 := ⟨N.length - 1, by omega⟩
    rw [hz]; exact nI_pred z
  have hfc : nI f + nI N.length - 1 = nI (f + (N.length - 1)) := by
    rw [nI_add]
    obtain ⟨z, hz⟩ : ∃ z, N.length = z + 1 := ⟨N.length - 1, by omega⟩
    rw [hz, ← Nat.add_assoc]; exact nI_pred (f + z)
  have hL : ∀ (k i : Nat) (P1 : MP) (g1 : Nat → Nat → Nat), i + k = N.length - 1 → (∀ u j, u < 2 → j < 300 → P1 (14 + u) j = some (K.ad 5 (g1 u j))) ∧ (∀ p, p < 300 → g1 t ((f + p) % 300) = if pl ≤ p ∧ p < i then g t ((f + p + 1) % 300) else g t ((f + p) % 300)) ∧ (∀ j, j < 300 → g1 (1 - t) j = g (1 - t) j) ∧ (∀ col j, col ≠ 14 + t → P1 col j = P col j) ∧ pl ≤ i → J X K V (bk4 A B C D) P1 0 0 8 [(0, .ref (K.ad 4 0)), (1, .int (nI pl)), (2, .ref (K.ad 5 (g t ((f + pl) % 300)))), (3, .int (nI i))] [] := by
    intro k
    induction k with
    | zero =>
      intro i P1 g1 hi hv
      have hi2 : i = N.length - 1 := by omega
      subst hi2
      refine j_iload_n h d_Net_remove_8 rfl ?_
      refine j_aload_n h d_Net_remove_9 rfl ?_
      refine j_get1e h d_Net_remove_10 fl_Net_21 rfl (by assumption) b72 ?_
      refine j_iconst (v := 1) h d_Net_remove_13 (by decide) ?_
      refine j_isub h d_Net_remove_14 ?_
      rw [hm1]
      refine j_ic_ge (tgt := 46) h d_Net_remove_15 (by decide) (fun _ => ?_) (fun c => absurd (nI_le (Nat.le_refl _) (by omega)) c)
      obtain ⟨r1, r2, r3, r4, r5⟩ := hv
      have cs1 : CS K V P1 n := CS_pe (fun col i _ _ h3 h4 => r4 col i (by omega)) cs
      have p51 : P1 5 0 = some (K.aad (4 + t)) := by rw [r4 _ _ (by omega)]; exact p5
      refine j_aload_n h d_Net_remove_46 rfl ?_
      refine j_getR h d_Net_remove_47 fl_Net_11 rfl (by assumption) p51 ?_
      refine j_aload_n h d_Net_remove_50 rfl ?_
      refine j_get1e h d_Net_remove_51 fl_Net_29 rfl (by assumption) b70 ?_
      refine j_aload_n h d_Net_remove_54 rfl ?_
      refine j_get1e h d_Net_remove_55 fl_Net_21 rfl (by assumption) b72 ?_
      refine j_iadd h d_Net_remove_58 ?_
      refine j_iconst (v := 1) h d_Net_remove_59 (by decide) ?_
      refine j_isub h d_Net_remove_60 ?_
      rw [hfc]
      refine j_sipush (v := 300) h d_Net_remove_61 (by decide) ?_
      refine j_irem h d_Net_remove_64 (by decide) ?_
      rw [rem300 (show f + (N.length - 1) < 2 ^ 31 by omega)]
      refine j_aload_n h d_Net_remove_65 rfl ?_
      refine j_aast (a := 4 + t) (ci := 5) h d_Net_remove_66 (ai_msg ht).1 rfl ⟨by rw [(ai_msg ht).2]; rfl, by rw [(ai_msg ht).2]; decide⟩ (cs_av cs (by omega)) (cs_mv cs (Nat.lt_succ_of_lt (hg t _ ht (Nat.mod_lt _ (by decide))).2)) rfl (by rw [cs_ml cs ht]; exact Nat.mod_lt _ (by decide)) (by rw [cs_ml cs ht]; decide) ?_
      refine j_aload_n h d_Net_remove_67 rfl ?_
      refine j_dup h d_Net_remove_68 rfl ?_
      refine j_get1e h d_Net_remove_69 fl_Net_21 rfl (by assumption) b72 ?_
      refine j_iconst (v := 1) h d_Net_remove_72 (by decide) ?_
      refine j_isub h d_Net_remove_73 ?_
      rw [hm1]
      refine j_put1 h d_Net_remove_74 fw_Net_21 rfl rfl (by assumption) ?_
      exact j_vret hX d_Net_remove_77 rfl (Nat.le_refl _) (Nat.le_refl _) ⟨rfl, rfl, fun col i _ _ h3 h4 => by rw [up_c _ _ (by omega)]; exact r4 col i (by omega), _, rfl, NC_rm kb nw hpl (g3 := fun u j => if u = t ∧ j = (f + (N.length - 1)) % 300 then g t ((f + pl) % 300) else g1 u j) (fun u j hu hj => by
          by_cases e : u = t ∧ j = (f + (N.length - 1)) % 300
          · obtain ⟨rfl, rfl⟩ := e
            rw [up_s, if_pos ⟨rfl, rfl⟩]
          · rw [if_neg e, up_rd, if_neg (fun z => e ⟨by omega, z.2⟩)]
            exact r1 u j hu hj) (fun p hp => by
          by_cases e : p = N.length - 1
          · subst e
            rw [if_pos ⟨rfl, rfl⟩, if_neg (by omega), if_pos rfl]
          · rw [if_neg (fun z => e (by omega)), r2 p hp, if_neg e]) (fun j hj => by rw [if_neg (by omega)]; exact r3 j hj) (fun col j hcol => by rw [up_c _ _ hcol]; exact r4 col j hcol)⟩
    | succ k ih =>
      intro i P1 g1 hi hv
      have hi2 : i < N.length - 1 := by omega
      obtain ⟨r1, r2, r3, r4, r5⟩ := hv
      have cs1 : CS K V P1 n := CS_pe (fun col i _ _ h3 h4 => r4 col i (by omega)) cs
      have p51 : P1 5 0 = some (K.aad (4 + t)) := by rw [r4 _ _ (by omega)]; exact p5
      have hi3 : i + 1 < N.length := by omega
      have hg1 : g1 t ((f + (i + 1)) % 300) < 600 := by rw [r2 (i + 1) (by omega), if_neg (by omega)]; exact (hg t _ ht (Nat.mod_lt _ (by decide))).2
      refine j_iload_n h d_Net_remove_8 rfl ?_
      refine j_aload_n h d_Net_remove_9 rfl ?_
      refine j_get1e h d_Net_remove_10 fl_Net_21 rfl (by assumption) b72 ?_
      refine j_iconst (v := 1) h d_Net_remove_13 (by decide) ?_
      refine j_isub h d_Net_remove_14 ?_
      rw [hm1]
      refine j_ic_ge (tgt := 46) h d_Net_remove_15 (by decide) (fun c => absurd c (nI_ge hi2 (by omega))) (fun _ => ?_)
      refine j_aload_n h d_Net_remove_18 rfl ?_
      refine j_getR h d_Net_remove_19 fl_Net_11 rfl (by assumption) p51 ?_
      refine j_aload_n h d_Net_remove_22 rfl ?_
      refine j_get1e h d_Net_remove_23 fl_Net_29 rfl (by assumption) b70 ?_
      refine j_iload_n h d_Net_remove_26 rfl ?_
      refine j_iadd h d_Net_remove_27 ?_
      refine j_sipush (v := 300) h d_Net_remove_28 (by decide) ?_
      refine j_irem h d_Net_remove_31 (by decide) ?_
      rw [nI_add, rem300 (show f + i < 2 ^ 31 by omega)]
      refine j_aload_n h d_Net_remove_32 rfl ?_
      refine j_iload_n h d_Net_remove_33 rfl ?_
      refine j_iconst (v := 1) h d_Net_remove_34 (by decide) ?_
      refine j_iadd h d_Net_remove_35 ?_
      rw [nI_1]
      refine j_callV h (c_Net_at_w _ _ _ _ _ _ _ _ _ cs1 _ _ _ ht hf b70 p51 (i + 1) (by omega) (r1 t _ ht (Nat.mod_lt _ (by decide)))) d_Net_remove_36 ml_Net_35 mv_Net_at (by assumption) ⟨rfl, rfl⟩ rfl rfl (Nat.le_of_ble_eq_true rfl) (hR_of hX (by decide) (by decide)) (hf_of hX (by decide) (by decide)) ?_
      rintro _ _ _ _ ⟨rfl, rfl, rfl, rfl⟩
      refine j_aast (a := 4 + t) (ci := 5) h d_Net_remove_39 (ai_msg ht).1 rfl ⟨by rw [(ai_msg ht).2]; rfl, by rw [(ai_msg ht).2]; decide⟩ (cs_av cs (by omega)) (cs_mv cs (Nat.lt_succ_of_lt hg1)) rfl (by rw [cs_ml cs ht]; exact Nat.mod_lt _ (by decide)) (by rw [cs_ml cs ht]; decide) ?_
      refine j_iinc (v := nI (i + 1)) h d_Net_remove_40 rfl (nI_i i) (Nat.lt_of_lt_of_eq (m := 4) (by decide) hN.symm) ?_
      refine j_goto (tgt := 8) h d_Net_remove_43 (by decide) ?_
      refine j_lv (lv' := [(0, .ref (K.ad 4 0)), (1, .int (nI pl)), (2, .ref (K.ad 5 (g t ((f + pl) % 300)))), (3, .int (nI (i + 1)))]) (lvs rfl (lvs rfl (lvs rfl (lvs rfl lvs0)))) ?_
      refine ih (i + 1) _ (fun u j => if u = t ∧ j = (f + i) % 300 then g1 t ((f + (i + 1)) % 300) else g1 u j) (by omega) ⟨?_, ?_, ?_, ?_, by omega⟩
      · intro u j hu hj
        by_cases e : u = t ∧ j = (f + i) % 300
        · obtain ⟨rfl, rfl⟩ := e
          rw [up_s, if_pos ⟨rfl, rfl⟩]
        · rw [if_neg e]
          rw [up_rd, if_neg (fun z => e ⟨by omega, z.2⟩)]
          exact r1 u j hu hj
      · intro p hp
        by_cases e : p = i
        · subst e
          rw [if_pos ⟨rfl, rfl⟩, if_pos ⟨by omega, by omega⟩]
          rw [r2 (p + 1) (by omega), if_neg (by omega)]
          rfl
        · rw [if_neg (fun z => e (by omega)), r2 p hp]
          by_cases e2 : pl ≤ p ∧ p < i
          · rw [if_pos e2, if_pos ⟨by omega, by omega⟩]
          · rw [if_neg e2, if_neg (by omega)]
      · intro j hj
        rw [if_neg (by omega)]
        exact r3 j hj
      · intro col j hcol
        rw [up_c _ _ hcol]
        exact r4 col j hcol
  refine j_aload_n h d_Net_remove_0 rfl ?_
  refine j_iload_n h d_Net_remove_1 rfl ?_
  refine j_callV h (c_Net_at_w _ _ _ _ _ _ _ _ _ cs _ _ _ ht hf b70 p5 _ (by omega) (hg t _ ht (Nat.mod_lt _ (by decide))).1) d_Net_remove_2 ml_Net_35 mv_Net_at (by assumption) ⟨rfl, rfl⟩ rfl rfl (Nat.le_of_ble_eq_true rfl) (hR_of hX (by decide) (by decide)) (hf_of hX (by decide) (by decide)) ?_
  rintro _ _ _ _ ⟨rfl, rfl, rfl, rfl⟩
  refine j_astore_n h d_Net_remove_5 (Nat.lt_of_lt_of_eq (m := 4) (by decide) hN.symm) ?_
  refine j_iload_n h d_Net_remove_6 rfl ?_
  refine j_istore_n h d_Net_remove_7 (Nat.lt_of_lt_of_eq (m := 4) (by decide) hN.symm) ?_
  refine j_lv (lv' := [(0, .ref (K.ad 4 0)), (1, .int (nI pl)), (2, .ref (K.ad 5 (g t ((f + pl) % 300)))), (3, .int (nI pl))]) (lvs rfl (lvs rfl (lvs rfl (lvs rfl lvs0)))) ?_
  exact hL (N.length - 1 - pl) pl _ g (by omega) ⟨fun u j hu hj => (hg u j hu hj).1, fun p hp => by rw [if_neg (by omega)], fun _ _ => rfl, fun _ _ _ => rfl, Nat.le_refl _⟩
end
section
/-! LeasePair.deliver -/
theorem d_LP_deliverAnswer_0 : decode b_LP_deliverAnswer 0 = .ok (.aload_n 0, 1) := by decide +kernel
theorem d_LP_deliverAnswer_1 : decode b_LP_deliverAnswer 1 = .ok (.getfield 31, 3) := by decide +kernel
theorem d_LP_deliverAnswer_4 : decode b_LP_deliverAnswer 4 = .ok (.aload_n 1, 1) := by decide +kernel
theorem d_LP_deliverAnswer_5 : decode b_LP_deliverAnswer 5 = .ok (.getfield 208, 3) := by decide +kernel
theorem d_LP_deliverAnswer_8 : decode b_LP_deliverAnswer 8 = .ok (.aaload, 1) := by decide +kernel
theorem d_LP_deliverAnswer_9 : decode b_LP_deliverAnswer 9 = .ok (.astore_n 2, 1) := by decide +kernel
theorem d_LP_deliverAnswer_10 : decode b_LP_deliverAnswer 10 = .ok (.aload_n 2, 1) := by decide +kernel
theorem d_LP_deliverAnswer_11 : decode b_LP_deliverAnswer 11 = .ok (.aload_n 1, 1) := by decide +kernel
theorem d_LP_deliverAnswer_12 : decode b_LP_deliverAnswer 12 = .ok (.getfield 114, 3) := by decide +kernel
theorem d_LP_deliverAnswer_15 : decode b_LP_deliverAnswer 15 = .ok (.invokevirtual 228, 3) := by decide +kernel
theorem d_LP_deliverAnswer_18 : decode b_LP_deliverAnswer 18 = .ok (.ifCond .ne 5, 3) := by decide +kernel
theorem d_LP_deliverAnswer_21 : decode b_LP_deliverAnswer 21 = .ok (.iconst 0, 1) := by decide +kernel
theorem d_LP_deliverAnswer_22 : decode b_LP_deliverAnswer 22 = .ok (.ireturn, 1) := by decide +kernel
theorem d_LP_deliverAnswer_23 : decode b_LP_deliverAnswer 23 = .ok (.aload_n 1, 1) := by decide +kernel
theorem d_LP_deliverAnswer_24 : decode b_LP_deliverAnswer 24 = .ok (.getfield 108, 3) := by decide +kernel
theorem d_LP_deliverAnswer_27 : decode b_LP_deliverAnswer 27 = .ok (.iconst 1, 1) := by decide +kernel
theorem d_LP_deliverAnswer_28 : decode b_LP_deliverAnswer 28 = .ok (.if_icmp .ne 34, 3) := by decide +kernel
theorem d_LP_deliverAnswer_31 : decode b_LP_deliverAnswer 31 = .ok (.aload_n 2, 1) := by decide +kernel
theorem d_LP_deliverAnswer_32 : decode b_LP_deliverAnswer 32 = .ok (.aload_n 1, 1) := by decide +kernel
theorem d_LP_deliverAnswer_33 : decode b_LP_deliverAnswer 33 = .ok (.getfield 117, 3) := by decide +kernel
theorem d_LP_deliverAnswer_36 : decode b_LP_deliverAnswer 36 = .ok (.aload_n 1, 1) := by decide +kernel
theorem d_LP_deliverAnswer_37 : decode b_LP_deliverAnswer 37 = .ok (.getfield 120, 3) := by decide +kernel
theorem d_LP_deliverAnswer_40 : decode b_LP_deliverAnswer 40 = .ok (.invokevirtual 231, 3) := by decide +kernel
theorem d_LP_deliverAnswer_43 : decode b_LP_deliverAnswer 43 = .ok (.aload_n 0, 1) := by decide +kernel
theorem d_LP_deliverAnswer_44 : decode b_LP_deliverAnswer 44 = .ok (.aload_n 0, 1) := by decide +kernel
theorem d_LP_deliverAnswer_45 : decode b_LP_deliverAnswer 45 = .ok (.getfield 188, 3) := by decide +kernel
theorem d_LP_deliverAnswer_48 : decode b_LP_deliverAnswer 48 = .ok (.aload_n 0, 1) := by decide +kernel
theorem d_LP_deliverAnswer_49 : decode b_LP_deliverAnswer 49 = .ok (.aload_n 1, 1) := by decide +kernel
theorem d_LP_deliverAnswer_50 : decode b_LP_deliverAnswer 50 = .ok (.getfield 117, 3) := by decide +kernel
theorem d_LP_deliverAnswer_53 : decode b_LP_deliverAnswer 53 = .ok (.invokevirtual 235, 3) := by decide +kernel
theorem d_LP_deliverAnswer_56 : decode b_LP_deliverAnswer 56 = .ok (.invokestatic 191, 3) := by decide +kernel
theorem d_LP_deliverAnswer_59 : decode b_LP_deliverAnswer 59 = .ok (.putfield 188, 3) := by decide +kernel
theorem d_LP_deliverAnswer_62 : decode b_LP_deliverAnswer 62 = .ok (.iconst 1, 1) := by decide +kernel
theorem d_LP_deliverAnswer_63 : decode b_LP_deliverAnswer 63 = .ok (.ireturn, 1) := by decide +kernel
set_option maxRecDepth 100000 in
set_option maxHeartbeats 4000000 in
theorem c_LP_deliverAnswer (l : Launch) (K : Kx) (V : Vx) (A B C D : MI) (P : MP) (n : Nat) (cs : CS K V P n) (q : Nat) (hq : V.1 5 q) (x : Msg) (hcm : CM B q x) (c : Nat) (hc : c < 16) (hx1 : x 1 = nI c) : Ct l K md_LP_deliverAnswer (2, 45) 0 0 [.ref (K.ad 0 0), .ref (K.ad 5 q)] V (bk4 A B C D) P (EQ V (some (.int (b01 (x 5 = A 32 c ∧ ¬ A 33 c = 2)))) (bk4 (anA A c x) B C D) P) := by
  refine ct_of [(0, .ref (K.ad 0 0)), (1, .ref (K.ad 5 q))] (by decide) (Nat.le_of_ble_eq_true rfl) (ca_r (ca_r ca_n)) rfl ?_
  intro X hl hX
  have h : OkX X b_LP_deliverAnswer R_LP K := hX.1
  have hN : X.nL = 3 := hX.2.1
  have hlv := cs_lv cs
  have hcv := cs_cv cs hc
  refine j_aload_n h d_LP_deliverAnswer_0 rfl ?_
  refine j_getR h d_LP_deliverAnswer_1 fl_LP_31 rfl (by assumption) (cs_p1 cs) ?_
  refine j_aload_n h d_LP_deliverAnswer_4 rfl ?_
  refine j_get1e (v := nI c) h d_LP_deliverAnswer_5 fl_LP_208 rfl (by assumption) ((hcm.1 1 (by decide)).trans hx1) ?_
  refine j_clis h cs hc d_LP_deliverAnswer_8 ?_
  refine j_astore_n h d_LP_deliverAnswer_9 (Nat.lt_of_lt_of_eq (m := 3) (by decide) hN.symm) ?_
  refine j_aload_n h d_LP_deliverAnswer_10 rfl ?_
  refine j_aload_n h d_LP_deliverAnswer_11 rfl ?_
  refine j_get1e (v := x 5) h d_LP_deliverAnswer_12 fl_LP_114 rfl (by assumption) (hcm.1 5 (by decide)) ?_
  refine j_callV h (c_Cli_awaits _ _ _ _ _ _ _ _ _ hcv _) d_LP_deliverAnswer_15 ml_LP_228 mv_Cli_awaits (by assumption) ⟨rfl, rfl⟩ rfl rfl (Nat.le_of_ble_eq_true rfl) (hR_of hX (by decide) (by decide)) (hf_of hX (by decide) (by decide)) ?_
  rintro _ _ _ _ ⟨rfl, rfl, rfl, rfl⟩
  refine j_if_ne (tgt := 23) h d_LP_deliverAnswer_18 (by decide) (fun c1 => ?_) (fun c1 => ?_)
  · refine j_aload_n h d_LP_deliverAnswer_23 rfl ?_
    refine j_get1e (v := x 3) h d_LP_deliverAnswer_24 fl_LP_108 rfl (by assumption) (hcm.1 3 (by decide)) ?_
    refine j_iconst (v := 1) h d_LP_deliverAnswer_27 (by decide) ?_
    refine j_ic_ne (tgt := 62) h d_LP_deliverAnswer_28 (by decide) (fun c2 => ?_) (fun c2 => ?_)
    · refine j_iconst (v := 1) h d_LP_deliverAnswer_62 (by decide) ?_
      exact j_zret hX d_LP_deliverAnswer_63 rfl (by first | exact Or.inl rfl | exact Or.inr rfl | exact b01_z _ | assumption) (Nat.le_refl _) (Nat.le_refl _) ⟨rfl, by clear hX h hl; first | (simp_all [b01]; done) | grind [b01], by clear hX h hl; first | (simp_all [anA, b01_0, b01_1]; done) | grind [anA, b01_0, b01_1], rfl⟩
    · refine j_aload_n h d_LP_deliverAnswer_31 rfl ?_
      refine j_aload_n h d_LP_deliverAnswer_32 rfl ?_
      refine j_get1e (v := x 4) h d_LP_deliverAnswer_33 fl_LP_117 rfl (by assumption) (hcm.1 4 (by decide)) ?_
      refine j_aload_n h d_LP_deliverAnswer_36 rfl ?_
      refine j_get1e (v := x 6) h d_LP_deliverAnswer_37 fl_LP_120 rfl (by assumption) (hcm.1 6 (by decide)) ?_
      refine j_callV h (c_Cli_takeLease _ _ _ _ _ _ _ _ _ hcv _ _) d_LP_deliverAnswer_40 ml_LP_231 mv_Cli_takeLease (by assumption) ⟨rfl, rfl⟩ rfl rfl (Nat.le_of_ble_eq_true rfl) (hR_of hX (by decide) (by decide)) (hf_of hX (by decide) (by decide)) ?_
      rintro _ _ _ _ ⟨rfl, rfl, rfl, rfl⟩
      refine j_aload_n h d_LP_deliverAnswer_43 rfl ?_
      refine j_aload_n h d_LP_deliverAnswer_44 rfl ?_
      refine j_get0e (v := A 41 0) h d_LP_deliverAnswer_45 fl_LP_188 rfl (by assumption) (by simp [up_rd]) ?_
      refine j_aload_n h d_LP_deliverAnswer_48 rfl ?_
      refine j_aload_n h d_LP_deliverAnswer_49 rfl ?_
      refine j_get1e (v := x 4) h d_LP_deliverAnswer_50 fl_LP_117 rfl (by assumption) (hcm.1 4 (by decide)) ?_
      refine j_callV h (c_LP_countHolders _ _ _ _ _ _ _ _ _ cs _) d_LP_deliverAnswer_53 ml_LP_235 mv_LP_countHolders (by assumption) ⟨rfl, rfl⟩ rfl rfl (Nat.le_of_ble_eq_true rfl) (hR_of hX (by decide) (by decide)) (hf_of hX (by decide) (by decide)) ?_
      rintro _ _ _ _ ⟨rfl, rfl, rfl, rfl⟩
      refine j_mmax h d_LP_deliverAnswer_56 wm_LP_191 (hM_of hX (by decide) (Nat.le_of_ble_eq_true rfl)) (hf_of (mc' := 0) (ms' := 0) hX (by decide) (by decide)) ?_
      refine j_put0 h d_LP_deliverAnswer_59 fw_LP_188 rfl rfl (by assumption) ?_
      refine j_iconst (v := 1) h d_LP_deliverAnswer_62 (by decide) ?_
      exact j_zret hX d_LP_deliverAnswer_63 rfl (by first | exact Or.inl rfl | exact Or.inr rfl | exact b01_z _ | assumption) (Nat.le_refl _) (Nat.le_refl _) ⟨rfl, by clear hX h hl; first | (simp_all [b01]; done) | grind [b01], by clear hX h hl; first | (simp_all [anA, b01_0, b01_1]; done) | grind [anA, b01_0, b01_1], rfl⟩
  · refine j_iconst (v := 0) h d_LP_deliverAnswer_21 (by decide) ?_
    exact j_zret hX d_LP_deliverAnswer_22 rfl (by first | exact Or.inl rfl | exact Or.inr rfl | exact b01_z _ | assumption) (Nat.le_refl _) (Nat.le_refl _) ⟨rfl, by clear hX h hl; first | (simp_all [b01]; done) | grind [b01], by clear hX h hl; first | (simp_all [anA, b01_0, b01_1]; done) | grind [anA, b01_0, b01_1], rfl⟩
theorem c_Srv_hearAck_x (l : Launch) (K : Kx) (V : Vx) (A B C D : MI) (P : MP) (n : Nat) (cs : CS K V P n) (s : Nat) (hs : s < 2) (q : Nat) (hq : V.1 5 q) (a : Nat) (ha : a < n) (x : Msg) (hcm : CM B q x) (h4 : x 0 = 4) (hxa : x 4 = nI a) : Ct l K md_Srv_hearAck (2, 41) 0 0 [.ref (K.ad 1 s), .ref (K.ad 5 q)] V (bk4 A B C D) P (EQ V none (bk4 (hrAck A (32 * s + a) s (x 5) (x 6) (x 7) (x 8)) B C D) P) := by
  have e := c_Srv_hearAck l K V A B C D P n cs s hs q hq a ha ((hcm.1 4 (by decide)).trans hxa)
  rw [show B 85 q = x 5 from hcm.1 5 (by decide), show B 86 q = x 6 from hcm.1 6 (by decide), (hcm.2.2 h4).1, (hcm.2.2 h4).2] at e
  exact e
theorem d_LP_deliver_0 : decode b_LP_deliver 0 = .ok (.aload_n 1, 1) := by decide +kernel
theorem d_LP_deliver_1 : decode b_LP_deliver 1 = .ok (.getfield 202, 3) := by decide +kernel
theorem d_LP_deliver_4 : decode b_LP_deliver 4 = .ok (.iconst 1, 1) := by decide +kernel
theorem d_LP_deliver_5 : decode b_LP_deliver 5 = .ok (.if_icmp .ne 9, 3) := by decide +kernel
theorem d_LP_deliver_8 : decode b_LP_deliver 8 = .ok (.aload_n 0, 1) := by decide +kernel
theorem d_LP_deliver_9 : decode b_LP_deliver 9 = .ok (.aload_n 1, 1) := by decide +kernel
theorem d_LP_deliver_10 : decode b_LP_deliver 10 = .ok (.invokevirtual 205, 3) := by decide +kernel
theorem d_LP_deliver_13 : decode b_LP_deliver 13 = .ok (.ireturn, 1) := by decide +kernel
theorem d_LP_deliver_14 : decode b_LP_deliver 14 = .ok (.aload_n 0, 1) := by decide +kernel
theorem d_LP_deliver_15 : decode b_LP_deliver 15 = .ok (.getfield 22, 3) := by decide +kernel
theorem d_LP_deliver_18 : decode b_LP_deliver 18 = .ok (.aload_n 1, 1) := by decide +kernel
theorem d_LP_deliver_19 : decode b_LP_deliver 19 = .ok (.getfield 208, 3) := by decide +kernel
theorem d_LP_deliver_22 : decode b_LP_deliver 22 = .ok (.aaload, 1) := by decide +kernel
theorem d_LP_deliver_23 : decode b_LP_deliver 23 = .ok (.astore_n 2, 1) := by decide +kernel
theorem d_LP_deliver_24 : decode b_LP_deliver 24 = .ok (.aload_n 2, 1) := by decide +kernel
theorem d_LP_deliver_25 : decode b_LP_deliver 25 = .ok (.aload_n 1, 1) := by decide +kernel
theorem d_LP_deliver_26 : decode b_LP_deliver 26 = .ok (.getfield 202, 3) := by decide +kernel
theorem d_LP_deliver_29 : decode b_LP_deliver 29 = .ok (.invokevirtual 211, 3) := by decide +kernel
theorem d_LP_deliver_32 : decode b_LP_deliver 32 = .ok (.ifCond .ne 5, 3) := by decide +kernel
theorem d_LP_deliver_35 : decode b_LP_deliver 35 = .ok (.iconst 0, 1) := by decide +kernel
theorem d_LP_deliver_36 : decode b_LP_deliver 36 = .ok (.ireturn, 1) := by decide +kernel
theorem d_LP_deliver_37 : decode b_LP_deliver 37 = .ok (.aload_n 1, 1) := by decide +kernel
theorem d_LP_deliver_38 : decode b_LP_deliver 38 = .ok (.getfield 202, 3) := by decide +kernel
theorem d_LP_deliver_41 : decode b_LP_deliver 41 = .ok (.tableswitch 77 0 3 #[31, 77, 48, 60], 31) := by decide +kernel
theorem d_LP_deliver_72 : decode b_LP_deliver 72 = .ok (.aload_n 2, 1) := by decide +kernel
theorem d_LP_deliver_73 : decode b_LP_deliver 73 = .ok (.aload_n 1, 1) := by decide +kernel
theorem d_LP_deliver_74 : decode b_LP_deliver 74 = .ok (.aload_n 0, 1) := by decide +kernel
theorem d_LP_deliver_75 : decode b_LP_deliver 75 = .ok (.aload_n 2, 1) := by decide +kernel
theorem d_LP_deliver_76 : decode b_LP_deliver 76 = .ok (.invokevirtual 89, 3) := by decide +kernel
theorem d_LP_deliver_79 : decode b_LP_deliver 79 = .ok (.aload_n 0, 1) := by decide +kernel
theorem d_LP_deliver_80 : decode b_LP_deliver 80 = .ok (.getfield 39, 3) := by decide +kernel
theorem d_LP_deliver_83 : decode b_LP_deliver 83 = .ok (.invokevirtual 214, 3) := by decide +kernel
theorem d_LP_deliver_86 : decode b_LP_deliver 86 = .ok (.goto 37, 3) := by decide +kernel
theorem d_LP_deliver_89 : decode b_LP_deliver 89 = .ok (.aload_n 2, 1) := by decide +kernel
theorem d_LP_deliver_90 : decode b_LP_deliver 90 = .ok (.aload_n 1, 1) := by decide +kernel
theorem d_LP_deliver_91 : decode b_LP_deliver 91 = .ok (.aload_n 0, 1) := by decide +kernel
theorem d_LP_deliver_92 : decode b_LP_deliver 92 = .ok (.getfield 39, 3) := by decide +kernel
theorem d_LP_deliver_95 : decode b_LP_deliver 95 = .ok (.invokevirtual 218, 3) := by decide +kernel
theorem d_LP_deliver_98 : decode b_LP_deliver 98 = .ok (.goto 25, 3) := by decide +kernel
theorem d_LP_deliver_101 : decode b_LP_deliver 101 = .ok (.aload_n 2, 1) := by decide +kernel
theorem d_LP_deliver_102 : decode b_LP_deliver 102 = .ok (.aload_n 1, 1) := by decide +kernel
theorem d_LP_deliver_103 : decode b_LP_deliver 103 = .ok (.aload_n 0, 1) := by decide +kernel
theorem d_LP_deliver_104 : decode b_LP_deliver 104 = .ok (.aload_n 2, 1) := by decide +kernel
theorem d_LP_deliver_105 : decode b_LP_deliver 105 = .ok (.invokevirtual 89, 3) := by decide +kernel
theorem d_LP_deliver_108 : decode b_LP_deliver 108 = .ok (.aload_n 0, 1) := by decide +kernel
theorem d_LP_deliver_109 : decode b_LP_deliver 109 = .ok (.getfield 39, 3) := by decide +kernel
theorem d_LP_deliver_112 : decode b_LP_deliver 112 = .ok (.invokevirtual 222, 3) := by decide +kernel
theorem d_LP_deliver_115 : decode b_LP_deliver 115 = .ok (.goto 8, 3) := by decide +kernel
theorem d_LP_deliver_118 : decode b_LP_deliver 118 = .ok (.aload_n 2, 1) := by decide +kernel
theorem d_LP_deliver_119 : decode b_LP_deliver 119 = .ok (.aload_n 1, 1) := by decide +kernel
theorem d_LP_deliver_120 : decode b_LP_deliver 120 = .ok (.invokevirtual 225, 3) := by decide +kernel
theorem d_LP_deliver_123 : decode b_LP_deliver 123 = .ok (.iconst 1, 1) := by decide +kernel
theorem d_LP_deliver_124 : decode b_LP_deliver 124 = .ok (.ireturn, 1) := by decide +kernel
set_option maxRecDepth 100000 in
set_option maxHeartbeats 4000000 in
theorem c_LP_deliver (l : Launch) (K : Kx) (V : Vx) (A B C D : MI) (P : MP) (n : Nat) (cs : CS K V P n) (ld sk : Int32) (N T : List Msg) (U : Msg) (hnc : NC K P B ld sk N T U) (q : Nat) (hq : V.1 5 q) (x : Msg) (hcm : CM B q x) (hoff : offR K P q) (hvm : VMsg n x) (hz : ∀ i, A 14 i = 0 ∨ A 14 i = 1) : Ct l K md_LP_deliver (6, 115) 0 0 [.ref (K.ad 0 0), .ref (K.ad 5 q)] V (bk4 A B C D) P (NP K V C D P ld sk (some (.int (dlR A x))) (dlA A n ld x) (dlN A n ld x N) T U) := by
  refine ct_of [(0, .ref (K.ad 0 0)), (1, .ref (K.ad 5 q))] (by decide) (Nat.le_of_ble_eq_true rfl) (ca_r (ca_r ca_n)) rfl ?_
  intro X hl hX
  have h : OkX X b_LP_deliver R_LP K := hX.1
  have hN : X.nL = 3 := hX.2.1
  have hn31 := cs_n31 cs
  have hlv := cs_lv cs
  rcases hvm with ⟨h0, s, c, hs, hc, hx1, hx2, hk⟩ | ⟨h0, c, hc, hx1, hk⟩ | ⟨h0, s, hs, hx1⟩ | ⟨h0, s, a, hs, ha, hx1, hx4, hx11⟩
  · have hsv := cs_sv cs hs
    have hcl : (x 1).toNatClampNeg = s := by rw [hx1]; exact nI_clamp (by omega)
    have eR : dlR A x = hrs A s (x 0) := by unfold dlR; rw [if_neg (by rw [h0]; decide), hcl]
    refine j_aload_n h d_LP_deliver_0 rfl ?_
    refine j_get1e (v := x 0) h d_LP_deliver_1 fl_LP_202 rfl (by assumption) (hcm.1 0 (by decide)) ?_
    refine j_iconst (v := 1) h d_LP_deliver_4 (by decide) ?_
    refine j_ic_ne (tgt := 14) h d_LP_deliver_5 (by decide) (fun _ => ?_) (fun z => absurd (h0.symm.trans z) (by decide))
    refine j_aload_n h d_LP_deliver_14 rfl ?_
    refine j_getR h d_LP_deliver_15 fl_LP_22 rfl (by assumption) (cs_p0 cs) ?_
    refine j_aload_n h d_LP_deliver_18 rfl ?_
    refine j_get1e (v := nI s) h d_LP_deliver_19 fl_LP_208 rfl (by assumption) ((hcm.1 1 (by decide)).trans hx1) ?_
    refine j_srvs h cs hs d_LP_deliver_22 ?_
    refine j_astore_n h d_LP_deliver_23 (Nat.lt_of_lt_of_eq (m := 3) (by decide) hN.symm) ?_
    refine j_aload_n h d_LP_deliver_24 rfl ?_
    refine j_aload_n h d_LP_deliver_25 rfl ?_
    refine j_get1e (v := x 0) h d_LP_deliver_26 fl_LP_202 rfl (by assumption) (hcm.1 0 (by decide)) ?_
    refine j_callV h (c_Srv_hears _ _ _ _ _ _ _ _ _ hsv _) d_LP_deliver_29 ml_LP_211 mv_Srv_hears (by assumption) ⟨rfl, rfl⟩ rfl rfl (Nat.le_of_ble_eq_true rfl) (hR_of hX (by decide) (by decide)) (hf_of hX (by decide) (by decide)) ?_
    rintro _ _ _ _ ⟨rfl, rfl, rfl, rfl⟩
    refine j_if_ne (tgt := 37) h d_LP_deliver_32 (by decide) (fun c1 => ?_) (fun c1 => ?_)
    · rcases hk with hk | ⟨hk | hk, a, ha, hx4⟩
      · skip
        have hr1 : hrs A s (x 0) = 1 := (b01_z _).resolve_left c1
        rw [eR, hr1, show dlA A n ld x = hnwA A s n ld (clk A s) x by unfold dlA; rw [if_neg (by rw [h0]; decide), hcl, if_neg (by rw [hr1]; decide), if_pos h0, if_neg (by rw [hk]; decide), if_neg (by rw [hk]; decide)], show dlN A n ld x N = hnwN A s n ld (clk A s) x N by unfold dlN; rw [if_neg (by rw [h0]; decide), hcl, if_neg (by rw [hr1]; decide), if_pos h0, if_neg (by rw [hk]; decide), if_neg (by rw [hk]; decide)]] at hX
        refine j_aload_n h d_LP_deliver_37 rfl ?_
        refine j_get1e (v := x 0) h d_LP_deliver_38 fl_LP_202 rfl (by assumption) (hcm.1 0 (by decide)) ?_
        rw [show (Value.int (x 0)) = Value.int 0 by rw [h0]]
        refine j_tabIn (off := 31) (tgt := 72) h d_LP_deliver_41 (by decide +kernel) (by decide +kernel) (by decide +kernel) (by decide) ?_
        refine j_aload_n h d_LP_deliver_72 rfl ?_
        refine j_aload_n h d_LP_deliver_73 rfl ?_
        refine j_aload_n h d_LP_deliver_74 rfl ?_
        refine j_aload_n h d_LP_deliver_75 rfl ?_
        refine j_callV h (c_LP_clockOf _ _ _ _ _ _ _ _ hlv _ hsv) d_LP_deliver_76 ml_LP_89 mv_LP_clockOf (by assumption) ⟨rfl, rfl⟩ rfl rfl (Nat.le_of_ble_eq_true rfl) (hR_of hX (by decide) (by decide)) (hf_of hX (by decide) (by decide)) ?_
        rintro _ _ _ _ ⟨rfl, rfl, rfl, rfl⟩
        refine j_aload_n h d_LP_deliver_79 rfl ?_
        refine j_getR h d_LP_deliver_80 fl_LP_39 rfl (by assumption) (cs_p2 cs) ?_
        refine j_callV h (c_Srv_hearRequest_new _ _ _ _ _ _ _ _ _ cs _ hs _ _ _ _ _ hnc _ hq _ hcm hoff _ hk) d_LP_deliver_83 ml_LP_214 mv_Srv_hearRequest (by assumption) ⟨rfl, rfl⟩ rfl rfl (Nat.le_of_ble_eq_true rfl) (hR_of hX (by decide) (by decide)) (hf_of hX (by decide) (by decide)) ?_
        rintro _ _ _ _ ⟨rfl, rfl, rfl, B2, rfl, hn2⟩
        refine j_goto (tgt := 123) h d_LP_deliver_86 (by decide) ?_
        refine j_iconst (v := 1) h d_LP_deliver_123 (by decide) ?_
        exact j_zret hX d_LP_deliver_124 rfl (by first | exact Or.inl rfl | exact Or.inr rfl | exact b01_z _ | assumption) (Nat.le_refl _) (Nat.le_refl _) ⟨rfl, rfl, rfl, _, rfl, hn2⟩
      · have hca : (x 4).toNatClampNeg = a := by rw [hx4]; exact nI_clamp (by omega)
        have hr1 : hrs A s (x 0) = 1 := (b01_z _).resolve_left c1
        rw [eR, hr1, show dlA A n ld x = hrnA A s a ld (clk A s) x by unfold dlA; rw [if_neg (by rw [h0]; decide), hcl, if_neg (by rw [hr1]; decide), if_pos h0, if_neg (by rw [hk]; decide), if_pos hk, hca], show dlN A n ld x N = hrnN A s a ld (clk A s) x N by unfold dlN; rw [if_neg (by rw [h0]; decide), hcl, if_neg (by rw [hr1]; decide), if_pos h0, if_neg (by rw [hk]; decide), if_pos hk, hca]] at hX
        refine j_aload_n h d_LP_deliver_37 rfl ?_
        refine j_get1e (v := x 0) h d_LP_deliver_38 fl_LP_202 rfl (by assumption) (hcm.1 0 (by decide)) ?_
        rw [show (Value.int (x 0)) = Value.int 0 by rw [h0]]
        refine j_tabIn (off := 31) (tgt := 72) h d_LP_deliver_41 (by decide +kernel) (by decide +kernel) (by decide +kernel) (by decide) ?_
        refine j_aload_n h d_LP_deliver_72 rfl ?_
        refine j_aload_n h d_LP_deliver_73 rfl ?_
        refine j_aload_n h d_LP_deliver_74 rfl ?_
        refine j_aload_n h d_LP_deliver_75 rfl ?_
        refine j_callV h (c_LP_clockOf _ _ _ _ _ _ _ _ hlv _ hsv) d_LP_deliver_76 ml_LP_89 mv_LP_clockOf (by assumption) ⟨rfl, rfl⟩ rfl rfl (Nat.le_of_ble_eq_true rfl) (hR_of hX (by decide) (by decide)) (hf_of hX (by decide) (by decide)) ?_
        rintro _ _ _ _ ⟨rfl, rfl, rfl, rfl⟩
        refine j_aload_n h d_LP_deliver_79 rfl ?_
        refine j_getR h d_LP_deliver_80 fl_LP_39 rfl (by assumption) (cs_p2 cs) ?_
        refine j_callV h (c_Srv_hearRequest_renew _ _ _ _ _ _ _ _ _ cs _ hs _ _ _ _ _ hnc _ hq _ hcm hoff _ hk _ ha hx4) d_LP_deliver_83 ml_LP_214 mv_Srv_hearRequest (by assumption) ⟨rfl, rfl⟩ rfl rfl (Nat.le_of_ble_eq_true rfl) (hR_of hX (by decide) (by decide)) (hf_of hX (by decide) (by decide)) ?_
        rintro _ _ _ _ ⟨rfl, rfl, rfl, B2, rfl, hn2⟩
        refine j_goto (tgt := 123) h d_LP_deliver_86 (by decide) ?_
        refine j_iconst (v := 1) h d_LP_deliver_123 (by decide) ?_
        exact j_zret hX d_LP_deliver_124 rfl (by first | exact Or.inl rfl | exact Or.inr rfl | exact b01_z _ | assumption) (Nat.le_refl _) (Nat.le_refl _) ⟨rfl, rfl, rfl, _, rfl, hn2⟩
      · have hca : (x 4).toNatClampNeg = a := by rw [hx4]; exact nI_clamp (by omega)
        have hr1 : hrs A s (x 0) = 1 := (b01_z _).resolve_left c1
        rw [eR, hr1, show dlA A n ld x = hrRel A (32 * s + a) s (x 2) (x 5) by unfold dlA; rw [if_neg (by rw [h0]; decide), hcl, if_neg (by rw [hr1]; decide), if_pos h0, if_pos hk, hca], show dlN A n ld x N = N by unfold dlN; rw [if_neg (by rw [h0]; decide), hcl, if_neg (by rw [hr1]; decide), if_pos h0, if_pos hk]] at hX
        refine j_aload_n h d_LP_deliver_37 rfl ?_
        refine j_get1e (v := x 0) h d_LP_deliver_38 fl_LP_202 rfl (by assumption) (hcm.1 0 (by decide)) ?_
        rw [show (Value.int (x 0)) = Value.int 0 by rw [h0]]
        refine j_tabIn (off := 31) (tgt := 72) h d_LP_deliver_41 (by decide +kernel) (by decide +kernel) (by decide +kernel) (by decide) ?_
        refine j_aload_n h d_LP_deliver_72 rfl ?_
        refine j_aload_n h d_LP_deliver_73 rfl ?_
        refine j_aload_n h d_LP_deliver_74 rfl ?_
        refine j_aload_n h d_LP_deliver_75 rfl ?_
        refine j_callV h (c_LP_clockOf _ _ _ _ _ _ _ _ hlv _ hsv) d_LP_deliver_76 ml_LP_89 mv_LP_clockOf (by assumption) ⟨rfl, rfl⟩ rfl rfl (Nat.le_of_ble_eq_true rfl) (hR_of hX (by decide) (by decide)) (hf_of hX (by decide) (by decide)) ?_
        rintro _ _ _ _ ⟨rfl, rfl, rfl, rfl⟩
        refine j_aload_n h d_LP_deliver_79 rfl ?_
        refine j_getR h d_LP_deliver_80 fl_LP_39 rfl (by assumption) (cs_p2 cs) ?_
        refine j_callV h (c_Srv_hearRequest_rel _ _ _ _ _ _ _ _ _ cs _ hs _ _ _ _ _ hnc _ hq _ hcm hoff _ hk _ ha hx4) d_LP_deliver_83 ml_LP_214 mv_Srv_hearRequest (by assumption) ⟨rfl, rfl⟩ rfl rfl (Nat.le_of_ble_eq_true rfl) (hR_of hX (by decide) (by decide)) (hf_of hX (by decide) (by decide)) ?_
        rintro _ _ _ _ ⟨rfl, rfl, rfl, B2, rfl, hn2⟩
        refine j_goto (tgt := 123) h d_LP_deliver_86 (by decide) ?_
        refine j_iconst (v := 1) h d_LP_deliver_123 (by decide) ?_
        exact j_zret hX d_LP_deliver_124 rfl (by first | exact Or.inl rfl | exact Or.inr rfl | exact b01_z _ | assumption) (Nat.le_refl _) (Nat.le_refl _) ⟨rfl, rfl, rfl, _, rfl, hn2⟩
    · have c1 : hrs A s (x 0) = 0 := c1
      rw [eR, c1, show dlA A n ld x = A by unfold dlA; rw [if_neg (by rw [h0]; decide), hcl, if_pos c1], show dlN A n ld x N = N by unfold dlN; rw [if_neg (by rw [h0]; decide), hcl, if_pos c1]] at hX
      refine j_iconst (v := 0) h d_LP_deliver_35 (by decide) ?_
      exact j_zret hX d_LP_deliver_36 rfl (by first | exact Or.inl rfl | exact Or.inr rfl | exact b01_z _ | assumption) (Nat.le_refl _) (Nat.le_refl _) ⟨rfl, rfl, rfl, _, rfl, hnc⟩
  · have hcl : (x 1).toNatClampNeg = c := by rw [hx1]; exact nI_clamp (by omega)
    rw [show dlR A x = b01 (x 5 = A 32 c ∧ ¬ A 33 c = 2) by unfold dlR; rw [if_pos h0, hcl], show dlA A n ld x = anA A c x by unfold dlA; rw [if_pos h0, hcl], show dlN A n ld x N = N by unfold dlN; rw [if_pos h0]] at hX
    refine j_aload_n h d_LP_deliver_0 rfl ?_
    refine j_get1e (v := x 0) h d_LP_deliver_1 fl_LP_202 rfl (by assumption) (hcm.1 0 (by decide)) ?_
    refine j_iconst (v := 1) h d_LP_deliver_4 (by decide) ?_
    refine j_ic_ne (tgt := 14) h d_LP_deliver_5 (by decide) (fun z => absurd h0 z) (fun _ => ?_)
    refine j_aload_n h d_LP_deliver_8 rfl ?_
    refine j_aload_n h d_LP_deliver_9 rfl ?_
    refine j_callV h (c_LP_deliverAnswer _ _ _ _ _ _ _ _ _ cs _ hq _ hcm _ hc hx1) d_LP_deliver_10 ml_LP_205 mv_LP_deliverAnswer (by assumption) ⟨rfl, rfl⟩ rfl rfl (Nat.le_of_ble_eq_true rfl) (hR_of hX (by decide) (by decide)) (hf_of hX (by decide) (by decide)) ?_
    rintro _ _ _ _ ⟨rfl, rfl, rfl, rfl⟩
    exact j_zret hX d_LP_deliver_13 rfl (by first | exact Or.inl rfl | exact Or.inr rfl | exact b01_z _ | assumption) (Nat.le_refl _) (Nat.le_refl _) ⟨rfl, rfl, rfl, _, rfl, hnc⟩
  · have hsv := cs_sv cs hs
    have hcl : (x 1).toNatClampNeg = s := by rw [hx1]; exact nI_clamp (by omega)
    have eR : dlR A x = hrs A s (x 0) := by unfold dlR; rw [if_neg (by rw [h0]; decide), hcl]
    refine j_aload_n h d_LP_deliver_0 rfl ?_
    refine j_get1e (v := x 0) h d_LP_deliver_1 fl_LP_202 rfl (by assumption) (hcm.1 0 (by decide)) ?_
    refine j_iconst (v := 1) h d_LP_deliver_4 (by decide) ?_
    refine j_ic_ne (tgt := 14) h d_LP_deliver_5 (by decide) (fun _ => ?_) (fun z => absurd (h0.symm.trans z) (by decide))
    refine j_aload_n h d_LP_deliver_14 rfl ?_
    refine j_getR h d_LP_deliver_15 fl_LP_22 rfl (by assumption) (cs_p0 cs) ?_
    refine j_aload_n h d_LP_deliver_18 rfl ?_
    refine j_get1e (v := nI s) h d_LP_deliver_19 fl_LP_208 rfl (by assumption) ((hcm.1 1 (by decide)).trans hx1) ?_
    refine j_srvs h cs hs d_LP_deliver_22 ?_
    refine j_astore_n h d_LP_deliver_23 (Nat.lt_of_lt_of_eq (m := 3) (by decide) hN.symm) ?_
    refine j_aload_n h d_LP_deliver_24 rfl ?_
    refine j_aload_n h d_LP_deliver_25 rfl ?_
    refine j_get1e (v := x 0) h d_LP_deliver_26 fl_LP_202 rfl (by assumption) (hcm.1 0 (by decide)) ?_
    refine j_callV h (c_Srv_hears _ _ _ _ _ _ _ _ _ hsv _) d_LP_deliver_29 ml_LP_211 mv_Srv_hears (by assumption) ⟨rfl, rfl⟩ rfl rfl (Nat.le_of_ble_eq_true rfl) (hR_of hX (by decide) (by decide)) (hf_of hX (by decide) (by decide)) ?_
    rintro _ _ _ _ ⟨rfl, rfl, rfl, rfl⟩
    refine j_if_ne (tgt := 37) h d_LP_deliver_32 (by decide) (fun c1 => ?_) (fun c1 => ?_)
    · have hr1 : hrs A s (x 0) = 1 := (b01_z _).resolve_left c1
      rw [eR, hr1, show dlA A n ld x = hhA A s n (x 5) by unfold dlA; rw [if_neg (by rw [h0]; decide), hcl, if_neg (by rw [hr1]; decide), if_neg (by rw [h0]; decide), if_pos h0], show dlN A n ld x N = hhN A s n (x 5) N by unfold dlN; rw [if_neg (by rw [h0]; decide), hcl, if_neg (by rw [hr1]; decide), if_neg (by rw [h0]; decide), if_pos h0]] at hX
      refine j_aload_n h d_LP_deliver_37 rfl ?_
      refine j_get1e (v := x 0) h d_LP_deliver_38 fl_LP_202 rfl (by assumption) (hcm.1 0 (by decide)) ?_
      rw [show (Value.int (x 0)) = Value.int 2 by rw [h0]]
      refine j_tabIn (off := 48) (tgt := 89) h d_LP_deliver_41 (by decide +kernel) (by decide +kernel) (by decide +kernel) (by decide) ?_
      refine j_aload_n h d_LP_deliver_89 rfl ?_
      refine j_aload_n h d_LP_deliver_90 rfl ?_
      refine j_aload_n h d_LP_deliver_91 rfl ?_
      refine j_getR h d_LP_deliver_92 fl_LP_39 rfl (by assumption) (cs_p2 cs) ?_
      refine j_callV h (c_Srv_hearHello _ _ _ _ _ _ _ _ _ cs _ hs _ _ _ _ _ hnc _ hq _ hcm hz) d_LP_deliver_95 ml_LP_218 mv_Srv_hearHello (by assumption) ⟨rfl, rfl⟩ rfl rfl (Nat.le_of_ble_eq_true rfl) (hR_of hX (by decide) (by decide)) (hf_of hX (by decide) (by decide)) ?_
      rintro _ _ _ _ ⟨rfl, rfl, rfl, B2, rfl, hn2⟩
      refine j_goto (tgt := 123) h d_LP_deliver_98 (by decide) ?_
      refine j_iconst (v := 1) h d_LP_deliver_123 (by decide) ?_
      exact j_zret hX d_LP_deliver_124 rfl (by first | exact Or.inl rfl | exact Or.inr rfl | exact b01_z _ | assumption) (Nat.le_refl _) (Nat.le_refl _) ⟨rfl, rfl, rfl, _, rfl, hn2⟩
    · have c1 : hrs A s (x 0) = 0 := c1
      rw [eR, c1, show dlA A n ld x = A by unfold dlA; rw [if_neg (by rw [h0]; decide), hcl, if_pos c1], show dlN A n ld x N = N by unfold dlN; rw [if_neg (by rw [h0]; decide), hcl, if_pos c1]] at hX
      refine j_iconst (v := 0) h d_LP_deliver_35 (by decide) ?_
      exact j_zret hX d_LP_deliver_36 rfl (by first | exact Or.inl rfl | exact Or.inr rfl | exact b01_z _ | assumption) (Nat.le_refl _) (Nat.le_refl _) ⟨rfl, rfl, rfl, _, rfl, hnc⟩
  · have hca : (x 4).toNatClampNeg = a := by rw [hx4]; exact nI_clamp (by omega)
    rcases h0 with h0 | h0
    · have hsv := cs_sv cs hs
      have hcl : (x 1).toNatClampNeg = s := by rw [hx1]; exact nI_clamp (by omega)
      have eR : dlR A x = hrs A s (x 0) := by unfold dlR; rw [if_neg (by rw [h0]; decide), hcl]
      refine j_aload_n h d_LP_deliver_0 rfl ?_
      refine j_get1e (v := x 0) h d_LP_deliver_1 fl_LP_202 rfl (by assumption) (hcm.1 0 (by decide)) ?_
      refine j_iconst (v := 1) h d_LP_deliver_4 (by decide) ?_
      refine j_ic_ne (tgt := 14) h d_LP_deliver_5 (by decide) (fun _ => ?_) (fun z => absurd (h0.symm.trans z) (by decide))
      refine j_aload_n h d_LP_deliver_14 rfl ?_
      refine j_getR h d_LP_deliver_15 fl_LP_22 rfl (by assumption) (cs_p0 cs) ?_
      refine j_aload_n h d_LP_deliver_18 rfl ?_
      refine j_get1e (v := nI s) h d_LP_deliver_19 fl_LP_208 rfl (by assumption) ((hcm.1 1 (by decide)).trans hx1) ?_
      refine j_srvs h cs hs d_LP_deliver_22 ?_
      refine j_astore_n h d_LP_deliver_23 (Nat.lt_of_lt_of_eq (m := 3) (by decide) hN.symm) ?_
      refine j_aload_n h d_LP_deliver_24 rfl ?_
      refine j_aload_n h d_LP_deliver_25 rfl ?_
      refine j_get1e (v := x 0) h d_LP_deliver_26 fl_LP_202 rfl (by assumption) (hcm.1 0 (by decide)) ?_
      refine j_callV h (c_Srv_hears _ _ _ _ _ _ _ _ _ hsv _) d_LP_deliver_29 ml_LP_211 mv_Srv_hears (by assumption) ⟨rfl, rfl⟩ rfl rfl (Nat.le_of_ble_eq_true rfl) (hR_of hX (by decide) (by decide)) (hf_of hX (by decide) (by decide)) ?_
      rintro _ _ _ _ ⟨rfl, rfl, rfl, rfl⟩
      refine j_if_ne (tgt := 37) h d_LP_deliver_32 (by decide) (fun c1 => ?_) (fun c1 => ?_)
      · have hr1 : hrs A s (x 0) = 1 := (b01_z _).resolve_left c1
        rw [eR, hr1, show dlA A n ld x = hupA A (32 * s + a) s n (clk A s) x by unfold dlA; rw [if_neg (by rw [h0]; decide), hcl, if_neg (by rw [hr1]; decide), if_neg (by rw [h0]; decide), if_neg (by rw [h0]; decide), if_pos h0, hca], show dlN A n ld x N = hupN A s a n (clk A s) x N by unfold dlN; rw [if_neg (by rw [h0]; decide), hcl, if_neg (by rw [hr1]; decide), if_neg (by rw [h0]; decide), if_neg (by rw [h0]; decide), if_pos h0, hca]] at hX
        refine j_aload_n h d_LP_deliver_37 rfl ?_
        refine j_get1e (v := x 0) h d_LP_deliver_38 fl_LP_202 rfl (by assumption) (hcm.1 0 (by decide)) ?_
        rw [show (Value.int (x 0)) = Value.int 3 by rw [h0]]
        refine j_tabIn (off := 60) (tgt := 101) h d_LP_deliver_41 (by decide +kernel) (by decide +kernel) (by decide +kernel) (by decide) ?_
        refine j_aload_n h d_LP_deliver_101 rfl ?_
        refine j_aload_n h d_LP_deliver_102 rfl ?_
        refine j_aload_n h d_LP_deliver_103 rfl ?_
        refine j_aload_n h d_LP_deliver_104 rfl ?_
        refine j_callV h (c_LP_clockOf _ _ _ _ _ _ _ _ hlv _ hsv) d_LP_deliver_105 ml_LP_89 mv_LP_clockOf (by assumption) ⟨rfl, rfl⟩ rfl rfl (Nat.le_of_ble_eq_true rfl) (hR_of hX (by decide) (by decide)) (hf_of hX (by decide) (by decide)) ?_
        rintro _ _ _ _ ⟨rfl, rfl, rfl, rfl⟩
        refine j_aload_n h d_LP_deliver_108 rfl ?_
        refine j_getR h d_LP_deliver_109 fl_LP_39 rfl (by assumption) (cs_p2 cs) ?_
        refine j_callV h (c_Srv_hearUpdate _ _ _ _ _ _ _ _ _ cs _ hs _ _ _ _ _ hnc _ hq _ hcm h0 hoff _ ha hx4 _) d_LP_deliver_112 ml_LP_222 mv_Srv_hearUpdate (by assumption) ⟨rfl, rfl⟩ rfl rfl (Nat.le_of_ble_eq_true rfl) (hR_of hX (by decide) (by decide)) (hf_of hX (by decide) (by decide)) ?_
        rintro _ _ _ _ ⟨rfl, rfl, rfl, B2, rfl, hn2⟩
        refine j_goto (tgt := 123) h d_LP_deliver_115 (by decide) ?_
        refine j_iconst (v := 1) h d_LP_deliver_123 (by decide) ?_
        exact j_zret hX d_LP_deliver_124 rfl (by first | exact Or.inl rfl | exact Or.inr rfl | exact b01_z _ | assumption) (Nat.le_refl _) (Nat.le_refl _) ⟨rfl, rfl, rfl, _, rfl, hn2⟩
      · have c1 : hrs A s (x 0) = 0 := c1
        rw [eR, c1, show dlA A n ld x = A by unfold dlA; rw [if_neg (by rw [h0]; decide), hcl, if_pos c1], show dlN A n ld x N = N by unfold dlN; rw [if_neg (by rw [h0]; decide), hcl, if_pos c1]] at hX
        refine j_iconst (v := 0) h d_LP_deliver_35 (by decide) ?_
        exact j_zret hX d_LP_deliver_36 rfl (by first | exact Or.inl rfl | exact Or.inr rfl | exact b01_z _ | assumption) (Nat.le_refl _) (Nat.le_refl _) ⟨rfl, rfl, rfl, _, rfl, hnc⟩
    · have hsv := cs_sv cs hs
      have hcl : (x 1).toNatClampNeg = s := by rw [hx1]; exact nI_clamp (by omega)
      have eR : dlR A x = hrs A s (x 0) := by unfold dlR; rw [if_neg (by rw [h0]; decide), hcl]
      refine j_aload_n h d_LP_deliver_0 rfl ?_
      refine j_get1e (v := x 0) h d_LP_deliver_1 fl_LP_202 rfl (by assumption) (hcm.1 0 (by decide)) ?_
      refine j_iconst (v := 1) h d_LP_deliver_4 (by decide) ?_
      refine j_ic_ne (tgt := 14) h d_LP_deliver_5 (by decide) (fun _ => ?_) (fun z => absurd (h0.symm.trans z) (by decide))
      refine j_aload_n h d_LP_deliver_14 rfl ?_
      refine j_getR h d_LP_deliver_15 fl_LP_22 rfl (by assumption) (cs_p0 cs) ?_
      refine j_aload_n h d_LP_deliver_18 rfl ?_
      refine j_get1e (v := nI s) h d_LP_deliver_19 fl_LP_208 rfl (by assumption) ((hcm.1 1 (by decide)).trans hx1) ?_
      refine j_srvs h cs hs d_LP_deliver_22 ?_
      refine j_astore_n h d_LP_deliver_23 (Nat.lt_of_lt_of_eq (m := 3) (by decide) hN.symm) ?_
      refine j_aload_n h d_LP_deliver_24 rfl ?_
      refine j_aload_n h d_LP_deliver_25 rfl ?_
      refine j_get1e (v := x 0) h d_LP_deliver_26 fl_LP_202 rfl (by assumption) (hcm.1 0 (by decide)) ?_
      refine j_callV h (c_Srv_hears _ _ _ _ _ _ _ _ _ hsv _) d_LP_deliver_29 ml_LP_211 mv_Srv_hears (by assumption) ⟨rfl, rfl⟩ rfl rfl (Nat.le_of_ble_eq_true rfl) (hR_of hX (by decide) (by decide)) (hf_of hX (by decide) (by decide)) ?_
      rintro _ _ _ _ ⟨rfl, rfl, rfl, rfl⟩
      refine j_if_ne (tgt := 37) h d_LP_deliver_32 (by decide) (fun c1 => ?_) (fun c1 => ?_)
      · have hr1 : hrs A s (x 0) = 1 := (b01_z _).resolve_left c1
        rw [eR, hr1, show dlA A n ld x = hrAck A (32 * s + a) s (x 5) (x 6) (x 7) (x 8) by unfold dlA; rw [if_neg (by rw [h0]; decide), hcl, if_neg (by rw [hr1]; decide), if_neg (by rw [h0]; decide), if_neg (by rw [h0]; decide), if_neg (by rw [h0]; decide), hca], show dlN A n ld x N = N by unfold dlN; rw [if_neg (by rw [h0]; decide), hcl, if_neg (by rw [hr1]; decide), if_neg (by rw [h0]; decide), if_neg (by rw [h0]; decide), if_neg (by rw [h0]; decide)]] at hX
        refine j_aload_n h d_LP_deliver_37 rfl ?_
        refine j_get1e (v := x 0) h d_LP_deliver_38 fl_LP_202 rfl (by assumption) (hcm.1 0 (by decide)) ?_
        rw [show (Value.int (x 0)) = Value.int 4 by rw [h0]]
        refine j_tabOut (tgt := 118) h d_LP_deliver_41 (by decide +kernel) (by decide) ?_
        refine j_aload_n h d_LP_deliver_118 rfl ?_
        refine j_aload_n h d_LP_deliver_119 rfl ?_
        refine j_callV h (c_Srv_hearAck_x _ _ _ _ _ _ _ _ _ cs _ hs _ hq _ ha _ hcm h0 hx4) d_LP_deliver_120 ml_LP_225 mv_Srv_hearAck (by assumption) ⟨rfl, rfl⟩ rfl rfl (Nat.le_of_ble_eq_true rfl) (hR_of hX (by decide) (by decide)) (hf_of hX (by decide) (by decide)) ?_
        rintro _ _ _ _ ⟨rfl, rfl, rfl, rfl⟩
        refine j_iconst (v := 1) h d_LP_deliver_123 (by decide) ?_
        exact j_zret hX d_LP_deliver_124 rfl (by first | exact Or.inl rfl | exact Or.inr rfl | exact b01_z _ | assumption) (Nat.le_refl _) (Nat.le_refl _) ⟨rfl, rfl, rfl, _, rfl, hnc⟩
      · have c1 : hrs A s (x 0) = 0 := c1
        rw [eR, c1, show dlA A n ld x = A by unfold dlA; rw [if_neg (by rw [h0]; decide), hcl, if_pos c1], show dlN A n ld x N = N by unfold dlN; rw [if_neg (by rw [h0]; decide), hcl, if_pos c1]] at hX
        refine j_iconst (v := 0) h d_LP_deliver_35 (by decide) ?_
        exact j_zret hX d_LP_deliver_36 rfl (by first | exact Or.inl rfl | exact Or.inr rfl | exact b01_z _ | assumption) (Nat.le_refl _) (Nat.le_refl _) ⟨rfl, rfl, rfl, _, rfl, hnc⟩
end
section
/-! methods that may throw an IllegalArgumentException -/
theorem we_link : Cond.classLink R_LP 199 "java/lang/IllegalArgumentException" ∈ WA := wa_3 (List.mem_of_getElem? (i := 28) (by decide +kernel)) (by decide +kernel)
theorem we_inst : Cond.instantiable "java/lang/IllegalArgumentException" 6 ∈ WA := wa_3 (List.mem_of_getElem? (i := 29) (by decide +kernel)) (by decide +kernel)
theorem we_init : Cond.initialized "java/lang/IllegalArgumentException" ∈ WA := wa_1 (List.mem_of_getElem? (i := 12) (by decide +kernel)) (by decide +kernel)
def IAE : String := "java/lang/IllegalArgumentException"
def iaeW : List Cond := Bundle.ownAtoms0 "LeasePair" 201 "java/lang/IllegalArgumentException" ["java/lang/RuntimeException", "java/lang/Exception"]
theorem iae_all : iaeW.all (fun w => decide (w ∈ NWL) || decide (w = .isRef (.static "java/lang/Throwable" "UNASSIGNED_STACK" "[Ljava/lang/StackTraceElement;")) || decide (w = .isRef (.static "java/lang/Throwable" "SUPPRESSED_SENTINEL" "Ljava/util/List;")) || decide (w = .laysStatic "java/lang/Throwable" "UNASSIGNED_STACK" "[Ljava/lang/StackTraceElement;") || decide (w = .laysStatic "java/lang/Throwable" "SUPPRESSED_SENTINEL" "Ljava/util/List;")) = true := by decide +kernel
theorem iae_ok {K : Kx} {s : State} {args : Array Value} (h : BW K s) : ∀ w ∈ iaeW, w.before args s = true := by
  intro w hw
  have h1 := List.all_eq_true.mp iae_all w hw
  simp only [Bool.or_eq_true, decide_eq_true_eq] at h1
  rcases h1 with (((h1 | h1) | h1) | h1) | h1
  · have hg := (List.mem_filter.mp h1).2
    simp only [Bool.and_eq_true] at hg
    exact va_tabs hg.1 rfl (h.2.1.1 w h1)
  · rw [h1]; exact h.2.2.1.isRef
  · rw [h1]; exact h.2.2.2.isRef
  · rw [h1]; exact h.2.2.1.lays
  · rw [h1]; exact h.2.2.2.lays
/-- where it has thrown: the world as it was -/
def TX (K : Kx) (V : Vx) (I : MI3) (P : MP) (mc ms : Nat) (st : State) (o : Outcome) (t : State) : Prop :=
  ∃ (q : Addr) (ce : Cell) (L : List Loc), o = .threw q ∧ Wd K V I P t.heap ∧ st.heap.size ≤ t.heap.size ∧ (∀ z, z < K.base → t.heap[z]? = st.heap[z]?) ∧ t.heap[q]? = some ce ∧ ce.vm = .none ∧ st.vm.findClass IAE = some ce.cls ∧ st.WarmedH t.vm ∧ st.sameButNew ({ t with vm := st.vm } : State) L mc ms ∧ ∀ z ∈ L, K.base ≤ z.base
def QX (K : Kx) (V : Vx) (I : MI3) (P : MP) (post : Px) (xp : Prop) (mc ms : Nat) : Array Value → State → Outcome → State → Prop := fun a st o t =>
  (QC K post a st o t ∧ ∃ L, FrameEnd st o t L mc ms ∧ ∀ q ∈ L, K.base ≤ q.base) ∨ (xp ∧ TX K V I P mc ms st o t)
def CtX (l : Launch) (K : Kx) (md : Mx) (d : Nat × Nat) (mc ms : Nat) (av : List Value) (V : Vx) (I : MI3) (P : MP) (post : Px) (xp : Prop) : Prop :=
  MetFree l md.1 (headSpec (wsM md) (rmM d mc ms)) (PC K av V I P) (fun _ _ _ _ _ => True) (QX K V I P post xp mc ms)
/-- old cells, where nothing old was written -/
theorem sb_frame {s U : State} {k n : Nat} (h : s.sameButNew ({ U with vm := s.vm } : State) [] k n) : s.heap.size ≤ U.heap.size ∧ ∀ q : Nat, q < s.heap.size → U.heap[q]? = s.heap[q]? := by
  obtain ⟨-, h2, -, -, -, h6⟩ := h
  refine ⟨h2, fun q hq => ?_⟩
  obtain ⟨c9, e1, e2, -, e4⟩ := h6 q _ (Array.getElem?_eq_getElem hq)
  have hs : c9.slots = (s.heap[q]).slots := Array.ext_getElem? fun i => e4 i (fun hm => nomatch hm)
  have h9 : c9 = s.heap[q] := by rw [hs] at e2; exact e2
  have e5 : U.heap[q]? = some c9 := e1
  rw [e5, h9, Array.getElem?_eq_getElem hq]
theorem d_LP_need_0 : decode b_LP_need 0 = .ok (.iload_n 0, 1) := by decide +kernel
theorem d_LP_need_1 : decode b_LP_need 1 = .ok (.ifCond .ne 11, 3) := by decide +kernel
theorem d_LP_need_4 : decode b_LP_need 4 = .ok (.new 199, 3) := by decide +kernel
theorem d_LP_need_7 : decode b_LP_need 7 = .ok (.dup, 1) := by decide +kernel
theorem d_LP_need_8 : decode b_LP_need 8 = .ok (.invokespecial 201, 3) := by decide +kernel
theorem d_LP_need_11 : decode b_LP_need 11 = .ok (.athrow, 1) := by decide +kernel
theorem d_LP_need_12 : decode b_LP_need 12 = .ok (.return_, 1) := by decide +kernel
set_option maxHeartbeats 4000000 in
theorem c_LP_need (l : Launch) (hlt : l.stackTraces = false) (K : Kx) (V : Vx) (I : MI3) (P : MP) (hV : ∀ z, V.2.2 z) (z : Int32) : CtX l K md_LP_need (8, 100) 1 6 [.int z] V I P (fun V' r I' P' => (V' = V ∧ r = none ∧ I' = I ∧ P' = P) ∧ ¬ z = 0) (z = 0) := by
  refine MetFree.of_bodyS (code := b_LP_need) (maxLocals := 1) (ret := none) (by decide) ?_ ?_
  · intro args s m h hn
    obtain ⟨meth, c, h1, h2, h3, h4, h5, h6, -, -⟩ := Cond.code_spec hn (atoms_spec (ws := wsM md_LP_need) h _ List.mem_cons_self)
    exact ⟨meth, c, h1, h2, h3, h4, h5, h6⟩
  · intro p e s m args below meth c s₁ B hml hv _
    obtain ⟨rfl, hW, hK, hb, hap⟩ := hv
    have hts := atoms_spec (ws := wsM md_LP_need) B.pre
    have hwa : ∀ w ∈ WA, w.before ([Value.int z] : List Value).toArray s = true := fun w hw => hts w (List.mem_cons_of_mem _ hw)
    have hown : s.vm.findClass "LeasePair" = some m.cls := findClass_of_methodNamed B.named
    have hx := B.exec
    have hbb := B.bytes
    have hlocks := B.notSynchronized
    have hh0 : s₁.heap = s.heap := by rw [B.state]; rfl
    have hl := lv_entry ([.int z]) (n := 1) (Nat.le_of_ble_eq_true rfl)
    have X0 := Stand.of_body B
    suffices hgo : W p l e (rmM (8, 100) 1 6) s m ([Value.int z] : List Value).toArray below meth c s.heap [] 0 0 (fun t => ∃ o, t.status = .running ∧ Ended t below o ∧ QX K V I P (fun V' r I' P' => (V' = V ∧ r = none ∧ I' = I ∧ P' = P) ∧ ¬ z = 0) (z = 0) 1 6 ([Value.int z] : List Value).toArray s o t) (entryFrame m ([Value.int z] : List Value).toArray 1) by
      obtain ⟨t, a1, o, b1, b2, b3⟩ := hgo s₁ hh0 X0
      exact ⟨t, o, a1, b1, b2, b3⟩
    rw [lg_entry_eq]
    generalize (lg_sl ([.int z]) ++ List.replicate (1 - (lg_sl ([.int z])).length) Slot.unset).toArray = ls at hl ⊢
    have hl : lv_has ls 1 [(0, .int z)] := hl
    refine lv_iload_n hx hbb d_LP_need_0 rfl (lv_at hl 0 rfl) ?_
    refine lv_if_ne (tgt := 12) hx hbb d_LP_need_1 (by decide) (fun c1 => ?_) (fun c1 => ?_)
    · have kk : W p l e (rmM (8, 100) 1 6) s m ([Value.int z] : List Value).toArray below meth c s.heap [] 0 0 (MQ below (QC K (fun V' r I' P' => (V' = V ∧ r = none ∧ I' = I ∧ P' = P) ∧ ¬ z = 0)) ([Value.int z] : List Value).toArray s 1 6 (fun q => K.base ≤ q)) (F0 m 12 ls []) :=
        W.widen (Nat.zero_le _) (Nat.zero_le _) (W.vret hx hbb B.returns (fun t ht hWt => ⟨_, V, I, P, rfl, ⟨⟨rfl, rfl, rfl, rfl⟩, c1⟩, by rw [ht]; exact hW, by rw [ht]; exact Nat.le_refl _, fun q _ => by rw [ht]⟩) (fun _ h => nomatch h) d_LP_need_12 hlocks)
      intro T hT X
      obtain ⟨t, a1, o, b1, b2, b3⟩ := kk T hT X
      exact ⟨t, a1, o, b1, b2, Or.inl b3⟩
    · intro T hT X
      have htr : e.platform.stackTraces = false := (show e.platform.stackTraces = l.stackTraces by rw [X.admits.platform]).trans hlt
      have hok := iae_ok (args := ([Value.int z] : List Value).toArray) hb
      obtain ⟨vm₁, cX, kX, hfX, hkX, -, -, X₁, st1⟩ := X.newCold hx (own := "LeasePair") (C := IAE) (index := 199) (n := 6) hown (hwa _ we_link) (hwa _ we_inst) (hwa _ we_init)
        (g := F0 m 4 ls []) rfl (by rw [hbb]; exact d_LP_need_4) (Nat.le_refl _) (Nat.le_refl _)
      generalize hT1 : (T.setVm vm₁).pushCell { cls := cX, slots := kX.instanceTypes.map defaultValue, vm := .none } = T1 at X₁ st1
      have hcellA : T1.heap[T.heap.size]? = some (freshCell cX kX) := by rw [← hT1]; exact State.heap_pushCell_size _ _
      have d7' : decode c.code 7 = .ok (.dup, 1) := by rw [hbb]; exact d_LP_need_7
      obtain ⟨U, hsteps, hrun, hend, hWU, hsame, ce, hce, hO⟩ := X₁.ctorThrow0 hx htr (own := "LeasePair") (cls := IAE) (names := ["java/lang/RuntimeException", "java/lang/Exception"]) (ic := 201) hown (by decide) (by decide) hok (fun x hx => nomatch hx) hfX hkX hcellA (by rw [hT]; exact Nat.le_refl _)
        (g := { method := m, pc := 8, locals := ls, stack := .ref T.heap.size :: .ref T.heap.size :: [], locked := none }) rfl (by rw [hl.1]; exact hml.symm) rfl rfl (rest := []) rfl
        (by rw [hbb]; exact d_LP_need_8) (by rw [hbb]; exact d_LP_need_11) (fun x hx => by
          obtain ⟨meth9, c9, h1, h2, -, -, -, -, h7, -⟩ := Cond.code_spec B.named (hts _ List.mem_cons_self)
          cases Option.some.inj (h1.symm.trans B.method)
          cases Option.some.inj (h2.symm.trans X0.code)
          rw [Array.isEmpty_iff.mp h7] at hx
          cases hx) (by decide) (Nat.le_of_ble_eq_true rfl) hlocks
      obtain ⟨f1, f2⟩ := sb_frame hsame
      refine ⟨U, ?_, .threw T.heap.size, hrun, hend, Or.inr ⟨c1, T.heap.size, ce, [], rfl, Wd_kept hap hW (fun q hq => f2 q hq) V (fun _ _ h => h) (fun _ h => h) (hV _), f1, fun q hq => f2 q (Nat.lt_of_lt_of_le hq hb.1), hce, hO.vm, hO.cls, hWU, hsame, fun _ h => nomatch h⟩⟩
      refine st1 _ ?_
      show Steps p.tables e below (T1.setTop { method := m, pc := 7, locals := ls, stack := .ref T.heap.size :: [], locked := none }) _
      jvm_step X₁.here [X₁.here.top, hx, d7', Value.category]
      exact hsteps
end
section
/-! calls that may throw -/
section JX
/-- the same frame, with an end that returns -/
def X0 (X : Jx) (K : Kx) (mc ms : Nat) (post : Px) : Jx := (X.p, X.l, X.e, X.R, X.s, X.m, X.args, X.below, X.meth, X.c, MQ X.below (QC K post) X.args X.s mc ms (fun q => K.base ≤ q), X.nL)
def HXX (X : Jx) (md : Mx) (K : Kx) (d : Nat × Nat) (mc ms : Nat) (V : Vx) (I : MI3) (P : MP) (post : Px) (xp : Prop) : Prop :=
  HX (X0 X K mc ms post) md K d mc ms post ∧ (∀ x ∈ X.c.exceptionTable.toList, False) ∧ X.Q = (fun t => ∃ o, t.status = .running ∧ Ended t X.below o ∧ QX K V I P post xp mc ms X.args X.s o t)
theorem ctx_of {l : Launch} {K : Kx} {md : Mx} {d : Nat × Nat} {mc ms : Nat} {av : List Value} {V : Vx} {I : MI3} {P : MP} {post : Px} {xp : Prop} (lv : List (Nat × Value)) (hy : plainName md.1.cls = true) (hn : (lg_sl av).length ≤ md.2.2.1) (hcat : ∀ v ∈ av, v.category = 1) (hlv : lv_args 0 av = lv)
    (body : ∀ X : Jx, X.l = l → HXX X md K d mc ms V I P post xp → J X K V I P 0 0 0 lv []) : CtX l K md d mc ms av V I P post xp := by
  refine MetFree.of_bodyS (code := md.2.1) (maxLocals := md.2.2.1) (ret := md.2.2.2) hy ?_ ?_
  · intro args s m h hn
    obtain ⟨meth, c, h1, h2, h3, h4, h5, h6, -, -⟩ := Cond.code_spec hn (atoms_spec (ws := wsM md) h _ List.mem_cons_self)
    exact ⟨meth, c, h1, h2, h3, h4, h5, h6⟩
  · intro p e s m args below meth c s₁ B hml hv _
    obtain ⟨rfl, hW, hK, hb, hap⟩ := hv
    have hts := atoms_spec (ws := wsM md) B.pre
    have hown : s.vm.findClass md.1.cls = some m.cls := findClass_of_methodNamed B.named
    have hnm : meth.name = md.1.name := (name_of_methodNamed B.named B.method).1
    have hh0 : s₁.heap = s.heap := by rw [B.state]; rfl
    have hl := lv_entry av hn
    have ht9 : ∀ x ∈ c.exceptionTable.toList, False := by
      obtain ⟨meth9, c9, h1, h2, -, -, -, -, h7, -⟩ := Cond.code_spec B.named (hts _ List.mem_cons_self)
      cases Option.some.inj (h1.symm.trans B.method)
      cases Option.some.inj (h2.symm.trans (Stand.of_body B).code)
      intro x hx
      rw [Array.isEmpty_iff.mp h7] at hx
      cases hx
    have K1 := body (p, l, e, rmM d mc ms, s, m, av.toArray, below, meth, c, (fun t => ∃ o, t.status = .running ∧ Ended t below o ∧ QX K V I P post xp mc ms av.toArray s o t), md.2.2.1) rfl
      ⟨⟨⟨B.exec, B.bytes, hml, hown, fun w hw => hts w (List.mem_cons_of_mem _ hw), hK, hb, hap⟩, rfl, rfl, B.returns, B.notSynchronized, hnm, rfl⟩, ht9, rfl⟩
    have K2 := K1 s.heap [] ((lg_sl av ++ List.replicate (md.2.2.1 - (lg_sl av).length) Slot.unset).toArray) hW (Nat.le_refl _) (fun _ _ => rfl) (fun _ h => by cases h) ⟨⟨hl.1, hl.2.1, fun q hq => by rw [← hlv] at hq; exact hl.2.2 q (clL_mem hq)⟩, by rw [← hlv]; exact lv_cat1 av 0 hcat⟩
    have K3 : W p l e (rmM d mc ms) s m av.toArray below meth c s.heap [] 0 0 (fun t => ∃ o, t.status = .running ∧ Ended t below o ∧ QX K V I P post xp mc ms av.toArray s o t) (entryFrame m av.toArray md.2.2.1) := by
      rw [lg_entry_eq]
      exact K2
    obtain ⟨t, a1, o, b1, b2, b3⟩ := K3 s₁ hh0 (Stand.of_body B)
    exact ⟨t, o, a1, b1, b2, b3⟩
variable {X : Jx} {cc : ByteArray} {own : String} {K : Kx} {V : Vx} {I : MI3} {P : MP} {cells slots pc : Nat} {lv : List (Nat × Value)} {st : List Value} {md md' : Mx} {d d' : Nat × Nat} {mc ms mc' ms' : Nat} {post post' : Px} {xp xp' : Prop}
theorem jx_ret {V0 : Vx} {I0 : MI3} {P0 : MP} (h : HXX X md K d mc ms V0 I0 P0 post xp) (k : J (X0 X K mc ms post) K V I P cells slots pc lv st) : J X K V I P cells slots pc lv st := by
  intro H locs ls a b e f g T hT Z
  obtain ⟨t, a1, o, b1, b2, b3⟩ := k H locs ls a b e f g T hT Z
  refine ⟨t, a1, ?_⟩
  rw [h.2.2]
  exact ⟨o, b1, b2, Or.inl b3⟩
/-- a frame over which a thrown object lies -/
def JT (X : Jx) (K : Kx) (V : Vx) (I : MI3) (P : MP) (cells slots pc : Nat) (lv : List (Nat × Value)) (st : List Value) : Prop :=
  ∀ (H : Heap) (locs : List Loc) (ls : Array Slot) (q : Addr) (ce : Cell), Wd K V I P H → X.s.heap.size ≤ H.size → (∀ q, q < K.base → H[q]? = X.s.heap[q]?) → (∀ z ∈ locs, K.base ≤ z.base) → hasL ls X.nL lv → H[q]? = some ce → ce.vm = .none → X.s.vm.findClass IAE = some ce.cls →
    ∀ T : State, T.heap = H → Stand X.p X.l X.e X.R X.s X.m X.args X.below X.meth X.c T locs cells slots → ∃ t, Steps X.p.tables X.e X.below ((T.setTop (F0 X.m pc ls st)).pushFrame (.throwing q)) t ∧ X.Q t
/-- it goes on to the caller -/
theorem jx_out (h : HXX X md K d mc ms V I P post xp) (hx : xp) (hc : cells ≤ mc) (hs : slots ≤ ms) : JT X K V I P cells slots pc lv st := by
  intro H locs ls q ce a b e f g h1 h2 h3 T hT Z
  obtain ⟨st1, hrun, hend, hW, hsm⟩ := Z.leaveThrown q (g := F0 X.m pc ls st) rfl rfl rfl (fun x hx => (h.2.1 x hx).elim) h.1.2.2.2.2.1
  refine ⟨_, st1, ?_⟩
  rw [h.2.2]
  refine ⟨.threw q, hrun, hend, Or.inr ⟨hx, q, ce, locs, rfl, ?_, ?_, ?_, ?_, h2, h3, hW, hsm.mono hc hs, f⟩⟩
  · show Wd K V I P T.heap
    rw [hT]; exact a
  · show X.s.heap.size ≤ T.heap.size
    rw [hT]; exact b
  · intro z hz
    show T.heap[z]? = _
    rw [hT]; exact e z hz
  · show T.heap[q]? = some ce
    rw [hT]; exact h1
/-- from the callee's entry: it comes back, or throws -/
theorem x_back (h : OkX X cc own K) {T : State} {locs : List Loc} {H : Heap} {rest : List Value} {ls : Array Slot} {av : List Value} {ig : Instr} (hT : T.heap = H) (Z : Stand X.p X.l X.e X.R X.s X.m X.args X.below X.meth X.c T locs cells slots) (hM : CtX X.l K md d mc ms av V I P post xp) (w3 : Cond.code md.1 md.2.1 md.2.2.1 md.2.2.2 ∈ WA) (w2 : Cond.initialized md.1.cls ∈ WA)
    (a : Wd K V I P H) (b : X.s.heap.size ≤ H.size) (e : ∀ q, q < K.base → H[q]? = X.s.heap[q]?) (g : hasL ls X.nL lv) (hdg : decode X.c.code pc = .ok (ig, 3)) (hcat : (rest.map fun v => v.category).sum ≤ 8) (hR : d.1 + 1 ≤ X.R.frames ∧ md.2.2.1 + 19 + d.2 ≤ X.R.locals) (hf : cells + mc ≤ X.R.cells ∧ slots + ms ≤ X.R.slots) {mk : MethodId} (hn : T.methodNamed? md.1 = some mk) :
    (∃ (v : Option Value) (T' : State) (L : List Loc) (V' : Vx) (I' : MI3) (P' : MP), Stand X.p X.l X.e X.R X.s X.m X.args X.below X.meth X.c T' (locs ++ L) (cells + mc) (slots + ms) ∧ (∀ q ∈ L, K.base ≤ q.base) ∧ post V' v I' P' ∧ Wd K V' I' P' T'.heap ∧ H.size ≤ T'.heap.size ∧ (∀ q, q < K.base → T'.heap[q]? = H[q]?) ∧
      Steps X.p.tables X.e X.below (doInvoke X.e (T.setTop (F0 X.m pc ls rest)) [] mk av.toArray).1 (T'.setTop (F0 X.m (pc + 3) ls (v.toList ++ rest)))) ∨
    (xp ∧ ∃ (q : Addr) (ce : Cell) (T' : State) (L : List Loc), Stand X.p X.l X.e X.R X.s X.m X.args X.below X.meth X.c T' (locs ++ L) (cells + mc) (slots + ms) ∧ (∀ q ∈ L, K.base ≤ q.base) ∧ Wd K V I P T'.heap ∧ H.size ≤ T'.heap.size ∧ (∀ q, q < K.base → T'.heap[q]? = H[q]?) ∧ T'.heap[q]? = some ce ∧ ce.vm = .none ∧ X.s.vm.findClass IAE = some ce.cls ∧
      Steps X.p.tables X.e X.below (doInvoke X.e (T.setTop (F0 X.m pc ls rest)) [] mk av.toArray).1 ((T'.setTop (F0 X.m pc ls rest)).pushFrame (.throwing q))) := by
  have ht := h.2.2.2.2.1
  have hgw := good_ws (md := md) w3
  have hbef : ∀ w ∈ wsM md, w.before av.toArray T = true := fun w hw => word_at Z.warmed (hgw w hw).2 (ht w (hgw w hw).1)
  have h2 : (Cond.code md.1 md.2.1 md.2.2.1 md.2.2.2).before av.toArray T = true := hbef _ List.mem_cons_self
  have h3 : (Cond.initialized md.1.cls).before av.toArray T = true := word_at Z.warmed (WA_good _ w2) (ht _ w2)
  obtain ⟨methY, cY, hmY, hcY, -, hlY, -, -, -, -⟩ := Cond.code_spec hn h2
  obtain ⟨kY, hkY, -⟩ := className_of_methodNamed hn
  have hinitY : kY.init = .initialized := Cond.initialized_spec (findClass_of_methodNamed hn) hkY h3
  have hat : At T (F0 X.m pc ls rest).method X.c X.below := Z.here
  have hmr : (F0 X.m pc ls rest).monitorRoom = 0 := rfl
  have happ : (headSpec (wsM md) (rmM d mc ms)).appliesLoose md.1 X.e.platform (T.calling (F0 X.m pc ls rest) mk av.toArray) = true :=
    Spec.appliesLoose_calling (g := F0 X.m pc ls rest) hat hdg hn hkY hinitY
      (Z.room_calling (g := F0 X.m pc ls rest) (R' := rmM d mc ms) (g.1.1.trans h.2.2.1.symm) hmY hcY hR.1 (by rw [hmr, hlY]; show 2 * 0 + (rest.map fun v => v.category).sum + (md.2.2.1 + 11) + d.2 ≤ _; omega) hf.1 hf.2) (atoms_intro hbef)
  have hPc : PC K av V I P av.toArray (T.calling (F0 X.m pc ls rest) mk av.toArray) := PC_blind _ _ _ _ (pc_at h a b e T hT Z.warmed)
  obtain ⟨mid, hmid⟩ := hat.above
  have hfr : (T.setTop (F0 X.m pc ls rest)).frames = (.java (F0 X.m pc ls rest) :: mid) ++ X.below := by rw [State.frames_setTop' _ hat.top, hmid]; rfl
  obtain ⟨o, s₂, hsteps, -, hend, hq⟩ := Steps.callFree hM X.p Z.admits Z.cas Z.clock (acts := []) hfr happ hPc trivial
  rw [State.frames_setTop' _ hat.top, Z.tail] at hend
  have hch : (T.calling (F0 X.m pc ls rest) mk av.toArray).heap = H := hT
  rcases hq with ⟨⟨v, V', I', P', rfl, hp, hw, hz, hk⟩, L, hfe, hL⟩ | ⟨hxp, q, ce, L, rfl, hw, hz, hk, hce, hcv, hcl, hW₂, hsm, hL⟩
  · obtain ⟨-, hW₂, hsm⟩ := hfe
    obtain ⟨T', ZT, -, -, hs2⟩ := Z.outOf (g := F0 X.m pc ls rest) rfl hdg hend hW₂ hsm
    have hhp : T'.heap = s₂.heap := by rw [hs2]; rfl
    replace hz : H.size ≤ s₂.heap.size := by rw [← hch]; exact hz
    refine Or.inl ⟨v, T', L, V', I', P', ZT, hL, hp, by rw [hhp]; exact hw, by rw [hhp]; exact hz, fun z hz9 => by rw [hhp, ← hch]; exact hk z hz9, ?_⟩
    rw [hs2] at hsteps
    exact hsteps
  · obtain ⟨T', ZT, -, -, hs2⟩ := Z.outOfThrown (g := F0 X.m pc ls rest) rfl hend hW₂ hsm
    have hhp : T'.heap = s₂.heap := by rw [hs2]; exact (Stand.throwing_heap T' _ q).symm
    replace hz : H.size ≤ s₂.heap.size := by rw [← hch]; exact hz
    have hcl9 : X.s.vm.findClass IAE = some ce.cls := by
      have h9 : T.vm.findClass IAE = some ce.cls := hcl
      rw [Z.warmed.alike.findClass] at h9
      exact h9
    refine Or.inr ⟨hxp, q, ce, T', L, ZT, hL, by rw [hhp]; exact hw, by rw [hhp]; exact hz, fun z hz9 => by rw [hhp, ← hch]; exact hk z hz9, by rw [hhp]; exact hce, hcv, hcl9, ?_⟩
    rw [hs2] at hsteps
    exact hsteps
theorem jx_callS (h : OkX X cc own K) {idx n : Nat} {As rest st0 : List Value} (hM : CtX X.l K md d mc ms As V I P post xp) (dd : decode cc pc = .ok (.invokestatic idx, 3)) (w : MLk own idx md n) (w2 : Cond.static md.1 ∈ WA)
    (hst : st0 = As.reverse ++ rest) (hn : As.length = n) (hcat : (rest.map fun v => v.category).sum ≤ 8) (hR : d.1 + 1 ≤ X.R.frames ∧ md.2.2.1 + 19 + d.2 ≤ X.R.locals) (hf : cells + mc ≤ X.R.cells ∧ slots + ms ≤ X.R.slots)
    (kx : xp → JT X K V I P (cells + mc) (slots + ms) pc lv rest) (kk : ∀ (V' : Vx) (r : Option Value) (I' : MI3) (P' : MP), post V' r I' P' → J X K V' I' P' (cells + mc) (slots + ms) (pc + 3) lv (r.toList ++ rest)) : J X K V I P cells slots pc lv st0 := by
  subst hst
  intro H locs ls a b e f g T hT Z
  have ht := h.2.2.2.2.1
  obtain ⟨w1, wi, wc, wd⟩ := w
  obtain ⟨mk, hnamed⟩ := Cond.code_named (ht _ wc)
  obtain ⟨methM, cM, hmethM, -, -, -, -, -, -, hsigM⟩ := Cond.code_spec hnamed (ht _ wc)
  have hstatic : methM.isStatic = true := Cond.static_spec hnamed hmethM (ht _ w2)
  obtain ⟨kP, hkP, -⟩ := className_of_methodNamed hnamed
  have hinitP : kP.init = .initialized := Cond.initialized_spec (findClass_of_methodNamed hnamed) hkP (ht _ wi)
  have hlen : As.length = methM.sig.parameters.length := by
    have h9 := wd.2.2
    rw [hsigM] at h9
    exact hn.trans (Option.some.inj h9).symm
  obtain ⟨vm₁, X₁, hstep₁⟩ := Z.invokestatic h.1 h.2.2.2.1 (ht _ w1) hnamed hmethM hstatic hkP hinitP ⟨wd.1, wd.2.1⟩ (g := F0 X.m pc ls (As.reverse ++ rest)) rfl (argsL := As) (rest := rest) hlen rfl (by rw [h.2.1]; exact dd)
  rcases x_back h (T := T.setVm vm₁) (rest := rest) (ls := ls) hT X₁ hM wc wi a b e g (by rw [h.2.1]; exact dd) hcat hR hf (X₁.named hnamed) with ⟨v, T', L, V', I', P', ZT, hL, hp, hw, hz, hk, go⟩ | ⟨hxp, q, ce, T', L, ZT, hL, hw, hz, hk, hce, hcv, hcl, go⟩
  · obtain ⟨t, a1, b1⟩ := kk V' v I' P' hp T'.heap (locs ++ L) ls hw (Nat.le_trans b hz) (fun q hq => (hk q hq).trans (e q hq)) (fun z hz => (List.mem_append.mp hz).elim (f z) (hL z)) g T' rfl ZT
    exact ⟨t, hstep₁ _ (fun acts => by rw [doInvoke_state]; exact go.trans a1), b1⟩
  · obtain ⟨t, a1, b1⟩ := kx hxp T'.heap (locs ++ L) ls q ce hw (Nat.le_trans b hz) (fun q hq => (hk q hq).trans (e q hq)) (fun z hz => (List.mem_append.mp hz).elim (f z) (hL z)) g hce hcv hcl T' rfl ZT
    exact ⟨t, hstep₁ _ (fun acts => by rw [doInvoke_state]; exact go.trans a1), b1⟩
theorem jx_callV (h : OkX X cc own K) {idx ci i n : Nat} {As rest st0 : List Value} {r : vw_C} (hM : CtX X.l K md d mc ms (.ref (K.ad ci i) :: As) V I P post xp) (dd : decode cc pc = .ok (.invokevirtual idx, 3)) (w : MLk own idx md n) (w2 : Cond.instanceMethod md.1 ∈ WA ∧ Cond.selects md.1.cls md.1 md.1 ∈ WA)
    (hv : V.1 ci i) (hcl : classes[ci]? = some r ∧ r.1 = md.1.cls) (hst : st0 = As.reverse ++ .ref (K.ad ci i) :: rest) (hn : As.length = n) (hcat : (rest.map fun v => v.category).sum ≤ 8) (hR : d.1 + 1 ≤ X.R.frames ∧ md.2.2.1 + 19 + d.2 ≤ X.R.locals) (hf : cells + mc ≤ X.R.cells ∧ slots + ms ≤ X.R.slots)
    (kx : xp → JT X K V I P (cells + mc) (slots + ms) pc lv rest) (kk : ∀ (V' : Vx) (r : Option Value) (I' : MI3) (P' : MP), post V' r I' P' → J X K V' I' P' (cells + mc) (slots + ms) (pc + 3) lv (r.toList ++ rest)) : J X K V I P cells slots pc lv st0 := by
  subst hst
  intro H locs ls a b e f g T hT Z
  have ht := h.2.2.2.2.1
  obtain ⟨w1, wi, wc, wd⟩ := w
  obtain ⟨hpv, r', hr', cell, q1, q2, q3, q4⟩ := a.1 ci i hv
  cases Option.some.inj (hcl.1.symm.trans hr')
  have hcls := (h.2.2.2.2.2.1.1 ci r hcl.1).2
  obtain ⟨mk, methM, hnamed, hmethM, hstM, habM⟩ := Cond.instanceMethod_spec (ht _ w2.1)
  obtain ⟨methM', cM, hmethM', -, -, -, -, -, -, hsigM⟩ := Cond.code_spec hnamed (ht _ wc)
  cases hmethM.symm.trans hmethM'
  obtain ⟨c2, r2, m2, s1, s2, s3, s4, kP, hkP, hkPi⟩ := Cond.selects_spec (ht _ w2.2)
  have hcc : X.s.vm.findClass md.1.cls = some cell.cls := by rw [q2, ← hcl.2]; exact hcls.1
  cases hcc.symm.trans s1
  cases (State.methodFound?_of_named hnamed ⟨wd.1, wd.2.1⟩).symm.trans s2
  cases hnamed.symm.trans s3
  have hselP : selectMethod X.e.platform X.s.vm cell.cls mk = .method mk := by rw [Launch.admits_selectMethod Z.admits]; exact s4
  have hlen : As.length = methM.sig.parameters.length := by
    have h9 := wd.2.2
    rw [hsigM] at h9
    exact hn.trans (Option.some.inj h9).symm
  obtain ⟨vm₁, X₁, hstep₁⟩ := Z.invokevirtual h.1 h.2.2.2.1 (ht _ w1) hnamed hmethM hstM hkP hkPi ⟨wd.1, wd.2.1⟩ (a := K.ad ci i) (cell := cell) (by rw [hT]; exact q1)
    (fun z h9 => by rw [q3] at h9; cases h9) hselP hmethM habM hkP hkPi (g := F0 X.m pc ls (As.reverse ++ .ref (K.ad ci i) :: rest)) rfl (argsL := As) (rest := rest) hlen rfl (by rw [h.2.1]; exact dd)
  rcases x_back h (T := T.setVm vm₁) (rest := rest) (ls := ls) hT X₁ hM wc wi a b e g (by rw [h.2.1]; exact dd) hcat hR hf (X₁.named hnamed) with ⟨v, T', L, V', I', P', ZT, hL, hp, hw, hz, hk, go⟩ | ⟨hxp, q, ce, T', L, ZT, hL, hw, hz, hk, hce, hcv, hcl, go⟩
  · obtain ⟨t, a1, b1⟩ := kk V' v I' P' hp T'.heap (locs ++ L) ls hw (Nat.le_trans b hz) (fun q hq => (hk q hq).trans (e q hq)) (fun z hz => (List.mem_append.mp hz).elim (f z) (hL z)) g T' rfl ZT
    exact ⟨t, hstep₁ _ (fun acts => by rw [doInvoke_state]; exact go.trans a1), b1⟩
  · obtain ⟨t, a1, b1⟩ := kx hxp T'.heap (locs ++ L) ls q ce hw (Nat.le_trans b hz) (fun q hq => (hk q hq).trans (e q hq)) (fun z hz => (List.mem_append.mp hz).elim (f z) (hL z)) g hce hcv hcl T' rfl ZT
    exact ⟨t, hstep₁ _ (fun acts => by rw [doInvoke_state]; exact go.trans a1), b1⟩
end JX
end
