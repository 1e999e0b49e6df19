section AJ
variable {K : am_K} {D : va_G} {p : Program} {l : Launch} {e : Env} {R : Room} {s : State} {m : MethodId} {args : Array Value} {below : List Frame} {meth : Method} {c : Code} {own : String} {ini : Bool} {cc : ByteArray} {nL d : Nat}
variable {ad : Nat → Value} {M : am_M} {H : Heap} {locs : List Loc} {ls : Array Slot} {L st : List Value} {cells slots : Nat} {Q : State → Prop} {pc : Nat} {rest : List Value}
set_option maxHeartbeats 4000000 in
/-- ONE STEP: what the abstract machine does, the JVM does -/
theorem am_step_ok (hc : am_ctx K D p l R s m args meth c own ini cc nL d) (hcls : am_cls) {g kd a b : Nat} {i : Instr} {S : am_S} (hdg : decode cc pc = .ok (i, am_len pc i)) (hop : am_op (am_sr K) own ini pc i kd a b) (hs : am_step g i kd a b pc L st M = some S) (hn : am_now K D s nL ad M H locs ls L st)
    (hr1 : cells + (am_cc S.2.2.2 - am_cc M) ≤ R.cells) (hr2 : slots + (am_sl S.2.2.2 - am_sl M) ≤ R.slots) (kk : am_kG K D p l e R s m args below meth c nL ad M cells slots Q S) :
    W p l e R s m args below meth c H locs cells slots Q (F0 m pc ls (st.map (am_cv ad))) := by
  cases i with
  | iconst x0 => exact am_s_iconst hc hcls hdg hop hs hn hr1 hr2 kk
  | bipush x0 => exact am_s_bipush hc hcls hdg hop hs hn hr1 hr2 kk
  | sipush x0 => exact am_s_sipush hc hcls hdg hop hs hn hr1 hr2 kk
  | lconst x0 => exact am_s_lconst hc hcls hdg hop hs hn hr1 hr2 kk
  | aconst_null  => exact am_s_aconst_null hc hcls hdg hop hs hn hr1 hr2 kk
  | ldc x0 => exact am_s_ldc hc hcls hdg hop hs hn hr1 hr2 kk
  | ldc_w x0 => exact am_s_ldc_w hc hcls hdg hop hs hn hr1 hr2 kk
  | ldc2_w x0 => exact am_s_ldc2_w hc hcls hdg hop hs hn hr1 hr2 kk
  | iload_n x0 => exact am_s_iload_n hc hcls hdg hop hs hn hr1 hr2 kk
  | iload x0 => exact am_s_iload hc hcls hdg hop hs hn hr1 hr2 kk
  | lload_n x0 => exact am_s_lload_n hc hcls hdg hop hs hn hr1 hr2 kk
  | lload x0 => exact am_s_lload hc hcls hdg hop hs hn hr1 hr2 kk
  | aload_n x0 => exact am_s_aload_n hc hcls hdg hop hs hn hr1 hr2 kk
  | aload x0 => exact am_s_aload hc hcls hdg hop hs hn hr1 hr2 kk
  | istore_n x0 => exact am_s_istore_n hc hcls hdg hop hs hn hr1 hr2 kk
  | istore x0 => exact am_s_istore hc hcls hdg hop hs hn hr1 hr2 kk
  | lstore_n x0 => exact am_s_lstore_n hc hcls hdg hop hs hn hr1 hr2 kk
  | lstore x0 => exact am_s_lstore hc hcls hdg hop hs hn hr1 hr2 kk
  | astore_n x0 => exact am_s_astore_n hc hcls hdg hop hs hn hr1 hr2 kk
  | astore x0 => exact am_s_astore hc hcls hdg hop hs hn hr1 hr2 kk
  | iinc x0 x1 => exact am_s_iinc hc hcls hdg hop hs hn hr1 hr2 kk
  | iadd  => exact am_s_iadd hc hcls hdg hop hs hn hr1 hr2 kk
  | isub  => exact am_s_isub hc hcls hdg hop hs hn hr1 hr2 kk
  | imul  => exact am_s_imul hc hcls hdg hop hs hn hr1 hr2 kk
  | iand  => exact am_s_iand hc hcls hdg hop hs hn hr1 hr2 kk
  | ior  => exact am_s_ior hc hcls hdg hop hs hn hr1 hr2 kk
  | ixor  => exact am_s_ixor hc hcls hdg hop hs hn hr1 hr2 kk
  | ishl  => exact am_s_ishl hc hcls hdg hop hs hn hr1 hr2 kk
  | ishr  => exact am_s_ishr hc hcls hdg hop hs hn hr1 hr2 kk
  | iushr  => exact am_s_iushr hc hcls hdg hop hs hn hr1 hr2 kk
  | idiv  => exact am_s_idiv hc hcls hdg hop hs hn hr1 hr2 kk
  | irem  => exact am_s_irem hc hcls hdg hop hs hn hr1 hr2 kk
  | ladd  => exact am_s_ladd hc hcls hdg hop hs hn hr1 hr2 kk
  | lsub  => exact am_s_lsub hc hcls hdg hop hs hn hr1 hr2 kk
  | lmul  => exact am_s_lmul hc hcls hdg hop hs hn hr1 hr2 kk
  | ldiv  => exact am_s_ldiv hc hcls hdg hop hs hn hr1 hr2 kk
  | lcmp  => exact am_s_lcmp hc hcls hdg hop hs hn hr1 hr2 kk
  | i2l  => exact am_s_i2l hc hcls hdg hop hs hn hr1 hr2 kk
  | l2i  => exact am_s_l2i hc hcls hdg hop hs hn hr1 hr2 kk
  | i2b  => exact am_s_i2b hc hcls hdg hop hs hn hr1 hr2 kk
  | i2c  => exact am_s_i2c hc hcls hdg hop hs hn hr1 hr2 kk
  | dup  => exact am_s_dup hc hcls hdg hop hs hn hr1 hr2 kk
  | pop  => exact am_s_pop hc hcls hdg hop hs hn hr1 hr2 kk
  | dup2  => exact am_s_dup2 hc hcls hdg hop hs hn hr1 hr2 kk
  | goto x0 => exact am_s_goto hc hcls hdg hop hs hn hr1 hr2 kk
  | tableswitch x0 x1 x2 x3 => exact am_s_tableswitch hc hcls hdg hop hs hn hr1 hr2 kk
  | ifnull x0 => exact am_s_ifnull hc hcls hdg hop hs hn hr1 hr2 kk
  | ifnonnull x0 => exact am_s_ifnonnull hc hcls hdg hop hs hn hr1 hr2 kk
  | getfield x0 => exact am_s_getfield hc hcls hdg hop hs hn hr1 hr2 kk
  | getstatic x0 => exact am_s_getstatic hc hcls hdg hop hs hn hr1 hr2 kk
  | putfield x0 => exact am_s_putfield hc hcls hdg hop hs hn hr1 hr2 kk
  | arraylength  => exact am_s_arraylength hc hcls hdg hop hs hn hr1 hr2 kk
  | iaload  => exact am_s_iaload hc hcls hdg hop hs hn hr1 hr2 kk
  | baload  => exact am_s_baload hc hcls hdg hop hs hn hr1 hr2 kk
  | laload  => exact am_s_laload hc hcls hdg hop hs hn hr1 hr2 kk
  | aaload  => exact am_s_aaload hc hcls hdg hop hs hn hr1 hr2 kk
  | iastore  => exact am_s_iastore hc hcls hdg hop hs hn hr1 hr2 kk
  | bastore  => exact am_s_bastore hc hcls hdg hop hs hn hr1 hr2 kk
  | lastore  => exact am_s_lastore hc hcls hdg hop hs hn hr1 hr2 kk
  | aastore  => exact am_s_aastore hc hcls hdg hop hs hn hr1 hr2 kk
  | new x0 => exact am_s_new hc hcls hdg hop hs hn hr1 hr2 kk
  | newarray x0 => exact am_s_newarray hc hcls hdg hop hs hn hr1 hr2 kk
  | anewarray x0 => exact am_s_anewarray hc hcls hdg hop hs hn hr1 hr2 kk
  | invokespecial x0 => exact am_s_invokespecial hc hcls hdg hop hs hn hr1 hr2 kk
  | invokestatic x0 => exact am_s_invokestatic hc hcls hdg hop hs hn hr1 hr2 kk
  | ifCond x0 x1 => cases x0 with
    | eq => exact am_s_if_eq hc hcls hdg hop hs hn hr1 hr2 kk
    | ne => exact am_s_if_ne hc hcls hdg hop hs hn hr1 hr2 kk
    | lt => exact am_s_if_lt hc hcls hdg hop hs hn hr1 hr2 kk
    | ge => exact am_s_if_ge hc hcls hdg hop hs hn hr1 hr2 kk
    | gt => exact am_s_if_gt hc hcls hdg hop hs hn hr1 hr2 kk
    | le => exact am_s_if_le hc hcls hdg hop hs hn hr1 hr2 kk
  | if_icmp x0 x1 => cases x0 with
    | eq => exact am_s_icmp_eq hc hcls hdg hop hs hn hr1 hr2 kk
    | ne => exact am_s_icmp_ne hc hcls hdg hop hs hn hr1 hr2 kk
    | lt => exact am_s_icmp_lt hc hcls hdg hop hs hn hr1 hr2 kk
    | ge => exact am_s_icmp_ge hc hcls hdg hop hs hn hr1 hr2 kk
    | gt => exact am_s_icmp_gt hc hcls hdg hop hs hn hr1 hr2 kk
    | le => exact am_s_icmp_le hc hcls hdg hop hs hn hr1 hr2 kk
  | _ => have h9 : (none : Option am_S) = some S := hs; cases h9
end AJ
