/-! one instruction, all of them; nothing is taken back -/
section ZS
variable {p : Program} {l : Launch} {e : Env} {R : Room} {s : State} {m : MethodId} {args : Array Value} {below : List Frame} {meth : Method} {c : Code} {Q : State → Prop} {lo : Nat} {roa : Nat → Nat} {sio : Value} {D : va_G} {rS : zSh} {rC : zC} {d M a1 a2 b1 b2 : Nat} {pc len : Nat} {L : zLs} {st : List zV} {μ : zMem} {q : zst}
set_option maxHeartbeats 4000000 in
theorem znext_ok {op : Instr} (C : zCtx p R s m args meth c lo roa sio D rS rC d M) (hd : decode (zB M) pc = .ok (op, len)) (hn : znext d M pc L st μ op len = some q) (hrm : q.2.2.2.1.1 + b1 ≤ R.cells + a1 ∧ q.2.2.2.1.2 + b2 ≤ R.slots + a2) (k : zGo p l e R s m args below meth c Q lo roa sio D rS rC M a1 a2 b1 b2 q) : zGo p l e R s m args below meth c Q lo roa sio D rS rC M a1 a2 b1 b2 (pc, L, st, μ) :=
  match op, hd, hn with
  | .iconst _, hd, hn => zs_iconst C hd hn k
  | .bipush _, hd, hn => zs_bipush C hd hn k
  | .sipush _, hd, hn => zs_sipush C hd hn k
  | .iload _, hd, hn => zs_iload C hd hn k
  | .iload_n _, hd, hn => zs_iload_n C hd hn k
  | .aload _, hd, hn => zs_aload C hd hn k
  | .aload_n _, hd, hn => zs_aload_n C hd hn k
  | .lload _, hd, hn => zs_lload C hd hn k
  | .lload_n _, hd, hn => zs_lload_n C hd hn k
  | .istore _, hd, hn => zs_istore C hd hn k
  | .istore_n _, hd, hn => zs_istore_n C hd hn k
  | .astore_n _, hd, hn => zs_astore_n C hd hn k
  | .astore _, hd, hn => zs_astore C hd hn k
  | .lstore _, hd, hn => zs_lstore C hd hn k
  | .lstore_n _, hd, hn => zs_lstore_n C hd hn k
  | .iadd, hd, hn => zs_iadd C hd hn k
  | .isub, hd, hn => zs_isub C hd hn k
  | .imul, hd, hn => zs_imul C hd hn k
  | .ineg, hd, hn => zs_ineg C hd hn k
  | .idiv, hd, hn => zs_idiv C hd hn k
  | .irem, hd, hn => zs_irem C hd hn k
  | .ishl, hd, hn => zs_ishl C hd hn k
  | .ishr, hd, hn => zs_ishr C hd hn k
  | .i2l, hd, hn => zs_i2l C hd hn k
  | .i2b, hd, hn => zs_i2b C hd hn k
  | .i2c, hd, hn => zs_i2c C hd hn k
  | .ladd, hd, hn => zs_ladd C hd hn k
  | .lmul, hd, hn => zs_lmul C hd hn k
  | .pop, hd, hn => zs_pop C hd hn k
  | .dup, hd, hn => zs_dup C hd hn k
  | .dup2, hd, hn => zs_dup2 C hd hn k
  | .dup_x1, hd, hn => zs_dup_x1 C hd hn k
  | .goto _, hd, hn => zs_goto C hd hn k
  | .ifnonnull _, hd, hn => zs_ifnonnull C hd hn k
  | .iinc _ _, hd, hn => zs_iinc C hd hn k
  | .iand, hd, hn => zs_iand C hd hn k
  | .lcmp, hd, hn => zs_lcmp C hd hn k
  | .if_icmp _ _, hd, hn => zs_if_icmp C hd hn k
  | .ifCond _ _, hd, hn => zs_ifCond C hd hn k
  | .tableswitch _ _ _ _, hd, hn => zs_tableswitch C hd hn k
  | .ldc _, hd, hn => zs_ldc C hd hn k
  | .ldc_w _, hd, hn => zs_ldc_w C hd hn k
  | .ldc2_w _, hd, hn => zs_ldc2_w C hd hn k
  | .getstatic _, hd, hn => zs_getstatic C hd hn k
  | .getfield _, hd, hn => zs_getfield C hd hn k
  | .iaload, hd, hn => zs_iaload C hd hn k
  | .baload, hd, hn => zs_baload C hd hn k
  | .aaload, hd, hn => zs_aaload C hd hn k
  | .arraylength, hd, hn => zs_arraylength C hd hn k
  | .iastore, hd, hn => zs_iastore C hd hn k
  | .bastore, hd, hn => zs_bastore C hd hn k
  | .putfield _, hd, hn => zs_putfield C hd hn k
  | .aastore, hd, hn => zs_aastore C hd hn k
  | .new _, hd, hn => zs_new C hd hn hrm k
  | .anewarray _, hd, hn => zs_anewarray C hd hn hrm k
  | .invokespecial _, hd, hn => zs_invokespecial C hd hn k
  | .invokestatic _, hd, hn => zs_invokestatic C hd hn hrm k
  | .newarray a, hd, hn => match a, hd, hn with
    | .int, hd, hn => zs_newarray_i C hd hn hrm k
    | .byte, hd, hn => zs_newarray_b C hd hn hrm k
    | .boolean, _, hn => by cases hn
    | .char, _, hn => by cases hn
    | .float, _, hn => by cases hn
    | .double, _, hn => by cases hn
    | .short, _, hn => by cases hn
    | .long, _, hn => by cases hn
  | .aconst_null, _, hn => by cases hn
  | .areturn, _, hn => by cases hn
  | .athrow, _, hn => by cases hn
  | .caload, _, hn => by cases hn
  | .castore, _, hn => by cases hn
  | .checkcast _, _, hn => by cases hn
  | .d2f, _, hn => by cases hn
  | .d2i, _, hn => by cases hn
  | .d2l, _, hn => by cases hn
  | .dadd, _, hn => by cases hn
  | .daload, _, hn => by cases hn
  | .dastore, _, hn => by cases hn
  | .dcmp _, _, hn => by cases hn
  | .dconst _, _, hn => by cases hn
  | .ddiv, _, hn => by cases hn
  | .dload _, _, hn => by cases hn
  | .dload_n _, _, hn => by cases hn
  | .dmul, _, hn => by cases hn
  | .dneg, _, hn => by cases hn
  | .drem, _, hn => by cases hn
  | .dreturn, _, hn => by cases hn
  | .dstore _, _, hn => by cases hn
  | .dstore_n _, _, hn => by cases hn
  | .dsub, _, hn => by cases hn
  | .dup_x2, _, hn => by cases hn
  | .dup2_x1, _, hn => by cases hn
  | .dup2_x2, _, hn => by cases hn
  | .f2d, _, hn => by cases hn
  | .f2i, _, hn => by cases hn
  | .f2l, _, hn => by cases hn
  | .fadd, _, hn => by cases hn
  | .faload, _, hn => by cases hn
  | .fastore, _, hn => by cases hn
  | .fcmp _, _, hn => by cases hn
  | .fconst _, _, hn => by cases hn
  | .fdiv, _, hn => by cases hn
  | .fload _, _, hn => by cases hn
  | .fload_n _, _, hn => by cases hn
  | .fmul, _, hn => by cases hn
  | .fneg, _, hn => by cases hn
  | .frem, _, hn => by cases hn
  | .freturn, _, hn => by cases hn
  | .fstore _, _, hn => by cases hn
  | .fstore_n _, _, hn => by cases hn
  | .fsub, _, hn => by cases hn
  | .goto_w _, _, hn => by cases hn
  | .i2d, _, hn => by cases hn
  | .i2f, _, hn => by cases hn
  | .i2s, _, hn => by cases hn
  | .if_acmp _ _, _, hn => by cases hn
  | .ifnull _, _, hn => by cases hn
  | .instanceof _, _, hn => by cases hn
  | .invokedynamic _, _, hn => by cases hn
  | .invokeinterface _ _, _, hn => by cases hn
  | .invokevirtual _, _, hn => by cases hn
  | .ior, _, hn => by cases hn
  | .ireturn, _, hn => by cases hn
  | .iushr, _, hn => by cases hn
  | .ixor, _, hn => by cases hn
  | .jsr _, _, hn => by cases hn
  | .jsr_w _, _, hn => by cases hn
  | .l2d, _, hn => by cases hn
  | .l2f, _, hn => by cases hn
  | .l2i, _, hn => by cases hn
  | .laload, _, hn => by cases hn
  | .land, _, hn => by cases hn
  | .lastore, _, hn => by cases hn
  | .lconst _, _, hn => by cases hn
  | .ldiv, _, hn => by cases hn
  | .lneg, _, hn => by cases hn
  | .lookupswitch _ _, _, hn => by cases hn
  | .lor, _, hn => by cases hn
  | .lrem, _, hn => by cases hn
  | .lreturn, _, hn => by cases hn
  | .lshl, _, hn => by cases hn
  | .lshr, _, hn => by cases hn
  | .lsub, _, hn => by cases hn
  | .lushr, _, hn => by cases hn
  | .lxor, _, hn => by cases hn
  | .monitorenter, _, hn => by cases hn
  | .monitorexit, _, hn => by cases hn
  | .multianewarray _ _, _, hn => by cases hn
  | .nop, _, hn => by cases hn
  | .pop2, _, hn => by cases hn
  | .putstatic _, _, hn => by cases hn
  | .ret _, _, hn => by cases hn
  | .return_, _, hn => by cases hn
  | .saload, _, hn => by cases hn
  | .sastore, _, hn => by cases hn
  | .swap, _, hn => by cases hn
end ZS
set_option maxHeartbeats 4000000 in
theorem znext_mono {d M pc len : Nat} {L : zLs} {st : List zV} {μ : zMem} {q : zst} {op : Instr} (hn : znext d M pc L st μ op len = some q) : μ.1.1 ≤ q.2.2.2.1.1 ∧ μ.1.2 ≤ q.2.2.2.1.2 := by
  unfold znext at hn
  split at hn <;> (repeat' split at hn) <;> first | contradiction | (cases hn; exact ⟨Nat.le_refl _, Nat.le_refl _⟩) | (cases hn; dsimp only; omega)
theorem zgo_mono : ∀ (f d M pc : Nat) (L : zLs) (st : List zV) (μ : zMem) (r : Option zV) (μ' : zMem), zgo f d M pc L st μ = some (r, μ') → μ.1.1 ≤ μ'.1.1 ∧ μ.1.2 ≤ μ'.1.2
  | 0, _, _, _, _, _, _, _, _, h => by cases h
  | f + 1, d, M, pc, L, st, μ, r, μ', h => by
    unfold zgo at h
    split at h
    · split at h
      · rename_i hn
        have h1 := znext_mono hn
        have h2 := zgo_mono f _ _ _ _ _ _ _ _ h
        dsimp only at h1
        omega
      · split at h
        · split at h
          · cases h
          · split at h
            · rename_i hc
              have h1 := zgo_mono f _ _ _ _ _ _ _ _ hc
              have h2 := zgo_mono f _ _ _ _ _ _ _ _ h
              omega
            · cases h
        · split at h
          · cases h
            exact ⟨Nat.le_refl _, Nat.le_refl _⟩
          · cases h
    · cases h
