section
variable {l : Launch} {base : Nat} {D : va_G} {aC : Nat → ClassId} {aE : Nat → Nat}
theorem xs_closedA (X : xX) : xClosedA X (xSG l base D aC aE X) := ⟨xs_iconst X, xs_bipush X, xs_sipush X, xs_lconst X, xs_ldc X, xs_ldcw X, xs_ldc2 X, xs_iload_n X, xs_iload X, xs_lload_n X, xs_lload X, xs_aload_n X, xs_aload X, xs_istore_n X, xs_istore X, xs_lstore_n X, xs_lstore X, xs_astore_n X, xs_astore X, xs_iinc X⟩
theorem xs_closedB (X : xX) : xClosedB X (xSG l base D aC aE X) := ⟨xs_iadd X, xs_isub X, xs_imul X, xs_iand X, xs_ior X, xs_ixor X, xs_ishl X, xs_ishr X, xs_iushr X, xs_idiv X, xs_irem X, xs_ladd X, xs_lsub X, xs_lmul X, xs_lor X, xs_ldiv X, xs_lrem X, xs_lshl X, xs_lcmp X, xs_i2l X, xs_i2b X, xs_dup X, xs_dup2 X, xs_pop X⟩
theorem xs_closedC (X : xX) : xClosedC X (xSG l base D aC aE X) := ⟨xs_if_eq X, xs_icmp_eq X, xs_if_ne X, xs_icmp_ne X, xs_if_lt X, xs_icmp_lt X, xs_if_ge X, xs_icmp_ge X, xs_if_gt X, xs_icmp_gt X, xs_if_le X, xs_icmp_le X, xs_goto X, xs_ifnonnull X, xs_ifnonnullN X, xs_tableIn X, xs_tableOut X, xs_lookup X⟩
theorem xs_closedD (X : xX) : xClosedD X (xSG l base D aC aE X) := ⟨xs_getI X, xs_getJ X, xs_getR X, xs_putI X, xs_putJ X, xs_putR X, xs_gets X, xs_ialdE X, xs_alenE X, xs_alen X, xs_iald X, xs_bald X, xs_zald X, xs_iast X, xs_bast X, xs_zast X, xs_aald X, xs_aaldN X, xs_aast X, xs_copy X⟩
theorem xs_closedE (X : xX) : xClosedE X (xSG l base D aC aE X) := ⟨xs_newa X, xs_newq X, xs_new X⟩
theorem xs_closedF (X : xX) : xClosedF X (xSG l base D aC aE X) := ⟨xs_ret X, xs_objInit X⟩
theorem xs_closedH (X : xX) : xClosedH X (xSG l base D aC aE X) := ⟨xs_callS X, xs_callV X, xs_callI X⟩
theorem xs_closedS (X : xX) : xClosedS X (xSG l base D aC aE X) := ⟨xs_i2c X, xs_ldcS X, xs_getSv X, xs_getSc X, xs_getsC X, xs_baldE X, xs_alenS X, xs_callT X, xs_callF X⟩
theorem xs_closedT (X : xX) : xClosedT X (xSG l base D aC aE X) := ⟨xs_perm X, xs_weak X⟩
theorem xs_closed (X : xX) : xClosed X (xSG l base D aC aE X) := ⟨xs_closedA X, xs_closedB X, xs_closedC X, xs_closedD X, xs_closedE X, xs_closedF X, xs_closedH X, xs_closedS X, xs_closedT X⟩
end
