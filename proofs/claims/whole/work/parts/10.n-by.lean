def y_By_init : MethodName := ⟨"RescanMill$Bytes", "<init>", "(I)V"⟩
abbrev M_By_init : mt_T := (y_By_init, prog_4_method_1_code, 2, none)
def L_By_init : List (Nat × Instr × Nat) := [(0, .aload_n 0, 1), (1, .invokespecial 3, 3), (4, .aload_n 0, 1), (5, .iload_n 1, 1), (6, .iconst 0, 1), (7, .invokestatic 9, 3), (10, .newarray .byte, 2), (12, .putfield 15, 3), (15, .return_, 1)]
theorem D_By_init : decAll prog_4_method_1_code L_By_init = true := by decide +kernel
theorem K_By_init : MK M_By_init 1 := ⟨tb_in (i := 34) (by decide +kernel) (by decide +kernel), tb_in (i := 2) (by decide +kernel) (by decide +kernel), by decide +kernel, by decide, by decide +kernel, by decide +kernel, by decide +kernel⟩
theorem I_By_init : Cond.instanceMethod M_By_init.1 ∈ tbG := tb_in (i := 33) (by decide +kernel) (by decide +kernel)
def y_In_init : MethodName := ⟨"RescanMill$Input", "<init>", "()V"⟩
abbrev M_In_init : mt_T := (y_In_init, prog_10_method_1_code, 1, none)
def L_In_init : List (Nat × Instr × Nat) := [(0, .aload_n 0, 1), (1, .invokespecial 3, 3), (4, .aload_n 0, 1), (5, .new 9, 3), (8, .dup, 1), (9, .iconst 4, 1), (10, .invokespecial 11, 3), (13, .putfield 14, 3), (16, .aload_n 0, 1), (17, .new 9, 3), (20, .dup, 1), (21, .iconst 4, 1), (22, .invokespecial 11, 3), (25, .putfield 20, 3), (28, .aload_n 0, 1), (29, .new 9, 3), (32, .dup, 1), (33, .ldc 23, 2), (35, .invokespecial 11, 3), (38, .putfield 24, 3), (41, .aload_n 0, 1), (42, .new 9, 3), (45, .dup, 1), (46, .iconst 0, 1), (47, .invokespecial 11, 3), (50, .putfield 27, 3), (53, .aload_n 0, 1), (54, .ldc 23, 2), (56, .newarray .byte, 2), (58, .putfield 30, 3), (61, .aload_n 0, 1), (62, .ldc 23, 2), (64, .putfield 34, 3), (67, .return_, 1)]
theorem D_In_init : decAll prog_10_method_1_code L_In_init = true := by decide +kernel
theorem K_In_init : MK M_In_init 0 := ⟨tb_in (i := 62) (by decide +kernel) (by decide +kernel), tb_in (i := 4) (by decide +kernel) (by decide +kernel), by decide +kernel, by decide, by decide +kernel, by decide +kernel, by decide +kernel⟩
theorem I_In_init : Cond.instanceMethod M_In_init.1 ∈ tbG := tb_in (i := 61) (by decide +kernel) (by decide +kernel)
def y_Ca_init : MethodName := ⟨"RescanMill$Calls", "<init>", "()V"⟩
abbrev M_Ca_init : mt_T := (y_Ca_init, prog_5_method_1_code, 1, none)
def L_Ca_init : List (Nat × Instr × Nat) := [(0, .aload_n 0, 1), (1, .invokespecial 3, 3), (4, .aload_n 0, 1), (5, .new 9, 3), (8, .dup, 1), (9, .sipush 16384, 3), (12, .invokespecial 11, 3), (15, .putfield 14, 3), (18, .aload_n 0, 1), (19, .sipush 8192, 3), (22, .newarray .int, 2), (24, .putfield 20, 3), (27, .aload_n 0, 1), (28, .bipush 50, 2), (30, .newarray .int, 2), (32, .putfield 24, 3), (35, .aload_n 0, 1), (36, .bipush 50, 2), (38, .newarray .int, 2), (40, .putfield 27, 3), (43, .aload_n 0, 1), (44, .bipush 50, 2), (46, .newarray .int, 2), (48, .putfield 30, 3), (51, .aload_n 0, 1), (52, .bipush 50, 2), (54, .newarray .boolean, 2), (56, .putfield 33, 3), (59, .return_, 1)]
theorem D_Ca_init : decAll prog_5_method_1_code L_Ca_init = true := by decide +kernel
theorem K_Ca_init : MK M_Ca_init 0 := ⟨tb_in (i := 114) (by decide +kernel) (by decide +kernel), tb_in (i := 5) (by decide +kernel) (by decide +kernel), by decide +kernel, by decide, by decide +kernel, by decide +kernel, by decide +kernel⟩
theorem I_Ca_init : Cond.instanceMethod M_Ca_init.1 ∈ tbG := tb_in (i := 113) (by decide +kernel) (by decide +kernel)
def y_Ce_init : MethodName := ⟨"RescanMill$Cells", "<init>", "(I)V"⟩
abbrev M_Ce_init : mt_T := (y_Ce_init, prog_6_method_1_code, 2, none)
def L_Ce_init : List (Nat × Instr × Nat) := [(0, .aload_n 0, 1), (1, .invokespecial 1, 3), (4, .aload_n 0, 1), (5, .iconst (-1), 1), (6, .putfield 7, 3), (9, .aload_n 0, 1), (10, .iload_n 1, 1), (11, .iconst 0, 1), (12, .invokestatic 13, 3), (15, .newarray .byte, 2), (17, .putfield 19, 3), (20, .aload_n 0, 1), (21, .iload_n 1, 1), (22, .iconst 0, 1), (23, .invokestatic 13, 3), (26, .newarray .int, 2), (28, .putfield 23, 3), (31, .return_, 1)]
theorem D_Ce_init : decAll prog_6_method_1_code L_Ce_init = true := by decide +kernel
theorem K_Ce_init : MK M_Ce_init 1 := ⟨tb_in (i := 162) (by decide +kernel) (by decide +kernel), tb_in (i := 7) (by decide +kernel) (by decide +kernel), by decide +kernel, by decide, by decide +kernel, by decide +kernel, by decide +kernel⟩
theorem I_Ce_init : Cond.instanceMethod M_Ce_init.1 ∈ tbG := tb_in (i := 161) (by decide +kernel) (by decide +kernel)
def y_Ch_init : MethodName := ⟨"RescanMill$Chain", "<init>", "()V"⟩
abbrev M_Ch_init : mt_T := (y_Ch_init, prog_7_method_1_code, 1, none)
def L_Ch_init : List (Nat × Instr × Nat) := [(0, .aload_n 0, 1), (1, .invokespecial 1, 3), (4, .aload_n 0, 1), (5, .iconst (-1), 1), (6, .putfield 7, 3), (9, .aload_n 0, 1), (10, .iconst (-1), 1), (11, .putfield 13, 3), (14, .return_, 1)]
theorem D_Ch_init : decAll prog_7_method_1_code L_Ch_init = true := by decide +kernel
theorem K_Ch_init : MK M_Ch_init 0 := ⟨tb_in (i := 194) (by decide +kernel) (by decide +kernel), tb_in (i := 9) (by decide +kernel) (by decide +kernel), by decide +kernel, by decide, by decide +kernel, by decide +kernel, by decide +kernel⟩
theorem I_Ch_init : Cond.instanceMethod M_Ch_init.1 ∈ tbG := tb_in (i := 193) (by decide +kernel) (by decide +kernel)
def y_By_add : MethodName := ⟨"RescanMill$Bytes", "add", "(I)V"⟩
abbrev M_By_add : mt_T := (y_By_add, prog_4_method_5_code, 2, none)
def L_By_add : List (Nat × Instr × Nat) := [(0, .aload_n 0, 1), (1, .getfield 25, 3), (4, .ifCond .ne 22, 3), (7, .aload_n 0, 1), (8, .getfield 21, 3), (11, .ifCond .lt 15, 3), (14, .aload_n 0, 1), (15, .getfield 21, 3), (18, .aload_n 0, 1), (19, .getfield 15, 3), (22, .arraylength, 1), (23, .if_icmp .lt 9, 3), (26, .aload_n 0, 1), (27, .iconst 1, 1), (28, .putfield 25, 3), (31, .return_, 1), (32, .aload_n 0, 1), (33, .getfield 15, 3), (36, .aload_n 0, 1), (37, .getfield 21, 3), (40, .iload_n 1, 1), (41, .i2b, 1), (42, .bastore, 1), (43, .aload_n 0, 1), (44, .dup, 1), (45, .getfield 21, 3), (48, .iconst 1, 1), (49, .iadd, 1), (50, .putfield 21, 3), (53, .return_, 1)]
theorem D_By_add : decAll prog_4_method_5_code L_By_add = true := by decide +kernel
theorem K_By_add : MK M_By_add 1 := ⟨tb_in (i := 359) (by decide +kernel) (by decide +kernel), tb_in (i := 2) (by decide +kernel) (by decide +kernel), by decide +kernel, by decide, by decide +kernel, by decide +kernel, by decide +kernel⟩
theorem I_By_add : Cond.instanceMethod M_By_add.1 ∈ tbG := tb_in (i := 357) (by decide +kernel) (by decide +kernel)
theorem V_By_add : MV M_By_add := ⟨I_By_add, tb_in (i := 358) (by decide +kernel) (by decide +kernel)⟩
def y_By_addPart : MethodName := ⟨"RescanMill$Bytes", "addPart", "(LRescanMill$Bytes;II)V"⟩
abbrev M_By_addPart : mt_T := (y_By_addPart, prog_4_method_6_code, 4, none)
def L_By_addPart : List (Nat × Instr × Nat) := [(0, .aload_n 0, 1), (1, .getfield 25, 3), (4, .ifCond .ne 11, 3), (7, .aload_n 0, 1), (8, .iload_n 3, 1), (9, .invokevirtual 29, 3), (12, .ifCond .ne 9, 3), (15, .aload_n 0, 1), (16, .iconst 1, 1), (17, .putfield 25, 3), (20, .return_, 1), (21, .iload_n 2, 1), (22, .ifCond .lt 44, 3), (25, .iload_n 3, 1), (26, .ifCond .le 40, 3), (29, .iload_n 2, 1), (30, .aload_n 1, 1), (31, .getfield 21, 3), (34, .iload_n 3, 1), (35, .isub, 1), (36, .if_icmp .gt 30, 3), (39, .aload_n 1, 1), (40, .getfield 15, 3), (43, .iload_n 2, 1), (44, .aload_n 0, 1), (45, .getfield 15, 3), (48, .aload_n 0, 1), (49, .getfield 21, 3), (52, .iload_n 3, 1), (53, .invokestatic 33, 3), (56, .aload_n 0, 1), (57, .dup, 1), (58, .getfield 21, 3), (61, .iload_n 3, 1), (62, .iadd, 1), (63, .putfield 21, 3), (66, .return_, 1)]
theorem D_By_addPart : decAll prog_4_method_6_code L_By_addPart = true := by decide +kernel
theorem K_By_addPart : MK M_By_addPart 3 := ⟨tb_in (i := 367) (by decide +kernel) (by decide +kernel), tb_in (i := 2) (by decide +kernel) (by decide +kernel), by decide +kernel, by decide, by decide +kernel, by decide +kernel, by decide +kernel⟩
theorem I_By_addPart : Cond.instanceMethod M_By_addPart.1 ∈ tbG := tb_in (i := 365) (by decide +kernel) (by decide +kernel)
theorem V_By_addPart : MV M_By_addPart := ⟨I_By_addPart, tb_in (i := 366) (by decide +kernel) (by decide +kernel)⟩
def y_By_hasRoom : MethodName := ⟨"RescanMill$Bytes", "hasRoom", "(I)Z"⟩
abbrev M_By_hasRoom : mt_T := (y_By_hasRoom, prog_4_method_4_code, 2, (some (.boolean)))
def L_By_hasRoom : List (Nat × Instr × Nat) := [(0, .iload_n 1, 1), (1, .aload_n 0, 1), (2, .getfield 15, 3), (5, .arraylength, 1), (6, .aload_n 0, 1), (7, .getfield 21, 3), (10, .isub, 1), (11, .if_icmp .gt 7, 3), (14, .iconst 1, 1), (15, .goto 4, 3), (18, .iconst 0, 1), (19, .ireturn, 1)]
theorem D_By_hasRoom : decAll prog_4_method_4_code L_By_hasRoom = true := by decide +kernel
theorem K_By_hasRoom : MK M_By_hasRoom 1 := ⟨tb_in (i := 371) (by decide +kernel) (by decide +kernel), tb_in (i := 2) (by decide +kernel) (by decide +kernel), by decide +kernel, by decide, by decide +kernel, by decide +kernel, by decide +kernel⟩
theorem I_By_hasRoom : Cond.instanceMethod M_By_hasRoom.1 ∈ tbG := tb_in (i := 369) (by decide +kernel) (by decide +kernel)
theorem V_By_hasRoom : MV M_By_hasRoom := ⟨I_By_hasRoom, tb_in (i := 370) (by decide +kernel) (by decide +kernel)⟩
def y_By_cut : MethodName := ⟨"RescanMill$Bytes", "cut", "(I)V"⟩
abbrev M_By_cut : mt_T := (y_By_cut, prog_4_method_2_code, 2, none)
def L_By_cut : List (Nat × Instr × Nat) := [(0, .iload_n 1, 1), (1, .ifCond .lt 16, 3), (4, .iload_n 1, 1), (5, .aload_n 0, 1), (6, .getfield 21, 3), (9, .if_icmp .gt 8, 3), (12, .aload_n 0, 1), (13, .iload_n 1, 1), (14, .putfield 21, 3), (17, .aload_n 0, 1), (18, .iconst 0, 1), (19, .putfield 25, 3), (22, .return_, 1)]
theorem D_By_cut : decAll prog_4_method_2_code L_By_cut = true := by decide +kernel
theorem K_By_cut : MK M_By_cut 1 := ⟨tb_in (i := 382) (by decide +kernel) (by decide +kernel), tb_in (i := 2) (by decide +kernel) (by decide +kernel), by decide +kernel, by decide, by decide +kernel, by decide +kernel, by decide +kernel⟩
theorem I_By_cut : Cond.instanceMethod M_By_cut.1 ∈ tbG := tb_in (i := 380) (by decide +kernel) (by decide +kernel)
theorem V_By_cut : MV M_By_cut := ⟨I_By_cut, tb_in (i := 381) (by decide +kernel) (by decide +kernel)⟩
def y_In_begin : MethodName := ⟨"RescanMill$Input", "begin", "(LRescanMill$Bytes;I)V"⟩
abbrev M_In_begin : mt_T := (y_In_begin, prog_10_method_2_code, 3, none)
def L_In_begin : List (Nat × Instr × Nat) := [(0, .aload_n 0, 1), (1, .aload_n 1, 1), (2, .putfield 27, 3), (5, .aload_n 0, 1), (6, .iload_n 2, 1), (7, .putfield 38, 3), (10, .aload_n 0, 1), (11, .iconst 0, 1), (12, .putfield 41, 3), (15, .aload_n 0, 1), (16, .iconst 0, 1), (17, .putfield 44, 3), (20, .aload_n 0, 1), (21, .iconst 0, 1), (22, .putfield 47, 3), (25, .aload_n 0, 1), (26, .aload_n 0, 1), (27, .getfield 30, 3), (30, .arraylength, 1), (31, .putfield 34, 3), (34, .aload_n 0, 1), (35, .invokevirtual 50, 3), (38, .return_, 1)]
theorem D_In_begin : decAll prog_10_method_2_code L_In_begin = true := by decide +kernel
theorem K_In_begin : MK M_In_begin 2 := ⟨tb_in (i := 395) (by decide +kernel) (by decide +kernel), tb_in (i := 4) (by decide +kernel) (by decide +kernel), by decide +kernel, by decide, by decide +kernel, by decide +kernel, by decide +kernel⟩
theorem I_In_begin : Cond.instanceMethod M_In_begin.1 ∈ tbG := tb_in (i := 393) (by decide +kernel) (by decide +kernel)
theorem V_In_begin : MV M_In_begin := ⟨I_In_begin, tb_in (i := 394) (by decide +kernel) (by decide +kernel)⟩
def y_In_useFirstQuotes : MethodName := ⟨"RescanMill$Input", "useFirstQuotes", "()V"⟩
abbrev M_In_useFirstQuotes : mt_T := (y_In_useFirstQuotes, prog_10_method_3_code, 1, none)
def L_In_useFirstQuotes : List (Nat × Instr × Nat) := [(0, .aload_n 0, 1), (1, .getfield 14, 3), (4, .iconst 0, 1), (5, .invokevirtual 53, 3), (8, .aload_n 0, 1), (9, .getfield 14, 3), (12, .bipush 96, 2), (14, .invokevirtual 56, 3), (17, .aload_n 0, 1), (18, .getfield 20, 3), (21, .iconst 0, 1), (22, .invokevirtual 53, 3), (25, .aload_n 0, 1), (26, .getfield 20, 3), (29, .bipush 39, 2), (31, .invokevirtual 56, 3), (34, .return_, 1)]
theorem D_In_useFirstQuotes : decAll prog_10_method_3_code L_In_useFirstQuotes = true := by decide +kernel
theorem K_In_useFirstQuotes : MK M_In_useFirstQuotes 0 := ⟨tb_in (i := 399) (by decide +kernel) (by decide +kernel), tb_in (i := 4) (by decide +kernel) (by decide +kernel), by decide +kernel, by decide, by decide +kernel, by decide +kernel, by decide +kernel⟩
theorem I_In_useFirstQuotes : Cond.instanceMethod M_In_useFirstQuotes.1 ∈ tbG := tb_in (i := 397) (by decide +kernel) (by decide +kernel)
theorem V_In_useFirstQuotes : MV M_In_useFirstQuotes := ⟨I_In_useFirstQuotes, tb_in (i := 398) (by decide +kernel) (by decide +kernel)⟩
def y_Ca_forget : MethodName := ⟨"RescanMill$Calls", "forget", "()V"⟩
abbrev M_Ca_forget : mt_T := (y_Ca_forget, prog_5_method_2_code, 1, none)
def L_Ca_forget : List (Nat × Instr × Nat) := [(0, .aload_n 0, 1), (1, .getfield 14, 3), (4, .iconst 0, 1), (5, .invokevirtual 37, 3), (8, .aload_n 0, 1), (9, .iconst 0, 1), (10, .putfield 40, 3), (13, .aload_n 0, 1), (14, .iconst 0, 1), (15, .putfield 44, 3), (18, .aload_n 0, 1), (19, .iconst 0, 1), (20, .putfield 48, 3), (23, .return_, 1)]
theorem D_Ca_forget : decAll prog_5_method_2_code L_Ca_forget = true := by decide +kernel
theorem K_Ca_forget : MK M_Ca_forget 0 := ⟨tb_in (i := 405) (by decide +kernel) (by decide +kernel), tb_in (i := 5) (by decide +kernel) (by decide +kernel), by decide +kernel, by decide, by decide +kernel, by decide +kernel, by decide +kernel⟩
theorem I_Ca_forget : Cond.instanceMethod M_Ca_forget.1 ∈ tbG := tb_in (i := 403) (by decide +kernel) (by decide +kernel)
theorem V_Ca_forget : MV M_Ca_forget := ⟨I_Ca_forget, tb_in (i := 404) (by decide +kernel) (by decide +kernel)⟩
def y_Ce_forget : MethodName := ⟨"RescanMill$Cells", "forget", "()V"⟩
abbrev M_Ce_forget : mt_T := (y_Ce_forget, prog_6_method_2_code, 1, none)
def L_Ce_forget : List (Nat × Instr × Nat) := [(0, .aload_n 0, 1), (1, .iconst 0, 1), (2, .putfield 27, 3), (5, .aload_n 0, 1), (6, .iconst (-1), 1), (7, .putfield 7, 3), (10, .aload_n 0, 1), (11, .iconst 0, 1), (12, .putfield 30, 3), (15, .return_, 1)]
theorem D_Ce_forget : decAll prog_6_method_2_code L_Ce_forget = true := by decide +kernel
theorem K_Ce_forget : MK M_Ce_forget 0 := ⟨tb_in (i := 414) (by decide +kernel) (by decide +kernel), tb_in (i := 7) (by decide +kernel) (by decide +kernel), by decide +kernel, by decide, by decide +kernel, by decide +kernel, by decide +kernel⟩
theorem I_Ce_forget : Cond.instanceMethod M_Ce_forget.1 ∈ tbG := tb_in (i := 412) (by decide +kernel) (by decide +kernel)
theorem V_Ce_forget : MV M_Ce_forget := ⟨I_Ce_forget, tb_in (i := 413) (by decide +kernel) (by decide +kernel)⟩
def y_Ch_loosen : MethodName := ⟨"RescanMill$Chain", "loosen", "()V"⟩
abbrev M_Ch_loosen : mt_T := (y_Ch_loosen, prog_7_method_2_code, 1, none)
def L_Ch_loosen : List (Nat × Instr × Nat) := [(0, .aload_n 0, 1), (1, .iconst (-1), 1), (2, .putfield 7, 3), (5, .aload_n 0, 1), (6, .iconst (-1), 1), (7, .putfield 13, 3), (10, .aload_n 0, 1), (11, .iconst 0, 1), (12, .putfield 16, 3), (15, .return_, 1)]
theorem D_Ch_loosen : decAll prog_7_method_2_code L_Ch_loosen = true := by decide +kernel
theorem K_Ch_loosen : MK M_Ch_loosen 0 := ⟨tb_in (i := 418) (by decide +kernel) (by decide +kernel), tb_in (i := 9) (by decide +kernel) (by decide +kernel), by decide +kernel, by decide, by decide +kernel, by decide +kernel, by decide +kernel⟩
theorem I_Ch_loosen : Cond.instanceMethod M_Ch_loosen.1 ∈ tbG := tb_in (i := 416) (by decide +kernel) (by decide +kernel)
theorem V_Ch_loosen : MV M_Ch_loosen := ⟨I_Ch_loosen, tb_in (i := 417) (by decide +kernel) (by decide +kernel)⟩
def y_By_addText : MethodName := ⟨"RescanMill$Bytes", "addText", "(Ljava/lang/String;)V"⟩
abbrev M_By_addText : mt_T := (y_By_addText, prog_4_method_7_code, 3, none)
def L_By_addText : List (Nat × Instr × Nat) := [(0, .iconst 0, 1), (1, .istore_n 2, 1), (2, .iload_n 2, 1), (3, .aload_n 1, 1), (4, .invokevirtual 39, 3), (7, .if_icmp .ge 18, 3), (10, .aload_n 0, 1), (11, .aload_n 1, 1), (12, .iload_n 2, 1), (13, .invokevirtual 45, 3), (16, .invokevirtual 49, 3), (19, .iinc 2 1, 3), (22, .goto (-20), 3), (25, .return_, 1)]
theorem D_By_addText : decAll prog_4_method_7_code L_By_addText = true := by decide +kernel
theorem K_By_addText : MK M_By_addText 1 := ⟨tb_in (i := 429) (by decide +kernel) (by decide +kernel), tb_in (i := 2) (by decide +kernel) (by decide +kernel), by decide +kernel, by decide, by decide +kernel, by decide +kernel, by decide +kernel⟩
theorem I_By_addText : Cond.instanceMethod M_By_addText.1 ∈ tbG := tb_in (i := 427) (by decide +kernel) (by decide +kernel)
theorem V_By_addText : MV M_By_addText := ⟨I_By_addText, tb_in (i := 428) (by decide +kernel) (by decide +kernel)⟩
def y_St_length : MethodName := ⟨"java/lang/String", "length", "()I"⟩
abbrev M_St_length : mt_T := (y_St_length, prog_18_method_54_code, 1, (some (.int)))
def L_St_length : List (Nat × Instr × Nat) := [(0, .aload_n 0, 1), (1, .getfield 9, 3), (4, .arraylength, 1), (5, .aload_n 0, 1), (6, .invokevirtual 335, 3), (9, .ishr, 1), (10, .ireturn, 1)]
theorem D_St_length : decAll prog_18_method_54_code L_St_length = true := by decide +kernel
theorem K_St_length : MK M_St_length 0 := ⟨tb_in (i := 433) (by decide +kernel) (by decide +kernel), tb_in (i := 14) (by decide +kernel) (by decide +kernel), by decide +kernel, by decide, by decide +kernel, by decide +kernel, by decide +kernel⟩
theorem I_St_length : Cond.instanceMethod M_St_length.1 ∈ tbG := tb_in (i := 431) (by decide +kernel) (by decide +kernel)
theorem V_St_length : MV M_St_length := ⟨I_St_length, tb_in (i := 432) (by decide +kernel) (by decide +kernel)⟩
def y_St_coder : MethodName := ⟨"java/lang/String", "coder", "()B"⟩
abbrev M_St_coder : mt_T := (y_St_coder, prog_18_method_152_code, 1, (some (.byte)))
def L_St_coder : List (Nat × Instr × Nat) := [(0, .getstatic 38, 3), (3, .ifCond .eq 10, 3), (6, .aload_n 0, 1), (7, .getfield 15, 3), (10, .goto 4, 3), (13, .iconst 1, 1), (14, .ireturn, 1)]
theorem D_St_coder : decAll prog_18_method_152_code L_St_coder = true := by decide +kernel
theorem K_St_coder : MK M_St_coder 0 := ⟨tb_in (i := 437) (by decide +kernel) (by decide +kernel), tb_in (i := 14) (by decide +kernel) (by decide +kernel), by decide +kernel, by decide, by decide +kernel, by decide +kernel, by decide +kernel⟩
theorem I_St_coder : Cond.instanceMethod M_St_coder.1 ∈ tbG := tb_in (i := 435) (by decide +kernel) (by decide +kernel)
theorem V_St_coder : MV M_St_coder := ⟨I_St_coder, tb_in (i := 436) (by decide +kernel) (by decide +kernel)⟩
def y_St_charAt : MethodName := ⟨"java/lang/String", "charAt", "(I)C"⟩
abbrev M_St_charAt : mt_T := (y_St_charAt, prog_18_method_56_code, 2, (some (.char)))
def L_St_charAt : List (Nat × Instr × Nat) := [(0, .aload_n 0, 1), (1, .invokevirtual 492, 3), (4, .ifCond .eq 12, 3), (7, .aload_n 0, 1), (8, .getfield 9, 3), (11, .iload_n 1, 1), (12, .invokestatic 495, 3), (15, .ireturn, 1), (16, .aload_n 0, 1), (17, .getfield 9, 3), (20, .iload_n 1, 1), (21, .invokestatic 498, 3), (24, .ireturn, 1)]
theorem D_St_charAt : decAll prog_18_method_56_code L_St_charAt = true := by decide +kernel
theorem K_St_charAt : MK M_St_charAt 1 := ⟨tb_in (i := 443) (by decide +kernel) (by decide +kernel), tb_in (i := 14) (by decide +kernel) (by decide +kernel), by decide +kernel, by decide, by decide +kernel, by decide +kernel, by decide +kernel⟩
theorem I_St_charAt : Cond.instanceMethod M_St_charAt.1 ∈ tbG := tb_in (i := 441) (by decide +kernel) (by decide +kernel)
theorem V_St_charAt : MV M_St_charAt := ⟨I_St_charAt, tb_in (i := 442) (by decide +kernel) (by decide +kernel)⟩
def y_St_isLatin1 : MethodName := ⟨"java/lang/String", "isLatin1", "()Z"⟩
abbrev M_St_isLatin1 : mt_T := (y_St_isLatin1, prog_18_method_154_code, 1, (some (.boolean)))
def L_St_isLatin1 : List (Nat × Instr × Nat) := [(0, .getstatic 38, 3), (3, .ifCond .eq 14, 3), (6, .aload_n 0, 1), (7, .getfield 15, 3), (10, .ifCond .ne 7, 3), (13, .iconst 1, 1), (14, .goto 4, 3), (17, .iconst 0, 1), (18, .ireturn, 1)]
theorem D_St_isLatin1 : decAll prog_18_method_154_code L_St_isLatin1 = true := by decide +kernel
theorem K_St_isLatin1 : MK M_St_isLatin1 0 := ⟨tb_in (i := 447) (by decide +kernel) (by decide +kernel), tb_in (i := 14) (by decide +kernel) (by decide +kernel), by decide +kernel, by decide, by decide +kernel, by decide +kernel, by decide +kernel⟩
theorem I_St_isLatin1 : Cond.instanceMethod M_St_isLatin1.1 ∈ tbG := tb_in (i := 445) (by decide +kernel) (by decide +kernel)
theorem V_St_isLatin1 : MV M_St_isLatin1 := ⟨I_St_isLatin1, tb_in (i := 446) (by decide +kernel) (by decide +kernel)⟩
def y_Sl_charAt : MethodName := ⟨"java/lang/StringLatin1", "charAt", "([BI)C"⟩
abbrev M_Sl_charAt : mt_T := (y_Sl_charAt, prog_19_method_2_code, 2, (some (.char)))
def L_Sl_charAt : List (Nat × Instr × Nat) := [(0, .iload_n 1, 1), (1, .aload_n 0, 1), (2, .arraylength, 1), (3, .invokestatic 9, 3), (6, .aload_n 0, 1), (7, .iload_n 1, 1), (8, .baload, 1), (9, .sipush 255, 3), (12, .iand, 1), (13, .i2c, 1), (14, .ireturn, 1)]
theorem D_Sl_charAt : decAll prog_19_method_2_code L_Sl_charAt = true := by decide +kernel
theorem K_Sl_charAt : MK M_Sl_charAt 2 := ⟨tb_in (i := 450) (by decide +kernel) (by decide +kernel), tb_in (i := 15) (by decide +kernel) (by decide +kernel), by decide +kernel, by decide, by decide +kernel, by decide +kernel, by decide +kernel⟩
theorem S_Sl_charAt : Cond.static M_Sl_charAt.1 ∈ tbG := tb_in (i := 449) (by decide +kernel) (by decide +kernel)
def y_St_checkIndex : MethodName := ⟨"java/lang/String", "checkIndex", "(II)V"⟩
abbrev M_St_checkIndex : mt_T := (y_St_checkIndex, prog_18_method_155_code, 2, none)
def L_St_checkIndex : List (Nat × Instr × Nat) := [(0, .iload_n 0, 1), (1, .iload_n 1, 1), (2, .getstatic 1053, 3), (5, .invokestatic 1059, 3), (8, .pop, 1), (9, .return_, 1)]
theorem D_St_checkIndex : decAll prog_18_method_155_code L_St_checkIndex = true := by decide +kernel
theorem K_St_checkIndex : MK M_St_checkIndex 2 := ⟨tb_in (i := 453) (by decide +kernel) (by decide +kernel), tb_in (i := 14) (by decide +kernel) (by decide +kernel), by decide +kernel, by decide, by decide +kernel, by decide +kernel, by decide +kernel⟩
theorem S_St_checkIndex : Cond.static M_St_checkIndex.1 ∈ tbG := tb_in (i := 452) (by decide +kernel) (by decide +kernel)
def y_Pr_checkIndex : MethodName := ⟨"jdk/internal/util/Preconditions", "checkIndex", "(IILjava/util/function/BiFunction;)I"⟩
abbrev M_Pr_checkIndex : mt_T := (y_Pr_checkIndex, prog_22_method_11_code, 3, (some (.int)))
def L_Pr_checkIndex : List (Nat × Instr × Nat) := [(0, .iload_n 0, 1), (1, .ifCond .lt 8, 3), (4, .iload_n 0, 1), (5, .iload_n 1, 1), (6, .if_icmp .lt 10, 3), (9, .aload_n 2, 1), (10, .iload_n 0, 1), (11, .iload_n 1, 1), (12, .invokestatic 95, 3), (15, .athrow, 1), (16, .iload_n 0, 1), (17, .ireturn, 1)]
theorem D_Pr_checkIndex : decAll prog_22_method_11_code L_Pr_checkIndex = true := by decide +kernel
theorem K_Pr_checkIndex : MK M_Pr_checkIndex 3 := ⟨tb_in (i := 458) (by decide +kernel) (by decide +kernel), tb_in (i := 16) (by decide +kernel) (by decide +kernel), by decide +kernel, by decide, by decide +kernel, by decide +kernel, by decide +kernel⟩
theorem S_Pr_checkIndex : Cond.static M_Pr_checkIndex.1 ∈ tbG := tb_in (i := 457) (by decide +kernel) (by decide +kernel)
def y_By_at : MethodName := ⟨"RescanMill$Bytes", "at", "(I)I"⟩
abbrev M_By_at : mt_T := (y_By_at, prog_4_method_3_code, 2, (some (.int)))
def L_By_at : List (Nat × Instr × Nat) := [(0, .iload_n 1, 1), (1, .ifCond .lt 33, 3), (4, .iload_n 1, 1), (5, .aload_n 0, 1), (6, .getfield 21, 3), (9, .if_icmp .ge 25, 3), (12, .iload_n 1, 1), (13, .aload_n 0, 1), (14, .getfield 15, 3), (17, .arraylength, 1), (18, .if_icmp .ge 16, 3), (21, .aload_n 0, 1), (22, .getfield 15, 3), (25, .iload_n 1, 1), (26, .baload, 1), (27, .sipush 255, 3), (30, .iand, 1), (31, .goto 4, 3), (34, .iconst (-1), 1), (35, .ireturn, 1)]
theorem D_By_at : decAll prog_4_method_3_code L_By_at = true := by decide +kernel
theorem K_By_at : MK M_By_at 1 := ⟨tb_in (i := 493) (by decide +kernel) (by decide +kernel), tb_in (i := 2) (by decide +kernel) (by decide +kernel), by decide +kernel, by decide, by decide +kernel, by decide +kernel, by decide +kernel⟩
theorem I_By_at : Cond.instanceMethod M_By_at.1 ∈ tbG := tb_in (i := 491) (by decide +kernel) (by decide +kernel)
theorem V_By_at : MV M_By_at := ⟨I_By_at, tb_in (i := 492) (by decide +kernel) (by decide +kernel)⟩
def y_Ce_add : MethodName := ⟨"RescanMill$Cells", "add", "(LRescanMill$Chain;LRescanMill$Bytes;II)Z"⟩
abbrev M_Ce_add : mt_T := (y_Ce_add, prog_6_method_6_code, 7, (some (.boolean)))
def L_Ce_add : List (Nat × Instr × Nat) := [(0, .iload 4, 2), (2, .aload_n 0, 1), (3, .getfield 19, 3), (6, .arraylength, 1), (7, .aload_n 0, 1), (8, .getfield 30, 3), (11, .isub, 1), (12, .if_icmp .le 5, 3), (15, .iconst 0, 1), (16, .ireturn, 1), (17, .iconst 0, 1), (18, .istore 5, 2), (20, .iload 5, 2), (22, .iload 4, 2), (24, .if_icmp .ge 115, 3), (27, .aload_n 0, 1), (28, .getfield 7, 3), (31, .ifCond .lt 10, 3), (34, .aload_n 0, 1), (35, .getfield 7, 3), (38, .goto 7, 3), (41, .aload_n 0, 1), (42, .getfield 27, 3), (45, .istore 6, 2), (47, .aload_n 0, 1), (48, .iload 6, 2), (50, .invokevirtual 33, 3), (53, .ifCond .ne 5, 3), (56, .iconst 0, 1), (57, .ireturn, 1), (58, .aload_n 0, 1), (59, .getfield 7, 3), (62, .ifCond .lt 17, 3), (65, .aload_n 0, 1), (66, .aload_n 0, 1), (67, .getfield 23, 3), (70, .iload 6, 2), (72, .iaload, 1), (73, .putfield 7, 3), (76, .goto 13, 3), (79, .aload_n 0, 1), (80, .dup, 1), (81, .getfield 27, 3), (84, .iconst 1, 1), (85, .iadd, 1), (86, .putfield 27, 3), (89, .aload_n 0, 1), (90, .getfield 19, 3), (93, .iload 6, 2), (95, .aload_n 2, 1), (96, .iload_n 3, 1), (97, .iload 5, 2), (99, .iadd, 1), (100, .invokevirtual 37, 3), (103, .i2b, 1), (104, .bastore, 1), (105, .aload_n 0, 1), (106, .getfield 23, 3), (109, .iload 6, 2), (111, .iconst (-1), 1), (112, .iastore, 1), (113, .aload_n 0, 1), (114, .aload_n 1, 1), (115, .iload 6, 2), (117, .iload 6, 2), (119, .iconst 1, 1), (120, .invokevirtual 43, 3), (123, .aload_n 0, 1), (124, .dup, 1), (125, .getfield 30, 3), (128, .iconst 1, 1), (129, .iadd, 1), (130, .putfield 30, 3), (133, .iinc 5 1, 3), (136, .goto (-116), 3), (139, .iconst 1, 1), (140, .ireturn, 1)]
theorem D_Ce_add : decAll prog_6_method_6_code L_Ce_add = true := by decide +kernel
theorem K_Ce_add : MK M_Ce_add 4 := ⟨tb_in (i := 497) (by decide +kernel) (by decide +kernel), tb_in (i := 7) (by decide +kernel) (by decide +kernel), by decide +kernel, by decide, by decide +kernel, by decide +kernel, by decide +kernel⟩
theorem I_Ce_add : Cond.instanceMethod M_Ce_add.1 ∈ tbG := tb_in (i := 495) (by decide +kernel) (by decide +kernel)
theorem V_Ce_add : MV M_Ce_add := ⟨I_Ce_add, tb_in (i := 496) (by decide +kernel) (by decide +kernel)⟩
def y_Ce_isCell : MethodName := ⟨"RescanMill$Cells", "isCell", "(I)Z"⟩
abbrev M_Ce_isCell : mt_T := (y_Ce_isCell, prog_6_method_3_code, 2, (some (.boolean)))
def L_Ce_isCell : List (Nat × Instr × Nat) := [(0, .iload_n 1, 1), (1, .ifCond .lt 25, 3), (4, .iload_n 1, 1), (5, .aload_n 0, 1), (6, .getfield 19, 3), (9, .arraylength, 1), (10, .if_icmp .ge 16, 3), (13, .iload_n 1, 1), (14, .aload_n 0, 1), (15, .getfield 23, 3), (18, .arraylength, 1), (19, .if_icmp .ge 7, 3), (22, .iconst 1, 1), (23, .goto 4, 3), (26, .iconst 0, 1), (27, .ireturn, 1)]
theorem D_Ce_isCell : decAll prog_6_method_3_code L_Ce_isCell = true := by decide +kernel
theorem K_Ce_isCell : MK M_Ce_isCell 1 := ⟨tb_in (i := 501) (by decide +kernel) (by decide +kernel), tb_in (i := 7) (by decide +kernel) (by decide +kernel), by decide +kernel, by decide, by decide +kernel, by decide +kernel, by decide +kernel⟩
theorem I_Ce_isCell : Cond.instanceMethod M_Ce_isCell.1 ∈ tbG := tb_in (i := 500) (by decide +kernel) (by decide +kernel)
theorem V_Ce_isCell : MV M_Ce_isCell := ⟨I_Ce_isCell, ts_in (i := 2) (by decide +kernel) (by decide +kernel)⟩
def y_Ce_hang : MethodName := ⟨"RescanMill$Cells", "hang", "(LRescanMill$Chain;III)V"⟩
abbrev M_Ce_hang : mt_T := (y_Ce_hang, prog_6_method_7_code, 5, none)
def L_Ce_hang : List (Nat × Instr × Nat) := [(0, .aload_n 1, 1), (1, .getfield 47, 3), (4, .ifCond .lt 28, 3), (7, .aload_n 1, 1), (8, .getfield 47, 3), (11, .aload_n 0, 1), (12, .getfield 23, 3), (15, .arraylength, 1), (16, .if_icmp .ge 16, 3), (19, .aload_n 0, 1), (20, .getfield 23, 3), (23, .aload_n 1, 1), (24, .getfield 47, 3), (27, .iload_n 2, 1), (28, .iastore, 1), (29, .goto 8, 3), (32, .aload_n 1, 1), (33, .iload_n 2, 1), (34, .putfield 52, 3), (37, .aload_n 1, 1), (38, .iload_n 3, 1), (39, .putfield 47, 3), (42, .aload_n 1, 1), (43, .dup, 1), (44, .getfield 55, 3), (47, .iload 4, 2), (49, .iadd, 1), (50, .putfield 55, 3), (53, .return_, 1)]
theorem D_Ce_hang : decAll prog_6_method_7_code L_Ce_hang = true := by decide +kernel
theorem K_Ce_hang : MK M_Ce_hang 4 := ⟨tb_in (i := 506) (by decide +kernel) (by decide +kernel), tb_in (i := 7) (by decide +kernel) (by decide +kernel), by decide +kernel, by decide, by decide +kernel, by decide +kernel, by decide +kernel⟩
theorem I_Ce_hang : Cond.instanceMethod M_Ce_hang.1 ∈ tbG := tb_in (i := 505) (by decide +kernel) (by decide +kernel)
theorem V_Ce_hang : MV M_Ce_hang := ⟨I_Ce_hang, ts_in (i := 3) (by decide +kernel) (by decide +kernel)⟩
def y_In_readToken : MethodName := ⟨"RescanMill$Input", "readToken", "()I"⟩
abbrev M_In_readToken : mt_T := (y_In_readToken, prog_10_method_10_code, 2, (some (.int)))
def L_In_readToken : List (Nat × Instr × Nat) := [(0, .aload_n 0, 1), (1, .getfield 24, 3), (4, .iconst 0, 1), (5, .invokevirtual 53, 3), (8, .aload_n 0, 1), (9, .aload_n 0, 1), (10, .invokevirtual 86, 3), (13, .putfield 89, 3), (16, .aload_n 0, 1), (17, .iconst 0, 1), (18, .invokevirtual 92, 3), (21, .istore_n 1, 1), (22, .iload_n 1, 1), (23, .ifCond .ge 10, 3), (26, .aload_n 0, 1), (27, .iconst 0, 1), (28, .putfield 95, 3), (31, .iconst 0, 1), (32, .ireturn, 1), (33, .aload_n 0, 1), (34, .aload_n 0, 1), (35, .getfield 14, 3), (38, .invokevirtual 98, 3), (41, .ifCond .eq 8, 3), (44, .aload_n 0, 1), (45, .invokevirtual 102, 3), (48, .ireturn, 1), (49, .iload_n 1, 1), (50, .bipush 35, 2), (52, .if_icmp .ne 8, 3), (55, .aload_n 0, 1), (56, .invokevirtual 105, 3), (59, .ireturn, 1), (60, .iload_n 1, 1), (61, .invokestatic 108, 3), (64, .ifCond .eq 8, 3), (67, .aload_n 0, 1), (68, .invokevirtual 112, 3), (71, .ireturn, 1), (72, .aload_n 0, 1), (73, .iconst 4, 1), (74, .putfield 95, 3), (77, .aload_n 0, 1), (78, .iconst 1, 1), (79, .iconst 1, 1), (80, .invokevirtual 115, 3), (83, .ireturn, 1)]
theorem D_In_readToken : decAll prog_10_method_10_code L_In_readToken = true := by decide +kernel
theorem K_In_readToken : MK M_In_readToken 0 := ⟨tb_in (i := 513) (by decide +kernel) (by decide +kernel), tb_in (i := 4) (by decide +kernel) (by decide +kernel), by decide +kernel, by decide, by decide +kernel, by decide +kernel, by decide +kernel⟩
theorem I_In_readToken : Cond.instanceMethod M_In_readToken.1 ∈ tbG := tb_in (i := 511) (by decide +kernel) (by decide +kernel)
theorem V_In_readToken : MV M_In_readToken := ⟨I_In_readToken, tb_in (i := 512) (by decide +kernel) (by decide +kernel)⟩
def y_In_line : MethodName := ⟨"RescanMill$Input", "line", "()I"⟩
abbrev M_In_line : mt_T := (y_In_line, prog_10_method_4_code, 1, (some (.int)))
def L_In_line : List (Nat × Instr × Nat) := [(0, .aload_n 0, 1), (1, .getfield 44, 3), (4, .iconst 1, 1), (5, .iadd, 1), (6, .ireturn, 1)]
theorem D_In_line : decAll prog_10_method_4_code L_In_line = true := by decide +kernel
theorem K_In_line : MK M_In_line 0 := ⟨tb_in (i := 517) (by decide +kernel) (by decide +kernel), tb_in (i := 4) (by decide +kernel) (by decide +kernel), by decide +kernel, by decide, by decide +kernel, by decide +kernel, by decide +kernel⟩
theorem I_In_line : Cond.instanceMethod M_In_line.1 ∈ tbG := tb_in (i := 515) (by decide +kernel) (by decide +kernel)
theorem V_In_line : MV M_In_line := ⟨I_In_line, tb_in (i := 516) (by decide +kernel) (by decide +kernel)⟩
def y_In_peek : MethodName := ⟨"RescanMill$Input", "peek", "(I)I"⟩
abbrev M_In_peek : mt_T := (y_In_peek, prog_10_method_6_code, 3, (some (.int)))
def L_In_peek : List (Nat × Instr × Nat) := [(0, .aload_n 0, 1), (1, .getfield 34, 3), (4, .iload_n 1, 1), (5, .iadd, 1), (6, .istore_n 2, 1), (7, .iload_n 2, 1), (8, .ifCond .lt 23, 3), (11, .iload_n 2, 1), (12, .aload_n 0, 1), (13, .getfield 30, 3), (16, .arraylength, 1), (17, .if_icmp .ge 14, 3), (20, .aload_n 0, 1), (21, .getfield 30, 3), (24, .iload_n 2, 1), (25, .baload, 1), (26, .sipush 255, 3), (29, .iand, 1), (30, .ireturn, 1), (31, .aload_n 0, 1), (32, .getfield 27, 3), (35, .aload_n 0, 1), (36, .getfield 47, 3), (39, .iload_n 2, 1), (40, .iadd, 1), (41, .aload_n 0, 1), (42, .getfield 30, 3), (45, .arraylength, 1), (46, .isub, 1), (47, .invokevirtual 62, 3), (50, .ireturn, 1)]
theorem D_In_peek : decAll prog_10_method_6_code L_In_peek = true := by decide +kernel
theorem K_In_peek : MK M_In_peek 1 := ⟨tb_in (i := 521) (by decide +kernel) (by decide +kernel), tb_in (i := 4) (by decide +kernel) (by decide +kernel), by decide +kernel, by decide, by decide +kernel, by decide +kernel, by decide +kernel⟩
theorem I_In_peek : Cond.instanceMethod M_In_peek.1 ∈ tbG := tb_in (i := 519) (by decide +kernel) (by decide +kernel)
theorem V_In_peek : MV M_In_peek := ⟨I_In_peek, tb_in (i := 520) (by decide +kernel) (by decide +kernel)⟩
def y_In_begins : MethodName := ⟨"RescanMill$Input", "begins", "(LRescanMill$Bytes;)Z"⟩
abbrev M_In_begins : mt_T := (y_In_begins, prog_10_method_11_code, 3, (some (.boolean)))
def L_In_begins : List (Nat × Instr × Nat) := [(0, .iconst 0, 1), (1, .istore_n 2, 1), (2, .iload_n 2, 1), (3, .aload_n 1, 1), (4, .getfield 59, 3), (7, .if_icmp .ge 24, 3), (10, .aload_n 0, 1), (11, .iload_n 2, 1), (12, .invokevirtual 92, 3), (15, .aload_n 1, 1), (16, .iload_n 2, 1), (17, .invokevirtual 62, 3), (20, .if_icmp .eq 5, 3), (23, .iconst 0, 1), (24, .ireturn, 1), (25, .iinc 2 1, 3), (28, .goto (-26), 3), (31, .iconst 1, 1), (32, .ireturn, 1)]
theorem D_In_begins : decAll prog_10_method_11_code L_In_begins = true := by decide +kernel
theorem K_In_begins : MK M_In_begins 1 := ⟨tb_in (i := 526) (by decide +kernel) (by decide +kernel), tb_in (i := 4) (by decide +kernel) (by decide +kernel), by decide +kernel, by decide, by decide +kernel, by decide +kernel, by decide +kernel⟩
theorem I_In_begins : Cond.instanceMethod M_In_begins.1 ∈ tbG := tb_in (i := 525) (by decide +kernel) (by decide +kernel)
theorem V_In_begins : MV M_In_begins := ⟨I_In_begins, ts_in (i := 4) (by decide +kernel) (by decide +kernel)⟩
def y_In_readQuoted : MethodName := ⟨"RescanMill$Input", "readQuoted", "()I"⟩
abbrev M_In_readQuoted : mt_T := (y_In_readQuoted, prog_10_method_13_code, 4, (some (.int)))
def L_In_readQuoted : List (Nat × Instr × Nat) := [(0, .aload_n 0, 1), (1, .iconst 1, 1), (2, .putfield 95, 3), (5, .aload_n 0, 1), (6, .aload_n 0, 1), (7, .getfield 14, 3), (10, .getfield 59, 3), (13, .iconst 0, 1), (14, .invokevirtual 115, 3), (17, .istore_n 1, 1), (18, .iconst 1, 1), (19, .istore_n 2, 1), (20, .iconst 0, 1), (21, .istore_n 3, 1), (22, .iload_n 3, 1), (23, .ldc 23, 2), (25, .if_icmp .ge 104, 3), (28, .iload_n 1, 1), (29, .ifCond .ne 100, 3), (32, .aload_n 0, 1), (33, .invokevirtual 66, 3), (36, .ifCond .le 93, 3), (39, .aload_n 0, 1), (40, .aload_n 0, 1), (41, .getfield 20, 3), (44, .invokevirtual 98, 3), (47, .ifCond .eq 39, 3), (50, .iinc 2 (-1), 3), (53, .iload_n 2, 1), (54, .ifCond .ne 16, 3), (57, .aload_n 0, 1), (58, .aload_n 0, 1), (59, .getfield 20, 3), (62, .getfield 59, 3), (65, .iconst 0, 1), (66, .invokevirtual 115, 3), (69, .ireturn, 1), (70, .aload_n 0, 1), (71, .aload_n 0, 1), (72, .getfield 20, 3), (75, .getfield 59, 3), (78, .iconst 1, 1), (79, .invokevirtual 115, 3), (82, .istore_n 1, 1), (83, .goto 40, 3), (86, .aload_n 0, 1), (87, .aload_n 0, 1), (88, .getfield 14, 3), (91, .invokevirtual 98, 3), (94, .ifCond .eq 22, 3), (97, .iinc 2 1, 3), (100, .aload_n 0, 1), (101, .aload_n 0, 1), (102, .getfield 14, 3), (105, .getfield 59, 3), (108, .iconst 1, 1), (109, .invokevirtual 115, 3), (112, .istore_n 1, 1), (113, .goto 10, 3), (116, .aload_n 0, 1), (117, .iconst 1, 1), (118, .iconst 1, 1), (119, .invokevirtual 115, 3), (122, .istore_n 1, 1), (123, .iinc 3 1, 3), (126, .goto (-104), 3), (129, .iload_n 1, 1), (130, .ifCond .eq 7, 3), (133, .iload_n 1, 1), (134, .goto 5, 3), (137, .bipush 32, 2), (139, .ireturn, 1)]
theorem D_In_readQuoted : decAll prog_10_method_13_code L_In_readQuoted = true := by decide +kernel
theorem K_In_readQuoted : MK M_In_readQuoted 0 := ⟨tb_in (i := 530) (by decide +kernel) (by decide +kernel), tb_in (i := 4) (by decide +kernel) (by decide +kernel), by decide +kernel, by decide, by decide +kernel, by decide +kernel, by decide +kernel⟩
theorem I_In_readQuoted : Cond.instanceMethod M_In_readQuoted.1 ∈ tbG := tb_in (i := 529) (by decide +kernel) (by decide +kernel)
theorem V_In_readQuoted : MV M_In_readQuoted := ⟨I_In_readQuoted, ts_in (i := 5) (by decide +kernel) (by decide +kernel)⟩
def y_In_takeSome : MethodName := ⟨"RescanMill$Input", "takeSome", "(IZ)I"⟩
abbrev M_In_takeSome : mt_T := (y_In_takeSome, prog_10_method_12_code, 5, (some (.int)))
def L_In_takeSome : List (Nat × Instr × Nat) := [(0, .iconst 0, 1), (1, .istore_n 3, 1), (2, .iload_n 3, 1), (3, .iload_n 1, 1), (4, .if_icmp .ge 36, 3), (7, .aload_n 0, 1), (8, .invokevirtual 83, 3), (11, .istore 4, 2), (13, .iload 4, 2), (15, .ifCond .ge 6, 3), (18, .bipush 31, 2), (20, .ireturn, 1), (21, .iload_n 2, 1), (22, .ifCond .eq 12, 3), (25, .aload_n 0, 1), (26, .getfield 24, 3), (29, .iload 4, 2), (31, .invokevirtual 56, 3), (34, .iinc 3 1, 3), (37, .goto (-35), 3), (40, .iconst 0, 1), (41, .ireturn, 1)]
theorem D_In_takeSome : decAll prog_10_method_12_code L_In_takeSome = true := by decide +kernel
theorem K_In_takeSome : MK M_In_takeSome 2 := ⟨tb_in (i := 534) (by decide +kernel) (by decide +kernel), tb_in (i := 4) (by decide +kernel) (by decide +kernel), by decide +kernel, by decide, by decide +kernel, by decide +kernel, by decide +kernel⟩
theorem I_In_takeSome : Cond.instanceMethod M_In_takeSome.1 ∈ tbG := tb_in (i := 533) (by decide +kernel) (by decide +kernel)
theorem V_In_takeSome : MV M_In_takeSome := ⟨I_In_takeSome, ts_in (i := 6) (by decide +kernel) (by decide +kernel)⟩
def y_In_take : MethodName := ⟨"RescanMill$Input", "take", "()I"⟩
abbrev M_In_take : mt_T := (y_In_take, prog_10_method_7_code, 2, (some (.int)))
def L_In_take : List (Nat × Instr × Nat) := [(0, .aload_n 0, 1), (1, .getfield 41, 3), (4, .aload_n 0, 1), (5, .getfield 38, 3), (8, .if_icmp .ge 10, 3), (11, .aload_n 0, 1), (12, .invokevirtual 66, 3), (15, .ifCond .gt 5, 3), (18, .iconst (-1), 1), (19, .ireturn, 1), (20, .aload_n 0, 1), (21, .dup, 1), (22, .getfield 41, 3), (25, .iconst 1, 1), (26, .iadd, 1), (27, .putfield 41, 3), (30, .aload_n 0, 1), (31, .getfield 34, 3), (34, .ifCond .lt 41, 3), (37, .aload_n 0, 1), (38, .getfield 34, 3), (41, .aload_n 0, 1), (42, .getfield 30, 3), (45, .arraylength, 1), (46, .if_icmp .ge 29, 3), (49, .aload_n 0, 1), (50, .getfield 30, 3), (53, .aload_n 0, 1), (54, .getfield 34, 3), (57, .baload, 1), (58, .sipush 255, 3), (61, .iand, 1), (62, .istore_n 1, 1), (63, .aload_n 0, 1), (64, .dup, 1), (65, .getfield 34, 3), (68, .iconst 1, 1), (69, .iadd, 1), (70, .putfield 34, 3), (73, .iload_n 1, 1), (74, .ireturn, 1), (75, .aload_n 0, 1), (76, .getfield 27, 3), (79, .aload_n 0, 1), (80, .getfield 47, 3), (83, .invokevirtual 62, 3), (86, .istore_n 1, 1), (87, .aload_n 0, 1), (88, .dup, 1), (89, .getfield 47, 3), (92, .iconst 1, 1), (93, .iadd, 1), (94, .putfield 47, 3), (97, .iload_n 1, 1), (98, .bipush 10, 2), (100, .if_icmp .ne 13, 3), (103, .aload_n 0, 1), (104, .dup, 1), (105, .getfield 44, 3), (108, .iconst 1, 1), (109, .iadd, 1), (110, .putfield 44, 3), (113, .iload_n 1, 1), (114, .ireturn, 1)]
theorem D_In_take : decAll prog_10_method_7_code L_In_take = true := by decide +kernel
theorem K_In_take : MK M_In_take 0 := ⟨tb_in (i := 538) (by decide +kernel) (by decide +kernel), tb_in (i := 4) (by decide +kernel) (by decide +kernel), by decide +kernel, by decide, by decide +kernel, by decide +kernel, by decide +kernel⟩
theorem I_In_take : Cond.instanceMethod M_In_take.1 ∈ tbG := tb_in (i := 536) (by decide +kernel) (by decide +kernel)
theorem V_In_take : MV M_In_take := ⟨I_In_take, tb_in (i := 537) (by decide +kernel) (by decide +kernel)⟩
def y_In_left : MethodName := ⟨"RescanMill$Input", "left", "()I"⟩
abbrev M_In_left : mt_T := (y_In_left, prog_10_method_5_code, 1, (some (.int)))
def L_In_left : List (Nat × Instr × Nat) := [(0, .aload_n 0, 1), (1, .getfield 30, 3), (4, .arraylength, 1), (5, .aload_n 0, 1), (6, .getfield 34, 3), (9, .isub, 1), (10, .aload_n 0, 1), (11, .getfield 27, 3), (14, .getfield 59, 3), (17, .iadd, 1), (18, .aload_n 0, 1), (19, .getfield 47, 3), (22, .isub, 1), (23, .ireturn, 1)]
theorem D_In_left : decAll prog_10_method_5_code L_In_left = true := by decide +kernel
theorem K_In_left : MK M_In_left 0 := ⟨tb_in (i := 542) (by decide +kernel) (by decide +kernel), tb_in (i := 4) (by decide +kernel) (by decide +kernel), by decide +kernel, by decide, by decide +kernel, by decide +kernel, by decide +kernel⟩
theorem I_In_left : Cond.instanceMethod M_In_left.1 ∈ tbG := tb_in (i := 540) (by decide +kernel) (by decide +kernel)
theorem V_In_left : MV M_In_left := ⟨I_In_left, tb_in (i := 541) (by decide +kernel) (by decide +kernel)⟩
def y_In_readRemark : MethodName := ⟨"RescanMill$Input", "readRemark", "()I"⟩
abbrev M_In_readRemark : mt_T := (y_In_readRemark, prog_10_method_14_code, 4, (some (.int)))
def L_In_readRemark : List (Nat × Instr × Nat) := [(0, .aload_n 0, 1), (1, .iconst 2, 1), (2, .putfield 95, 3), (5, .iconst 0, 1), (6, .istore_n 1, 1), (7, .iconst 0, 1), (8, .istore_n 2, 1), (9, .iload_n 2, 1), (10, .ldc 23, 2), (12, .if_icmp .ge 49, 3), (15, .iload_n 1, 1), (16, .ifCond .ne 45, 3), (19, .aload_n 0, 1), (20, .invokevirtual 66, 3), (23, .ifCond .le 38, 3), (26, .aload_n 0, 1), (27, .iconst 0, 1), (28, .invokevirtual 92, 3), (31, .bipush 10, 2), (33, .if_icmp .ne 7, 3), (36, .iconst 1, 1), (37, .goto 4, 3), (40, .iconst 0, 1), (41, .istore_n 3, 1), (42, .aload_n 0, 1), (43, .iconst 1, 1), (44, .iconst 1, 1), (45, .invokevirtual 115, 3), (48, .istore_n 1, 1), (49, .iload_n 3, 1), (50, .ifCond .eq 5, 3), (53, .iload_n 1, 1), (54, .ireturn, 1), (55, .iinc 2 1, 3), (58, .goto (-49), 3), (61, .iload_n 1, 1), (62, .ireturn, 1)]
theorem D_In_readRemark : decAll prog_10_method_14_code L_In_readRemark = true := by decide +kernel
theorem K_In_readRemark : MK M_In_readRemark 0 := ⟨tb_in (i := 546) (by decide +kernel) (by decide +kernel), tb_in (i := 4) (by decide +kernel) (by decide +kernel), by decide +kernel, by decide, by decide +kernel, by decide +kernel, by decide +kernel⟩
theorem I_In_readRemark : Cond.instanceMethod M_In_readRemark.1 ∈ tbG := tb_in (i := 545) (by decide +kernel) (by decide +kernel)
theorem V_In_readRemark : MV M_In_readRemark := ⟨I_In_readRemark, ts_in (i := 7) (by decide +kernel) (by decide +kernel)⟩
def y_In_readName : MethodName := ⟨"RescanMill$Input", "readName", "()I"⟩
abbrev M_In_readName : mt_T := (y_In_readName, prog_10_method_15_code, 3, (some (.int)))
def L_In_readName : List (Nat × Instr × Nat) := [(0, .aload_n 0, 1), (1, .iconst 3, 1), (2, .putfield 95, 3), (5, .iconst 0, 1), (6, .istore_n 1, 1), (7, .iconst 0, 1), (8, .istore_n 2, 1), (9, .iload_n 2, 1), (10, .ldc 23, 2), (12, .if_icmp .ge 31, 3), (15, .iload_n 1, 1), (16, .ifCond .ne 27, 3), (19, .aload_n 0, 1), (20, .iconst 0, 1), (21, .invokevirtual 92, 3), (24, .invokestatic 119, 3), (27, .ifCond .eq 16, 3), (30, .aload_n 0, 1), (31, .iconst 1, 1), (32, .iconst 1, 1), (33, .invokevirtual 115, 3), (36, .istore_n 1, 1), (37, .iinc 2 1, 3), (40, .goto (-31), 3), (43, .iload_n 1, 1), (44, .ireturn, 1)]
theorem D_In_readName : decAll prog_10_method_15_code L_In_readName = true := by decide +kernel
theorem K_In_readName : MK M_In_readName 0 := ⟨tb_in (i := 553) (by decide +kernel) (by decide +kernel), tb_in (i := 4) (by decide +kernel) (by decide +kernel), by decide +kernel, by decide, by decide +kernel, by decide +kernel, by decide +kernel⟩
theorem I_In_readName : Cond.instanceMethod M_In_readName.1 ∈ tbG := tb_in (i := 552) (by decide +kernel) (by decide +kernel)
theorem V_In_readName : MV M_In_readName := ⟨I_In_readName, ts_in (i := 8) (by decide +kernel) (by decide +kernel)⟩
def y_Ce_at : MethodName := ⟨"RescanMill$Cells", "at", "(I)I"⟩
abbrev M_Ce_at : mt_T := (y_Ce_at, prog_6_method_4_code, 2, (some (.int)))
def L_Ce_at : List (Nat × Instr × Nat) := [(0, .iload_n 1, 1), (1, .ifCond .lt 25, 3), (4, .iload_n 1, 1), (5, .aload_n 0, 1), (6, .getfield 19, 3), (9, .arraylength, 1), (10, .if_icmp .ge 16, 3), (13, .aload_n 0, 1), (14, .getfield 19, 3), (17, .iload_n 1, 1), (18, .baload, 1), (19, .sipush 255, 3), (22, .iand, 1), (23, .goto 4, 3), (26, .iconst (-1), 1), (27, .ireturn, 1)]
theorem D_Ce_at : decAll prog_6_method_4_code L_Ce_at = true := by decide +kernel
theorem K_Ce_at : MK M_Ce_at 1 := ⟨tb_in (i := 580) (by decide +kernel) (by decide +kernel), tb_in (i := 7) (by decide +kernel) (by decide +kernel), by decide +kernel, by decide, by decide +kernel, by decide +kernel, by decide +kernel⟩
theorem I_Ce_at : Cond.instanceMethod M_Ce_at.1 ∈ tbG := tb_in (i := 578) (by decide +kernel) (by decide +kernel)
theorem V_Ce_at : MV M_Ce_at := ⟨I_Ce_at, tb_in (i := 579) (by decide +kernel) (by decide +kernel)⟩
def y_Ce_behind : MethodName := ⟨"RescanMill$Cells", "behind", "(I)I"⟩
abbrev M_Ce_behind : mt_T := (y_Ce_behind, prog_6_method_5_code, 2, (some (.int)))
def L_Ce_behind : List (Nat × Instr × Nat) := [(0, .iload_n 1, 1), (1, .ifCond .lt 21, 3), (4, .iload_n 1, 1), (5, .aload_n 0, 1), (6, .getfield 23, 3), (9, .arraylength, 1), (10, .if_icmp .ge 12, 3), (13, .aload_n 0, 1), (14, .getfield 23, 3), (17, .iload_n 1, 1), (18, .iaload, 1), (19, .goto 4, 3), (22, .iconst (-1), 1), (23, .ireturn, 1)]
theorem D_Ce_behind : decAll prog_6_method_5_code L_Ce_behind = true := by decide +kernel
theorem K_Ce_behind : MK M_Ce_behind 1 := ⟨tb_in (i := 584) (by decide +kernel) (by decide +kernel), tb_in (i := 7) (by decide +kernel) (by decide +kernel), by decide +kernel, by decide, by decide +kernel, by decide +kernel, by decide +kernel⟩
theorem I_Ce_behind : Cond.instanceMethod M_Ce_behind.1 ∈ tbG := tb_in (i := 582) (by decide +kernel) (by decide +kernel)
theorem V_Ce_behind : MV M_Ce_behind := ⟨I_Ce_behind, tb_in (i := 583) (by decide +kernel) (by decide +kernel)⟩
def y_Ca_noteToken : MethodName := ⟨"RescanMill$Calls", "noteToken", "()V"⟩
abbrev M_Ca_noteToken : mt_T := (y_Ca_noteToken, prog_5_method_8_code, 1, none)
def L_Ca_noteToken : List (Nat × Instr × Nat) := [(0, .aload_n 0, 1), (1, .invokevirtual 62, 3), (4, .ifCond .eq 15, 3), (7, .aload_n 0, 1), (8, .getfield 33, 3), (11, .aload_n 0, 1), (12, .getfield 40, 3), (15, .iconst 1, 1), (16, .isub, 1), (17, .iconst 1, 1), (18, .bastore, 1), (19, .return_, 1)]
theorem D_Ca_noteToken : decAll prog_5_method_8_code L_Ca_noteToken = true := by decide +kernel
theorem K_Ca_noteToken : MK M_Ca_noteToken 0 := ⟨tb_in (i := 593) (by decide +kernel) (by decide +kernel), tb_in (i := 5) (by decide +kernel) (by decide +kernel), by decide +kernel, by decide, by decide +kernel, by decide +kernel, by decide +kernel⟩
theorem I_Ca_noteToken : Cond.instanceMethod M_Ca_noteToken.1 ∈ tbG := tb_in (i := 591) (by decide +kernel) (by decide +kernel)
theorem V_Ca_noteToken : MV M_Ca_noteToken := ⟨I_Ca_noteToken, tb_in (i := 592) (by decide +kernel) (by decide +kernel)⟩
def y_Ca_hasTop : MethodName := ⟨"RescanMill$Calls", "hasTop", "()Z"⟩
abbrev M_Ca_hasTop : mt_T := (y_Ca_hasTop, prog_5_method_3_code, 1, (some (.boolean)))
def L_Ca_hasTop : List (Nat × Instr × Nat) := [(0, .aload_n 0, 1), (1, .getfield 40, 3), (4, .ifCond .le 16, 3), (7, .aload_n 0, 1), (8, .getfield 40, 3), (11, .bipush 50, 2), (13, .if_icmp .gt 7, 3), (16, .iconst 1, 1), (17, .goto 4, 3), (20, .iconst 0, 1), (21, .ireturn, 1)]
theorem D_Ca_hasTop : decAll prog_5_method_3_code L_Ca_hasTop = true := by decide +kernel
theorem K_Ca_hasTop : MK M_Ca_hasTop 0 := ⟨tb_in (i := 597) (by decide +kernel) (by decide +kernel), tb_in (i := 5) (by decide +kernel) (by decide +kernel), by decide +kernel, by decide, by decide +kernel, by decide +kernel, by decide +kernel⟩
theorem I_Ca_hasTop : Cond.instanceMethod M_Ca_hasTop.1 ∈ tbG := tb_in (i := 596) (by decide +kernel) (by decide +kernel)
theorem V_Ca_hasTop : MV M_Ca_hasTop := ⟨I_Ca_hasTop, ts_in (i := 13) (by decide +kernel) (by decide +kernel)⟩
def y_Ca_begin : MethodName := ⟨"RescanMill$Calls", "begin", "(LRescanMill$Bytes;)Z"⟩
abbrev M_Ca_begin : mt_T := (y_Ca_begin, prog_5_method_4_code, 2, (some (.boolean)))
def L_Ca_begin : List (Nat × Instr × Nat) := [(0, .aload_n 0, 1), (1, .getfield 40, 3), (4, .ifCond .lt 26, 3), (7, .aload_n 0, 1), (8, .getfield 40, 3), (11, .bipush 50, 2), (13, .if_icmp .ge 17, 3), (16, .aload_n 0, 1), (17, .getfield 14, 3), (20, .aload_n 1, 1), (21, .getfield 51, 3), (24, .invokevirtual 54, 3), (27, .ifCond .ne 5, 3), (30, .iconst 0, 1), (31, .ireturn, 1), (32, .aload_n 0, 1), (33, .getfield 24, 3), (36, .aload_n 0, 1), (37, .getfield 40, 3), (40, .aload_n 0, 1), (41, .getfield 14, 3), (44, .getfield 51, 3), (47, .iastore, 1), (48, .aload_n 0, 1), (49, .getfield 27, 3), (52, .aload_n 0, 1), (53, .getfield 40, 3), (56, .aload_n 0, 1), (57, .getfield 48, 3), (60, .iastore, 1), (61, .aload_n 0, 1), (62, .getfield 30, 3), (65, .aload_n 0, 1), (66, .getfield 40, 3), (69, .iconst 1, 1), (70, .iastore, 1), (71, .aload_n 0, 1), (72, .dup, 1), (73, .getfield 40, 3), (76, .iconst 1, 1), (77, .iadd, 1), (78, .putfield 40, 3), (81, .aload_n 0, 1), (82, .getfield 14, 3), (85, .aload_n 1, 1), (86, .iconst 0, 1), (87, .aload_n 1, 1), (88, .getfield 51, 3), (91, .invokevirtual 58, 3), (94, .iconst 1, 1), (95, .ireturn, 1)]
theorem D_Ca_begin : decAll prog_5_method_4_code L_Ca_begin = true := by decide +kernel
theorem K_Ca_begin : MK M_Ca_begin 1 := ⟨tb_in (i := 601) (by decide +kernel) (by decide +kernel), tb_in (i := 5) (by decide +kernel) (by decide +kernel), by decide +kernel, by decide, by decide +kernel, by decide +kernel, by decide +kernel⟩
theorem I_Ca_begin : Cond.instanceMethod M_Ca_begin.1 ∈ tbG := tb_in (i := 599) (by decide +kernel) (by decide +kernel)
theorem V_Ca_begin : MV M_Ca_begin := ⟨I_Ca_begin, tb_in (i := 600) (by decide +kernel) (by decide +kernel)⟩
def y_Ca_beginArgument : MethodName := ⟨"RescanMill$Calls", "beginArgument", "()Z"⟩
abbrev M_Ca_beginArgument : mt_T := (y_Ca_beginArgument, prog_5_method_5_code, 1, (some (.boolean)))
def L_Ca_beginArgument : List (Nat × Instr × Nat) := [(0, .aload_n 0, 1), (1, .invokevirtual 62, 3), (4, .ifCond .eq 22, 3), (7, .aload_n 0, 1), (8, .getfield 48, 3), (11, .ifCond .lt 15, 3), (14, .aload_n 0, 1), (15, .getfield 48, 3), (18, .aload_n 0, 1), (19, .getfield 20, 3), (22, .arraylength, 1), (23, .if_icmp .lt 5, 3), (26, .iconst 0, 1), (27, .ireturn, 1), (28, .aload_n 0, 1), (29, .getfield 20, 3), (32, .aload_n 0, 1), (33, .getfield 48, 3), (36, .aload_n 0, 1), (37, .getfield 14, 3), (40, .getfield 51, 3), (43, .iastore, 1), (44, .aload_n 0, 1), (45, .dup, 1), (46, .getfield 48, 3), (49, .iconst 1, 1), (50, .iadd, 1), (51, .putfield 48, 3), (54, .aload_n 0, 1), (55, .getfield 33, 3), (58, .aload_n 0, 1), (59, .getfield 40, 3), (62, .iconst 1, 1), (63, .isub, 1), (64, .iconst 0, 1), (65, .bastore, 1), (66, .iconst 1, 1), (67, .ireturn, 1)]
theorem D_Ca_beginArgument : decAll prog_5_method_5_code L_Ca_beginArgument = true := by decide +kernel
theorem K_Ca_beginArgument : MK M_Ca_beginArgument 0 := ⟨tb_in (i := 608) (by decide +kernel) (by decide +kernel), tb_in (i := 5) (by decide +kernel) (by decide +kernel), by decide +kernel, by decide, by decide +kernel, by decide +kernel, by decide +kernel⟩
theorem I_Ca_beginArgument : Cond.instanceMethod M_Ca_beginArgument.1 ∈ tbG := tb_in (i := 606) (by decide +kernel) (by decide +kernel)
theorem V_Ca_beginArgument : MV M_Ca_beginArgument := ⟨I_Ca_beginArgument, tb_in (i := 607) (by decide +kernel) (by decide +kernel)⟩
def y_Ca_hasToken : MethodName := ⟨"RescanMill$Calls", "hasToken", "()Z"⟩
abbrev M_Ca_hasToken : mt_T := (y_Ca_hasToken, prog_5_method_9_code, 1, (some (.boolean)))
def L_Ca_hasToken : List (Nat × Instr × Nat) := [(0, .aload_n 0, 1), (1, .invokevirtual 62, 3), (4, .ifCond .eq 21, 3), (7, .aload_n 0, 1), (8, .getfield 33, 3), (11, .aload_n 0, 1), (12, .getfield 40, 3), (15, .iconst 1, 1), (16, .isub, 1), (17, .baload, 1), (18, .ifCond .eq 7, 3), (21, .iconst 1, 1), (22, .goto 4, 3), (25, .iconst 0, 1), (26, .ireturn, 1)]
theorem D_Ca_hasToken : decAll prog_5_method_9_code L_Ca_hasToken = true := by decide +kernel
theorem K_Ca_hasToken : MK M_Ca_hasToken 0 := ⟨tb_in (i := 620) (by decide +kernel) (by decide +kernel), tb_in (i := 5) (by decide +kernel) (by decide +kernel), by decide +kernel, by decide, by decide +kernel, by decide +kernel, by decide +kernel⟩
theorem I_Ca_hasToken : Cond.instanceMethod M_Ca_hasToken.1 ∈ tbG := tb_in (i := 618) (by decide +kernel) (by decide +kernel)
theorem V_Ca_hasToken : MV M_Ca_hasToken := ⟨I_Ca_hasToken, tb_in (i := 619) (by decide +kernel) (by decide +kernel)⟩
def y_Ca_isOutermost : MethodName := ⟨"RescanMill$Calls", "isOutermost", "()Z"⟩
abbrev M_Ca_isOutermost : mt_T := (y_Ca_isOutermost, prog_5_method_11_code, 1, (some (.boolean)))
def L_Ca_isOutermost : List (Nat × Instr × Nat) := [(0, .aload_n 0, 1), (1, .invokevirtual 62, 3), (4, .ifCond .eq 22, 3), (7, .aload_n 0, 1), (8, .getfield 30, 3), (11, .aload_n 0, 1), (12, .getfield 40, 3), (15, .iconst 1, 1), (16, .isub, 1), (17, .iaload, 1), (18, .iconst 1, 1), (19, .if_icmp .ne 7, 3), (22, .iconst 1, 1), (23, .goto 4, 3), (26, .iconst 0, 1), (27, .ireturn, 1)]
theorem D_Ca_isOutermost : decAll prog_5_method_11_code L_Ca_isOutermost = true := by decide +kernel
theorem K_Ca_isOutermost : MK M_Ca_isOutermost 0 := ⟨tb_in (i := 624) (by decide +kernel) (by decide +kernel), tb_in (i := 5) (by decide +kernel) (by decide +kernel), by decide +kernel, by decide, by decide +kernel, by decide +kernel, by decide +kernel⟩
theorem I_Ca_isOutermost : Cond.instanceMethod M_Ca_isOutermost.1 ∈ tbG := tb_in (i := 622) (by decide +kernel) (by decide +kernel)
theorem V_Ca_isOutermost : MV M_Ca_isOutermost := ⟨I_Ca_isOutermost, tb_in (i := 623) (by decide +kernel) (by decide +kernel)⟩
def y_Ca_nest : MethodName := ⟨"RescanMill$Calls", "nest", "(I)V"⟩
abbrev M_Ca_nest : mt_T := (y_Ca_nest, prog_5_method_10_code, 2, none)
def L_Ca_nest : List (Nat × Instr × Nat) := [(0, .aload_n 0, 1), (1, .invokevirtual 62, 3), (4, .ifCond .eq 41, 3), (7, .aload_n 0, 1), (8, .getfield 30, 3), (11, .aload_n 0, 1), (12, .getfield 40, 3), (15, .iconst 1, 1), (16, .isub, 1), (17, .dup2, 1), (18, .iaload, 1), (19, .iload_n 1, 1), (20, .iadd, 1), (21, .iastore, 1), (22, .aload_n 0, 1), (23, .aload_n 0, 1), (24, .getfield 30, 3), (27, .aload_n 0, 1), (28, .getfield 40, 3), (31, .iconst 1, 1), (32, .isub, 1), (33, .iaload, 1), (34, .ifCond .ne 7, 3), (37, .iconst 1, 1), (38, .goto 4, 3), (41, .iconst 0, 1), (42, .putfield 44, 3), (45, .return_, 1)]
theorem D_Ca_nest : decAll prog_5_method_10_code L_Ca_nest = true := by decide +kernel
theorem K_Ca_nest : MK M_Ca_nest 1 := ⟨tb_in (i := 628) (by decide +kernel) (by decide +kernel), tb_in (i := 5) (by decide +kernel) (by decide +kernel), by decide +kernel, by decide, by decide +kernel, by decide +kernel, by decide +kernel⟩
theorem I_Ca_nest : Cond.instanceMethod M_Ca_nest.1 ∈ tbG := tb_in (i := 626) (by decide +kernel) (by decide +kernel)
theorem V_Ca_nest : MV M_Ca_nest := ⟨I_Ca_nest, tb_in (i := 627) (by decide +kernel) (by decide +kernel)⟩
def y_Ca_hold : MethodName := ⟨"RescanMill$Calls", "hold", "(LRescanMill$Bytes;)Z"⟩
abbrev M_Ca_hold : mt_T := (y_Ca_hold, prog_5_method_7_code, 2, (some (.boolean)))
def L_Ca_hold : List (Nat × Instr × Nat) := [(0, .aload_n 0, 1), (1, .getfield 14, 3), (4, .aload_n 1, 1), (5, .getfield 51, 3), (8, .invokevirtual 54, 3), (11, .ifCond .ne 5, 3), (14, .iconst 0, 1), (15, .ireturn, 1), (16, .aload_n 0, 1), (17, .getfield 14, 3), (20, .aload_n 1, 1), (21, .iconst 0, 1), (22, .aload_n 1, 1), (23, .getfield 51, 3), (26, .invokevirtual 58, 3), (29, .iconst 1, 1), (30, .ireturn, 1)]
theorem D_Ca_hold : decAll prog_5_method_7_code L_Ca_hold = true := by decide +kernel
theorem K_Ca_hold : MK M_Ca_hold 1 := ⟨tb_in (i := 632) (by decide +kernel) (by decide +kernel), tb_in (i := 5) (by decide +kernel) (by decide +kernel), by decide +kernel, by decide, by decide +kernel, by decide +kernel, by decide +kernel⟩
theorem I_Ca_hold : Cond.instanceMethod M_Ca_hold.1 ∈ tbG := tb_in (i := 630) (by decide +kernel) (by decide +kernel)
theorem V_Ca_hold : MV M_Ca_hold := ⟨I_Ca_hold, tb_in (i := 631) (by decide +kernel) (by decide +kernel)⟩
def y_Ca_nameStart : MethodName := ⟨"RescanMill$Calls", "nameStart", "()I"⟩
abbrev M_Ca_nameStart : mt_T := (y_Ca_nameStart, prog_5_method_15_code, 1, (some (.int)))
def L_Ca_nameStart : List (Nat × Instr × Nat) := [(0, .aload_n 0, 1), (1, .invokevirtual 62, 3), (4, .ifCond .eq 17, 3), (7, .aload_n 0, 1), (8, .getfield 24, 3), (11, .aload_n 0, 1), (12, .getfield 40, 3), (15, .iconst 1, 1), (16, .isub, 1), (17, .iaload, 1), (18, .goto 4, 3), (21, .iconst 0, 1), (22, .ireturn, 1)]
theorem D_Ca_nameStart : decAll prog_5_method_15_code L_Ca_nameStart = true := by decide +kernel
theorem K_Ca_nameStart : MK M_Ca_nameStart 0 := ⟨tb_in (i := 645) (by decide +kernel) (by decide +kernel), tb_in (i := 5) (by decide +kernel) (by decide +kernel), by decide +kernel, by decide, by decide +kernel, by decide +kernel, by decide +kernel⟩
theorem I_Ca_nameStart : Cond.instanceMethod M_Ca_nameStart.1 ∈ tbG := tb_in (i := 643) (by decide +kernel) (by decide +kernel)
theorem V_Ca_nameStart : MV M_Ca_nameStart := ⟨I_Ca_nameStart, tb_in (i := 644) (by decide +kernel) (by decide +kernel)⟩
def y_Ca_nameLength : MethodName := ⟨"RescanMill$Calls", "nameLength", "()I"⟩
abbrev M_Ca_nameLength : mt_T := (y_Ca_nameLength, prog_5_method_16_code, 1, (some (.int)))
def L_Ca_nameLength : List (Nat × Instr × Nat) := [(0, .aload_n 0, 1), (1, .iconst 0, 1), (2, .invokevirtual 66, 3), (5, .aload_n 0, 1), (6, .invokevirtual 70, 3), (9, .isub, 1), (10, .ireturn, 1)]
theorem D_Ca_nameLength : decAll prog_5_method_16_code L_Ca_nameLength = true := by decide +kernel
theorem K_Ca_nameLength : MK M_Ca_nameLength 0 := ⟨tb_in (i := 649) (by decide +kernel) (by decide +kernel), tb_in (i := 5) (by decide +kernel) (by decide +kernel), by decide +kernel, by decide, by decide +kernel, by decide +kernel, by decide +kernel⟩
theorem I_Ca_nameLength : Cond.instanceMethod M_Ca_nameLength.1 ∈ tbG := tb_in (i := 647) (by decide +kernel) (by decide +kernel)
theorem V_Ca_nameLength : MV M_Ca_nameLength := ⟨I_Ca_nameLength, tb_in (i := 648) (by decide +kernel) (by decide +kernel)⟩
def y_Ca_start : MethodName := ⟨"RescanMill$Calls", "start", "(I)I"⟩
abbrev M_Ca_start : mt_T := (y_Ca_start, prog_5_method_13_code, 3, (some (.int)))
def L_Ca_start : List (Nat × Instr × Nat) := [(0, .iload_n 1, 1), (1, .ifCond .lt 20, 3), (4, .aload_n 0, 1), (5, .getfield 40, 3), (8, .iconst 1, 1), (9, .if_icmp .lt 12, 3), (12, .aload_n 0, 1), (13, .getfield 40, 3), (16, .bipush 50, 2), (18, .if_icmp .le 11, 3), (21, .aload_n 0, 1), (22, .getfield 14, 3), (25, .getfield 51, 3), (28, .ireturn, 1), (29, .aload_n 0, 1), (30, .getfield 27, 3), (33, .aload_n 0, 1), (34, .getfield 40, 3), (37, .iconst 1, 1), (38, .isub, 1), (39, .iaload, 1), (40, .iload_n 1, 1), (41, .iadd, 1), (42, .istore_n 2, 1), (43, .iload_n 2, 1), (44, .ifCond .lt 29, 3), (47, .iload_n 2, 1), (48, .aload_n 0, 1), (49, .getfield 48, 3), (52, .if_icmp .ge 21, 3), (55, .iload_n 2, 1), (56, .aload_n 0, 1), (57, .getfield 20, 3), (60, .arraylength, 1), (61, .if_icmp .ge 12, 3), (64, .aload_n 0, 1), (65, .getfield 20, 3), (68, .iload_n 2, 1), (69, .iaload, 1), (70, .goto 10, 3), (73, .aload_n 0, 1), (74, .getfield 14, 3), (77, .getfield 51, 3), (80, .ireturn, 1)]
theorem D_Ca_start : decAll prog_5_method_13_code L_Ca_start = true := by decide +kernel
theorem K_Ca_start : MK M_Ca_start 1 := ⟨tb_in (i := 653) (by decide +kernel) (by decide +kernel), tb_in (i := 5) (by decide +kernel) (by decide +kernel), by decide +kernel, by decide, by decide +kernel, by decide +kernel, by decide +kernel⟩
theorem I_Ca_start : Cond.instanceMethod M_Ca_start.1 ∈ tbG := tb_in (i := 651) (by decide +kernel) (by decide +kernel)
theorem V_Ca_start : MV M_Ca_start := ⟨I_Ca_start, tb_in (i := 652) (by decide +kernel) (by decide +kernel)⟩
def y_Ca_length : MethodName := ⟨"RescanMill$Calls", "length", "(I)I"⟩
abbrev M_Ca_length : mt_T := (y_Ca_length, prog_5_method_14_code, 2, (some (.int)))
def L_Ca_length : List (Nat × Instr × Nat) := [(0, .aload_n 0, 1), (1, .iload_n 1, 1), (2, .iconst 1, 1), (3, .iadd, 1), (4, .invokevirtual 66, 3), (7, .aload_n 0, 1), (8, .iload_n 1, 1), (9, .invokevirtual 66, 3), (12, .isub, 1), (13, .ireturn, 1)]
theorem D_Ca_length : decAll prog_5_method_14_code L_Ca_length = true := by decide +kernel
theorem K_Ca_length : MK M_Ca_length 1 := ⟨tb_in (i := 673) (by decide +kernel) (by decide +kernel), tb_in (i := 5) (by decide +kernel) (by decide +kernel), by decide +kernel, by decide, by decide +kernel, by decide +kernel, by decide +kernel⟩
theorem I_Ca_length : Cond.instanceMethod M_Ca_length.1 ∈ tbG := tb_in (i := 671) (by decide +kernel) (by decide +kernel)
theorem V_Ca_length : MV M_Ca_length := ⟨I_Ca_length, tb_in (i := 672) (by decide +kernel) (by decide +kernel)⟩
def y_Ca_arguments : MethodName := ⟨"RescanMill$Calls", "arguments", "()I"⟩
abbrev M_Ca_arguments : mt_T := (y_Ca_arguments, prog_5_method_12_code, 1, (some (.int)))
def L_Ca_arguments : List (Nat × Instr × Nat) := [(0, .aload_n 0, 1), (1, .invokevirtual 62, 3), (4, .ifCond .eq 22, 3), (7, .aload_n 0, 1), (8, .getfield 48, 3), (11, .aload_n 0, 1), (12, .getfield 27, 3), (15, .aload_n 0, 1), (16, .getfield 40, 3), (19, .iconst 1, 1), (20, .isub, 1), (21, .iaload, 1), (22, .isub, 1), (23, .goto 4, 3), (26, .iconst 0, 1), (27, .ireturn, 1)]
theorem D_Ca_arguments : decAll prog_5_method_12_code L_Ca_arguments = true := by decide +kernel
theorem K_Ca_arguments : MK M_Ca_arguments 0 := ⟨tb_in (i := 677) (by decide +kernel) (by decide +kernel), tb_in (i := 5) (by decide +kernel) (by decide +kernel), by decide +kernel, by decide, by decide +kernel, by decide +kernel, by decide +kernel⟩
theorem I_Ca_arguments : Cond.instanceMethod M_Ca_arguments.1 ∈ tbG := tb_in (i := 675) (by decide +kernel) (by decide +kernel)
theorem V_Ca_arguments : MV M_Ca_arguments := ⟨I_Ca_arguments, tb_in (i := 676) (by decide +kernel) (by decide +kernel)⟩
def y_By_addNumber : MethodName := ⟨"RescanMill$Bytes", "addNumber", "(I)V"⟩
abbrev M_By_addNumber : mt_T := (y_By_addNumber, prog_4_method_8_code, 7, none)
def L_By_addNumber : List (Nat × Instr × Nat) := [(0, .iload_n 1, 1), (1, .i2l, 1), (2, .lstore_n 2, 1), (3, .lload_n 2, 1), (4, .lconst 0, 1), (5, .lcmp, 1), (6, .ifCond .ge 12, 3), (9, .aload_n 0, 1), (10, .bipush 45, 2), (12, .invokevirtual 49, 3), (15, .lload_n 2, 1), (16, .lneg, 1), (17, .lstore_n 2, 1), (18, .lconst 1, 1), (19, .lstore 4, 2), (21, .iconst 0, 1), (22, .istore 6, 2), (24, .iload 6, 2), (26, .bipush 9, 2), (28, .if_icmp .ge 28, 3), (31, .lload 4, 2), (33, .ldc2_w 53, 3), (36, .lmul, 1), (37, .lload_n 2, 1), (38, .lcmp, 1), (39, .ifCond .gt 17, 3), (42, .lload 4, 2), (44, .ldc2_w 53, 3), (47, .lmul, 1), (48, .lstore 4, 2), (50, .iinc 6 1, 3), (53, .goto (-29), 3), (56, .lload 4, 2), (58, .lconst 0, 1), (59, .lcmp, 1), (60, .ifCond .le 30, 3), (63, .aload_n 0, 1), (64, .bipush 48, 2), (66, .lload_n 2, 1), (67, .lload 4, 2), (69, .ldiv, 1), (70, .ldc2_w 53, 3), (73, .lrem, 1), (74, .l2i, 1), (75, .iadd, 1), (76, .invokevirtual 49, 3), (79, .lload 4, 2), (81, .ldc2_w 53, 3), (84, .ldiv, 1), (85, .lstore 4, 2), (87, .goto (-31), 3), (90, .return_, 1)]
theorem D_By_addNumber : decAll prog_4_method_8_code L_By_addNumber = true := by decide +kernel
theorem K_By_addNumber : MK M_By_addNumber 1 := ⟨tb_in (i := 681) (by decide +kernel) (by decide +kernel), tb_in (i := 2) (by decide +kernel) (by decide +kernel), by decide +kernel, by decide, by decide +kernel, by decide +kernel, by decide +kernel⟩
theorem I_By_addNumber : Cond.instanceMethod M_By_addNumber.1 ∈ tbG := tb_in (i := 679) (by decide +kernel) (by decide +kernel)
theorem V_By_addNumber : MV M_By_addNumber := ⟨I_By_addNumber, tb_in (i := 680) (by decide +kernel) (by decide +kernel)⟩
def y_En_ordinal : MethodName := ⟨"java/lang/Enum", "ordinal", "()I"⟩
abbrev M_En_ordinal : mt_T := (y_En_ordinal, prog_16_method_2_code, 1, (some (.int)))
def L_En_ordinal : List (Nat × Instr × Nat) := [(0, .aload_n 0, 1), (1, .getfield 7, 3), (4, .ireturn, 1)]
theorem D_En_ordinal : decAll prog_16_method_2_code L_En_ordinal = true := by decide +kernel
theorem K_En_ordinal : MK M_En_ordinal 0 := ⟨tb_in (i := 698) (by decide +kernel) (by decide +kernel), tb_in (i := 19) (by decide +kernel) (by decide +kernel), by decide +kernel, by decide, by decide +kernel, by decide +kernel, by decide +kernel⟩
theorem I_En_ordinal : Cond.instanceMethod M_En_ordinal.1 ∈ tbG := tb_in (i := 697) (by decide +kernel) (by decide +kernel)
def y_Ce_release : MethodName := ⟨"RescanMill$Cells", "release", "(LRescanMill$Chain;)V"⟩
abbrev M_Ce_release : mt_T := (y_Ce_release, prog_6_method_9_code, 2, none)
def L_Ce_release : List (Nat × Instr × Nat) := [(0, .aload_n 0, 1), (1, .aload_n 1, 1), (2, .getfield 47, 3), (5, .invokevirtual 33, 3), (8, .ifCond .eq 37, 3), (11, .aload_n 0, 1), (12, .getfield 23, 3), (15, .aload_n 1, 1), (16, .getfield 47, 3), (19, .aload_n 0, 1), (20, .getfield 7, 3), (23, .iastore, 1), (24, .aload_n 0, 1), (25, .aload_n 1, 1), (26, .getfield 52, 3), (29, .putfield 7, 3), (32, .aload_n 0, 1), (33, .dup, 1), (34, .getfield 30, 3), (37, .aload_n 1, 1), (38, .getfield 55, 3), (41, .isub, 1), (42, .putfield 30, 3), (45, .aload_n 1, 1), (46, .invokevirtual 58, 3), (49, .return_, 1)]
theorem D_Ce_release : decAll prog_6_method_9_code L_Ce_release = true := by decide +kernel
theorem K_Ce_release : MK M_Ce_release 1 := ⟨tb_in (i := 718) (by decide +kernel) (by decide +kernel), tb_in (i := 7) (by decide +kernel) (by decide +kernel), by decide +kernel, by decide, by decide +kernel, by decide +kernel, by decide +kernel⟩
theorem I_Ce_release : Cond.instanceMethod M_Ce_release.1 ∈ tbG := tb_in (i := 716) (by decide +kernel) (by decide +kernel)
theorem V_Ce_release : MV M_Ce_release := ⟨I_Ce_release, tb_in (i := 717) (by decide +kernel) (by decide +kernel)⟩
def y_Op_isBetween : MethodName := ⟨"RescanMill$Operator", "isBetween", "()Z"⟩
abbrev M_Op_isBetween : mt_T := (y_Op_isBetween, prog_13_method_4_code, 1, (some (.boolean)))
def L_Op_isBetween : List (Nat × Instr × Nat) := [(0, .aload_n 0, 1), (1, .getfield 96, 3), (4, .iconst 1, 1), (5, .if_icmp .lt 16, 3), (8, .aload_n 0, 1), (9, .getfield 96, 3), (12, .bipush 11, 2), (14, .if_icmp .ge 7, 3), (17, .iconst 1, 1), (18, .goto 4, 3), (21, .iconst 0, 1), (22, .ireturn, 1)]
theorem D_Op_isBetween : decAll prog_13_method_4_code L_Op_isBetween = true := by decide +kernel
theorem K_Op_isBetween : MK M_Op_isBetween 0 := ⟨tb_in (i := 766) (by decide +kernel) (by decide +kernel), tb_in (i := 20) (by decide +kernel) (by decide +kernel), by decide +kernel, by decide, by decide +kernel, by decide +kernel, by decide +kernel⟩
theorem I_Op_isBetween : Cond.instanceMethod M_Op_isBetween.1 ∈ tbG := tb_in (i := 764) (by decide +kernel) (by decide +kernel)
theorem V_Op_isBetween : MV M_Op_isBetween := ⟨I_Op_isBetween, tb_in (i := 765) (by decide +kernel) (by decide +kernel)⟩
def y_In_dropLine : MethodName := ⟨"RescanMill$Input", "dropLine", "()I"⟩
abbrev M_In_dropLine : mt_T := (y_In_dropLine, prog_10_method_9_code, 3, (some (.int)))
def L_In_dropLine : List (Nat × Instr × Nat) := [(0, .iconst 0, 1), (1, .istore_n 1, 1), (2, .iload_n 1, 1), (3, .ldc 23, 2), (5, .if_icmp .ge 36, 3), (8, .aload_n 0, 1), (9, .invokevirtual 66, 3), (12, .ifCond .le 29, 3), (15, .aload_n 0, 1), (16, .invokevirtual 83, 3), (19, .istore_n 2, 1), (20, .iload_n 2, 1), (21, .ifCond .ge 6, 3), (24, .bipush 31, 2), (26, .ireturn, 1), (27, .iload_n 2, 1), (28, .bipush 10, 2), (30, .if_icmp .ne 5, 3), (33, .iconst 0, 1), (34, .ireturn, 1), (35, .iinc 1 1, 3), (38, .goto (-36), 3), (41, .iconst 0, 1), (42, .ireturn, 1)]
theorem D_In_dropLine : decAll prog_10_method_9_code L_In_dropLine = true := by decide +kernel
theorem K_In_dropLine : MK M_In_dropLine 0 := ⟨tb_in (i := 853) (by decide +kernel) (by decide +kernel), tb_in (i := 4) (by decide +kernel) (by decide +kernel), by decide +kernel, by decide, by decide +kernel, by decide +kernel, by decide +kernel⟩
theorem I_In_dropLine : Cond.instanceMethod M_In_dropLine.1 ∈ tbG := tb_in (i := 851) (by decide +kernel) (by decide +kernel)
theorem V_In_dropLine : MV M_In_dropLine := ⟨I_In_dropLine, tb_in (i := 852) (by decide +kernel) (by decide +kernel)⟩
def y_Ce_join : MethodName := ⟨"RescanMill$Cells", "join", "(LRescanMill$Chain;LRescanMill$Chain;)V"⟩
abbrev M_Ce_join : mt_T := (y_Ce_join, prog_6_method_8_code, 3, none)
def L_Ce_join : List (Nat × Instr × Nat) := [(0, .aload_n 2, 1), (1, .getfield 55, 3), (4, .ifCond .le 24, 3), (7, .aload_n 0, 1), (8, .aload_n 1, 1), (9, .aload_n 2, 1), (10, .getfield 52, 3), (13, .aload_n 2, 1), (14, .getfield 47, 3), (17, .aload_n 2, 1), (18, .getfield 55, 3), (21, .invokevirtual 43, 3), (24, .aload_n 2, 1), (25, .invokevirtual 58, 3), (28, .return_, 1)]
theorem D_Ce_join : decAll prog_6_method_8_code L_Ce_join = true := by decide +kernel
theorem K_Ce_join : MK M_Ce_join 2 := ⟨tb_in (i := 870) (by decide +kernel) (by decide +kernel), tb_in (i := 7) (by decide +kernel) (by decide +kernel), by decide +kernel, by decide, by decide +kernel, by decide +kernel, by decide +kernel⟩
theorem I_Ce_join : Cond.instanceMethod M_Ce_join.1 ∈ tbG := tb_in (i := 868) (by decide +kernel) (by decide +kernel)
theorem V_Ce_join : MV M_Ce_join := ⟨I_Ce_join, tb_in (i := 869) (by decide +kernel) (by decide +kernel)⟩
def y_Ca_end : MethodName := ⟨"RescanMill$Calls", "end", "()V"⟩
abbrev M_Ca_end : mt_T := (y_Ca_end, prog_5_method_6_code, 1, none)
def L_Ca_end : List (Nat × Instr × Nat) := [(0, .aload_n 0, 1), (1, .invokevirtual 62, 3), (4, .ifCond .eq 42, 3), (7, .aload_n 0, 1), (8, .dup, 1), (9, .getfield 40, 3), (12, .iconst 1, 1), (13, .isub, 1), (14, .putfield 40, 3), (17, .aload_n 0, 1), (18, .getfield 14, 3), (21, .aload_n 0, 1), (22, .getfield 24, 3), (25, .aload_n 0, 1), (26, .getfield 40, 3), (29, .iaload, 1), (30, .invokevirtual 37, 3), (33, .aload_n 0, 1), (34, .aload_n 0, 1), (35, .getfield 27, 3), (38, .aload_n 0, 1), (39, .getfield 40, 3), (42, .iaload, 1), (43, .putfield 48, 3), (46, .aload_n 0, 1), (47, .iconst 0, 1), (48, .putfield 44, 3), (51, .return_, 1)]
theorem D_Ca_end : decAll prog_5_method_6_code L_Ca_end = true := by decide +kernel
theorem K_Ca_end : MK M_Ca_end 0 := ⟨tb_in (i := 883) (by decide +kernel) (by decide +kernel), tb_in (i := 5) (by decide +kernel) (by decide +kernel), by decide +kernel, by decide, by decide +kernel, by decide +kernel, by decide +kernel⟩
theorem I_Ca_end : Cond.instanceMethod M_Ca_end.1 ∈ tbG := tb_in (i := 881) (by decide +kernel) (by decide +kernel)
theorem V_Ca_end : MV M_Ca_end := ⟨I_Ca_end, tb_in (i := 882) (by decide +kernel) (by decide +kernel)⟩
def y_In_putBack : MethodName := ⟨"RescanMill$Input", "putBack", "(LRescanMill$Bytes;)Z"⟩
abbrev M_In_putBack : mt_T := (y_In_putBack, prog_10_method_8_code, 2, (some (.boolean)))
def L_In_putBack : List (Nat × Instr × Nat) := [(0, .aload_n 1, 1), (1, .getfield 70, 3), (4, .ifCond .ne 28, 3), (7, .aload_n 1, 1), (8, .getfield 59, 3), (11, .ldc 23, 2), (13, .aload_n 0, 1), (14, .invokevirtual 66, 3), (17, .isub, 1), (18, .if_icmp .gt 14, 3), (21, .aload_n 1, 1), (22, .getfield 59, 3), (25, .aload_n 0, 1), (26, .getfield 34, 3), (29, .if_icmp .le 5, 3), (32, .iconst 0, 1), (33, .ireturn, 1), (34, .aload_n 0, 1), (35, .dup, 1), (36, .getfield 34, 3), (39, .aload_n 1, 1), (40, .getfield 59, 3), (43, .isub, 1), (44, .putfield 34, 3), (47, .aload_n 1, 1), (48, .getfield 74, 3), (51, .iconst 0, 1), (52, .aload_n 0, 1), (53, .getfield 30, 3), (56, .aload_n 0, 1), (57, .getfield 34, 3), (60, .aload_n 1, 1), (61, .getfield 59, 3), (64, .invokestatic 77, 3), (67, .iconst 1, 1), (68, .ireturn, 1)]
theorem D_In_putBack : decAll prog_10_method_8_code L_In_putBack = true := by decide +kernel
theorem K_In_putBack : MK M_In_putBack 1 := ⟨tb_in (i := 887) (by decide +kernel) (by decide +kernel), tb_in (i := 4) (by decide +kernel) (by decide +kernel), by decide +kernel, by decide, by decide +kernel, by decide +kernel, by decide +kernel⟩
theorem I_In_putBack : Cond.instanceMethod M_In_putBack.1 ∈ tbG := tb_in (i := 885) (by decide +kernel) (by decide +kernel)
theorem V_In_putBack : MV M_In_putBack := ⟨I_In_putBack, tb_in (i := 886) (by decide +kernel) (by decide +kernel)⟩
