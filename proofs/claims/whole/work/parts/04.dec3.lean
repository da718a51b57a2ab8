theorem d_Pl_tryRuns_171 : decode b_Pl_tryRuns 171 = .ok (.aload_n 0, 1) := by decide +kernel
theorem d_Pl_tryRuns_172 : decode b_Pl_tryRuns 172 = .ok (.getfield 32, 3) := by decide +kernel
theorem d_Pl_tryRuns_175 : decode b_Pl_tryRuns 175 = .ok (.iload 8, 2) := by decide +kernel
theorem d_Pl_tryRuns_177 : decode b_Pl_tryRuns 177 = .ok (.iload 11, 2) := by decide +kernel
theorem d_Pl_tryRuns_179 : decode b_Pl_tryRuns 179 = .ok (.invokevirtual 102, 3) := by decide +kernel
theorem d_Pl_tryRuns_182 : decode b_Pl_tryRuns 182 = .ok (.iadd, 1) := by decide +kernel
theorem d_Pl_tryRuns_183 : decode b_Pl_tryRuns 183 = .ok (.invokevirtual 53, 3) := by decide +kernel
theorem d_Pl_tryRuns_186 : decode b_Pl_tryRuns 186 = .ok (.iinc 8 1, 3) := by decide +kernel
theorem d_Pl_tryRuns_189 : decode b_Pl_tryRuns 189 = .ok (.goto (-133), 3) := by decide +kernel
theorem d_Pl_tryRuns_192 : decode b_Pl_tryRuns 192 = .ok (.aload_n 0, 1) := by decide +kernel
theorem d_Pl_tryRuns_193 : decode b_Pl_tryRuns 193 = .ok (.iload_n 1, 1) := by decide +kernel
theorem d_Pl_tryRuns_194 : decode b_Pl_tryRuns 194 = .ok (.iconst 1, 1) := by decide +kernel
theorem d_Pl_tryRuns_195 : decode b_Pl_tryRuns 195 = .ok (.iadd, 1) := by decide +kernel
theorem d_Pl_tryRuns_196 : decode b_Pl_tryRuns 196 = .ok (.iconst 0, 1) := by decide +kernel
theorem d_Pl_tryRuns_197 : decode b_Pl_tryRuns 197 = .ok (.iload_n 3, 1) := by decide +kernel
theorem d_Pl_tryRuns_198 : decode b_Pl_tryRuns 198 = .ok (.iconst 0, 1) := by decide +kernel
theorem d_Pl_tryRuns_199 : decode b_Pl_tryRuns 199 = .ok (.iconst 0, 1) := by decide +kernel
theorem d_Pl_tryRuns_200 : decode b_Pl_tryRuns 200 = .ok (.iload 6, 2) := by decide +kernel
theorem d_Pl_tryRuns_202 : decode b_Pl_tryRuns 202 = .ok (.invokevirtual 53, 3) := by decide +kernel
theorem d_Pl_tryRuns_205 : decode b_Pl_tryRuns 205 = .ok (.return_, 1) := by decide +kernel
theorem d_Pl_waiting_0 : decode b_Pl_waiting 0 = .ok (.aload_n 0, 1) := by decide +kernel
theorem d_Pl_waiting_1 : decode b_Pl_waiting 1 = .ok (.getfield 18, 3) := by decide +kernel
theorem d_Pl_waiting_4 : decode b_Pl_waiting 4 = .ok (.invokevirtual 44, 3) := by decide +kernel
theorem d_Pl_waiting_7 : decode b_Pl_waiting 7 = .ok (.ireturn, 1) := by decide +kernel
theorem d_Tt_aboard_0 : decode b_Tt_aboard 0 = .ok (.iconst 0, 1) := by decide +kernel
theorem d_Tt_aboard_1 : decode b_Tt_aboard 1 = .ok (.istore 4, 2) := by decide +kernel
theorem d_Tt_aboard_3 : decode b_Tt_aboard 3 = .ok (.iconst 0, 1) := by decide +kernel
theorem d_Tt_aboard_4 : decode b_Tt_aboard 4 = .ok (.istore 5, 2) := by decide +kernel
theorem d_Tt_aboard_6 : decode b_Tt_aboard 6 = .ok (.iload 5, 2) := by decide +kernel
theorem d_Tt_aboard_8 : decode b_Tt_aboard 8 = .ok (.iconst 4, 1) := by decide +kernel
theorem d_Tt_aboard_9 : decode b_Tt_aboard 9 = .ok (.if_icmp .ge 49, 3) := by decide +kernel
theorem d_Tt_aboard_12 : decode b_Tt_aboard 12 = .ok (.iload_n 3, 1) := by decide +kernel
theorem d_Tt_aboard_13 : decode b_Tt_aboard 13 = .ok (.iload 5, 2) := by decide +kernel
theorem d_Tt_aboard_15 : decode b_Tt_aboard 15 = .ok (.invokestatic 25, 3) := by decide +kernel
theorem d_Tt_aboard_18 : decode b_Tt_aboard 18 = .ok (.ifCond .eq 34, 3) := by decide +kernel
theorem d_Tt_aboard_21 : decode b_Tt_aboard 21 = .ok (.aload_n 0, 1) := by decide +kernel
theorem d_Tt_aboard_22 : decode b_Tt_aboard 22 = .ok (.getfield 15, 3) := by decide +kernel
theorem d_Tt_aboard_25 : decode b_Tt_aboard 25 = .ok (.iload 5, 2) := by decide +kernel
theorem d_Tt_aboard_27 : decode b_Tt_aboard 27 = .ok (.iaload, 1) := by decide +kernel
theorem d_Tt_aboard_28 : decode b_Tt_aboard 28 = .ok (.iload_n 1, 1) := by decide +kernel
theorem d_Tt_aboard_29 : decode b_Tt_aboard 29 = .ok (.if_icmp .ne 23, 3) := by decide +kernel
theorem d_Tt_aboard_32 : decode b_Tt_aboard 32 = .ok (.aload_n 0, 1) := by decide +kernel
theorem d_Tt_aboard_33 : decode b_Tt_aboard 33 = .ok (.getfield 18, 3) := by decide +kernel
theorem d_Tt_aboard_36 : decode b_Tt_aboard 36 = .ok (.iload 5, 2) := by decide +kernel
theorem d_Tt_aboard_38 : decode b_Tt_aboard 38 = .ok (.iaload, 1) := by decide +kernel
theorem d_Tt_aboard_39 : decode b_Tt_aboard 39 = .ok (.iload_n 2, 1) := by decide +kernel
theorem d_Tt_aboard_40 : decode b_Tt_aboard 40 = .ok (.if_icmp .ne 12, 3) := by decide +kernel
theorem d_Tt_aboard_43 : decode b_Tt_aboard 43 = .ok (.iload 4, 2) := by decide +kernel
theorem d_Tt_aboard_45 : decode b_Tt_aboard 45 = .ok (.iconst 1, 1) := by decide +kernel
theorem d_Tt_aboard_46 : decode b_Tt_aboard 46 = .ok (.iload 5, 2) := by decide +kernel
theorem d_Tt_aboard_48 : decode b_Tt_aboard 48 = .ok (.ishl, 1) := by decide +kernel
theorem d_Tt_aboard_49 : decode b_Tt_aboard 49 = .ok (.ior, 1) := by decide +kernel
theorem d_Tt_aboard_50 : decode b_Tt_aboard 50 = .ok (.istore 4, 2) := by decide +kernel
theorem d_Tt_aboard_52 : decode b_Tt_aboard 52 = .ok (.iinc 5 1, 3) := by decide +kernel
theorem d_Tt_aboard_55 : decode b_Tt_aboard 55 = .ok (.goto (-49), 3) := by decide +kernel
theorem d_Tt_aboard_58 : decode b_Tt_aboard 58 = .ok (.iload 4, 2) := by decide +kernel
theorem d_Tt_aboard_60 : decode b_Tt_aboard 60 = .ok (.ireturn, 1) := by decide +kernel
theorem d_Tt_begin_0 : decode b_Tt_begin 0 = .ok (.iload_n 1, 1) := by decide +kernel
theorem d_Tt_begin_1 : decode b_Tt_begin 1 = .ok (.ifCond .lt 17, 3) := by decide +kernel
theorem d_Tt_begin_4 : decode b_Tt_begin 4 = .ok (.iload_n 1, 1) := by decide +kernel
theorem d_Tt_begin_5 : decode b_Tt_begin 5 = .ok (.iconst 4, 1) := by decide +kernel
theorem d_Tt_begin_6 : decode b_Tt_begin 6 = .ok (.if_icmp .ge 12, 3) := by decide +kernel
theorem d_Tt_begin_9 : decode b_Tt_begin 9 = .ok (.aload_n 0, 1) := by decide +kernel
theorem d_Tt_begin_10 : decode b_Tt_begin 10 = .ok (.getfield 9, 3) := by decide +kernel
theorem d_Tt_begin_13 : decode b_Tt_begin 13 = .ok (.iload_n 1, 1) := by decide +kernel
theorem d_Tt_begin_14 : decode b_Tt_begin 14 = .ok (.iaload, 1) := by decide +kernel
theorem d_Tt_begin_15 : decode b_Tt_begin 15 = .ok (.goto 4, 3) := by decide +kernel
theorem d_Tt_begin_18 : decode b_Tt_begin 18 = .ok (.iconst (-1), 1) := by decide +kernel
theorem d_Tt_begin_19 : decode b_Tt_begin 19 = .ok (.ireturn, 1) := by decide +kernel
theorem d_Tt_beginOfAll_0 : decode b_Tt_beginOfAll 0 = .ok (.iconst 0, 1) := by decide +kernel
theorem d_Tt_beginOfAll_1 : decode b_Tt_beginOfAll 1 = .ok (.istore_n 2, 1) := by decide +kernel
theorem d_Tt_beginOfAll_2 : decode b_Tt_beginOfAll 2 = .ok (.iload_n 2, 1) := by decide +kernel
theorem d_Tt_beginOfAll_3 : decode b_Tt_beginOfAll 3 = .ok (.iconst 4, 1) := by decide +kernel
theorem d_Tt_beginOfAll_4 : decode b_Tt_beginOfAll 4 = .ok (.if_icmp .ge 24, 3) := by decide +kernel
theorem d_Tt_beginOfAll_7 : decode b_Tt_beginOfAll 7 = .ok (.iload_n 1, 1) := by decide +kernel
theorem d_Tt_beginOfAll_8 : decode b_Tt_beginOfAll 8 = .ok (.iload_n 2, 1) := by decide +kernel
theorem d_Tt_beginOfAll_9 : decode b_Tt_beginOfAll 9 = .ok (.invokestatic 25, 3) := by decide +kernel
theorem d_Tt_beginOfAll_12 : decode b_Tt_beginOfAll 12 = .ok (.ifCond .eq 10, 3) := by decide +kernel
theorem d_Tt_beginOfAll_15 : decode b_Tt_beginOfAll 15 = .ok (.aload_n 0, 1) := by decide +kernel
theorem d_Tt_beginOfAll_16 : decode b_Tt_beginOfAll 16 = .ok (.getfield 9, 3) := by decide +kernel
theorem d_Tt_beginOfAll_19 : decode b_Tt_beginOfAll 19 = .ok (.iload_n 2, 1) := by decide +kernel
theorem d_Tt_beginOfAll_20 : decode b_Tt_beginOfAll 20 = .ok (.iaload, 1) := by decide +kernel
theorem d_Tt_beginOfAll_21 : decode b_Tt_beginOfAll 21 = .ok (.ireturn, 1) := by decide +kernel
theorem d_Tt_beginOfAll_22 : decode b_Tt_beginOfAll 22 = .ok (.iinc 2 1, 3) := by decide +kernel
theorem d_Tt_beginOfAll_25 : decode b_Tt_beginOfAll 25 = .ok (.goto (-23), 3) := by decide +kernel
theorem d_Tt_beginOfAll_28 : decode b_Tt_beginOfAll 28 = .ok (.iconst (-1), 1) := by decide +kernel
theorem d_Tt_beginOfAll_29 : decode b_Tt_beginOfAll 29 = .ok (.ireturn, 1) := by decide +kernel
theorem d_Tt_chamberOf_0 : decode b_Tt_chamberOf 0 = .ok (.iload_n 1, 1) := by decide +kernel
theorem d_Tt_chamberOf_1 : decode b_Tt_chamberOf 1 = .ok (.ifCond .lt 17, 3) := by decide +kernel
theorem d_Tt_chamberOf_4 : decode b_Tt_chamberOf 4 = .ok (.iload_n 1, 1) := by decide +kernel
theorem d_Tt_chamberOf_5 : decode b_Tt_chamberOf 5 = .ok (.iconst 4, 1) := by decide +kernel
theorem d_Tt_chamberOf_6 : decode b_Tt_chamberOf 6 = .ok (.if_icmp .ge 12, 3) := by decide +kernel
theorem d_Tt_chamberOf_9 : decode b_Tt_chamberOf 9 = .ok (.aload_n 0, 1) := by decide +kernel
theorem d_Tt_chamberOf_10 : decode b_Tt_chamberOf 10 = .ok (.getfield 15, 3) := by decide +kernel
theorem d_Tt_chamberOf_13 : decode b_Tt_chamberOf 13 = .ok (.iload_n 1, 1) := by decide +kernel
theorem d_Tt_chamberOf_14 : decode b_Tt_chamberOf 14 = .ok (.iaload, 1) := by decide +kernel
theorem d_Tt_chamberOf_15 : decode b_Tt_chamberOf 15 = .ok (.goto 4, 3) := by decide +kernel
theorem d_Tt_chamberOf_18 : decode b_Tt_chamberOf 18 = .ok (.iconst (-1), 1) := by decide +kernel
theorem d_Tt_chamberOf_19 : decode b_Tt_chamberOf 19 = .ok (.ireturn, 1) := by decide +kernel
theorem d_Tt_copyFrom_0 : decode b_Tt_copyFrom 0 = .ok (.iconst 0, 1) := by decide +kernel
theorem d_Tt_copyFrom_1 : decode b_Tt_copyFrom 1 = .ok (.istore_n 2, 1) := by decide +kernel
theorem d_Tt_copyFrom_2 : decode b_Tt_copyFrom 2 = .ok (.iload_n 2, 1) := by decide +kernel
theorem d_Tt_copyFrom_3 : decode b_Tt_copyFrom 3 = .ok (.iconst 4, 1) := by decide +kernel
theorem d_Tt_copyFrom_4 : decode b_Tt_copyFrom 4 = .ok (.if_icmp .ge 45, 3) := by decide +kernel
theorem d_Tt_copyFrom_7 : decode b_Tt_copyFrom 7 = .ok (.aload_n 0, 1) := by decide +kernel
theorem d_Tt_copyFrom_8 : decode b_Tt_copyFrom 8 = .ok (.getfield 9, 3) := by decide +kernel
theorem d_Tt_copyFrom_11 : decode b_Tt_copyFrom 11 = .ok (.iload_n 2, 1) := by decide +kernel
theorem d_Tt_copyFrom_12 : decode b_Tt_copyFrom 12 = .ok (.aload_n 1, 1) := by decide +kernel
theorem d_Tt_copyFrom_13 : decode b_Tt_copyFrom 13 = .ok (.getfield 9, 3) := by decide +kernel
theorem d_Tt_copyFrom_16 : decode b_Tt_copyFrom 16 = .ok (.iload_n 2, 1) := by decide +kernel
theorem d_Tt_copyFrom_17 : decode b_Tt_copyFrom 17 = .ok (.iaload, 1) := by decide +kernel
theorem d_Tt_copyFrom_18 : decode b_Tt_copyFrom 18 = .ok (.iastore, 1) := by decide +kernel
theorem d_Tt_copyFrom_19 : decode b_Tt_copyFrom 19 = .ok (.aload_n 0, 1) := by decide +kernel
theorem d_Tt_copyFrom_20 : decode b_Tt_copyFrom 20 = .ok (.getfield 15, 3) := by decide +kernel
theorem d_Tt_copyFrom_23 : decode b_Tt_copyFrom 23 = .ok (.iload_n 2, 1) := by decide +kernel
theorem d_Tt_copyFrom_24 : decode b_Tt_copyFrom 24 = .ok (.aload_n 1, 1) := by decide +kernel
theorem d_Tt_copyFrom_25 : decode b_Tt_copyFrom 25 = .ok (.getfield 15, 3) := by decide +kernel
theorem d_Tt_copyFrom_28 : decode b_Tt_copyFrom 28 = .ok (.iload_n 2, 1) := by decide +kernel
theorem d_Tt_copyFrom_29 : decode b_Tt_copyFrom 29 = .ok (.iaload, 1) := by decide +kernel
theorem d_Tt_copyFrom_30 : decode b_Tt_copyFrom 30 = .ok (.iastore, 1) := by decide +kernel
theorem d_Tt_copyFrom_31 : decode b_Tt_copyFrom 31 = .ok (.aload_n 0, 1) := by decide +kernel
theorem d_Tt_copyFrom_32 : decode b_Tt_copyFrom 32 = .ok (.getfield 18, 3) := by decide +kernel
theorem d_Tt_copyFrom_35 : decode b_Tt_copyFrom 35 = .ok (.iload_n 2, 1) := by decide +kernel
theorem d_Tt_copyFrom_36 : decode b_Tt_copyFrom 36 = .ok (.aload_n 1, 1) := by decide +kernel
theorem d_Tt_copyFrom_37 : decode b_Tt_copyFrom 37 = .ok (.getfield 18, 3) := by decide +kernel
theorem d_Tt_copyFrom_40 : decode b_Tt_copyFrom 40 = .ok (.iload_n 2, 1) := by decide +kernel
theorem d_Tt_copyFrom_41 : decode b_Tt_copyFrom 41 = .ok (.iaload, 1) := by decide +kernel
theorem d_Tt_copyFrom_42 : decode b_Tt_copyFrom 42 = .ok (.iastore, 1) := by decide +kernel
theorem d_Tt_copyFrom_43 : decode b_Tt_copyFrom 43 = .ok (.iinc 2 1, 3) := by decide +kernel
theorem d_Tt_copyFrom_46 : decode b_Tt_copyFrom 46 = .ok (.goto (-44), 3) := by decide +kernel
theorem d_Tt_copyFrom_49 : decode b_Tt_copyFrom 49 = .ok (.aload_n 0, 1) := by decide +kernel
theorem d_Tt_copyFrom_50 : decode b_Tt_copyFrom 50 = .ok (.aload_n 1, 1) := by decide +kernel
theorem d_Tt_copyFrom_51 : decode b_Tt_copyFrom 51 = .ok (.getfield 21, 3) := by decide +kernel
theorem d_Tt_copyFrom_54 : decode b_Tt_copyFrom 54 = .ok (.putfield 21, 3) := by decide +kernel
theorem d_Tt_copyFrom_57 : decode b_Tt_copyFrom 57 = .ok (.return_, 1) := by decide +kernel
theorem d_Tt_differences_0 : decode b_Tt_differences 0 = .ok (.iconst 0, 1) := by decide +kernel
theorem d_Tt_differences_1 : decode b_Tt_differences 1 = .ok (.istore_n 3, 1) := by decide +kernel
theorem d_Tt_differences_2 : decode b_Tt_differences 2 = .ok (.iconst 0, 1) := by decide +kernel
theorem d_Tt_differences_3 : decode b_Tt_differences 3 = .ok (.istore 4, 2) := by decide +kernel
theorem d_Tt_differences_5 : decode b_Tt_differences 5 = .ok (.iload 4, 2) := by decide +kernel
theorem d_Tt_differences_7 : decode b_Tt_differences 7 = .ok (.iconst 4, 1) := by decide +kernel
theorem d_Tt_differences_8 : decode b_Tt_differences 8 = .ok (.if_icmp .ge 31, 3) := by decide +kernel
theorem d_Tt_differences_11 : decode b_Tt_differences 11 = .ok (.iload_n 2, 1) := by decide +kernel
theorem d_Tt_differences_12 : decode b_Tt_differences 12 = .ok (.iload 4, 2) := by decide +kernel
theorem d_Tt_differences_14 : decode b_Tt_differences 14 = .ok (.invokestatic 25, 3) := by decide +kernel
theorem d_Tt_differences_17 : decode b_Tt_differences 17 = .ok (.ifCond .eq 16, 3) := by decide +kernel
theorem d_Tt_differences_20 : decode b_Tt_differences 20 = .ok (.aload_n 0, 1) := by decide +kernel
theorem d_Tt_differences_21 : decode b_Tt_differences 21 = .ok (.aload_n 1, 1) := by decide +kernel
theorem d_Tt_differences_22 : decode b_Tt_differences 22 = .ok (.iload 4, 2) := by decide +kernel
theorem d_Tt_differences_24 : decode b_Tt_differences 24 = .ok (.invokevirtual 29, 3) := by decide +kernel
theorem d_Tt_differences_27 : decode b_Tt_differences 27 = .ok (.ifCond .eq 6, 3) := by decide +kernel
theorem d_Tt_differences_30 : decode b_Tt_differences 30 = .ok (.iinc 3 1, 3) := by decide +kernel
theorem d_Tt_differences_33 : decode b_Tt_differences 33 = .ok (.iinc 4 1, 3) := by decide +kernel
theorem d_Tt_differences_36 : decode b_Tt_differences 36 = .ok (.goto (-31), 3) := by decide +kernel
theorem d_Tt_differences_39 : decode b_Tt_differences 39 = .ok (.iload_n 3, 1) := by decide +kernel
theorem d_Tt_differences_40 : decode b_Tt_differences 40 = .ok (.ireturn, 1) := by decide +kernel
theorem d_Tt_differs_0 : decode b_Tt_differs 0 = .ok (.aload_n 0, 1) := by decide +kernel
theorem d_Tt_differs_1 : decode b_Tt_differs 1 = .ok (.iload_n 2, 1) := by decide +kernel
theorem d_Tt_differs_2 : decode b_Tt_differs 2 = .ok (.invokevirtual 33, 3) := by decide +kernel
theorem d_Tt_differs_5 : decode b_Tt_differs 5 = .ok (.aload_n 1, 1) := by decide +kernel
theorem d_Tt_differs_6 : decode b_Tt_differs 6 = .ok (.iload_n 2, 1) := by decide +kernel
theorem d_Tt_differs_7 : decode b_Tt_differs 7 = .ok (.invokevirtual 33, 3) := by decide +kernel
theorem d_Tt_differs_10 : decode b_Tt_differs 10 = .ok (.if_icmp .ne 16, 3) := by decide +kernel
theorem d_Tt_differs_13 : decode b_Tt_differs 13 = .ok (.aload_n 0, 1) := by decide +kernel
theorem d_Tt_differs_14 : decode b_Tt_differs 14 = .ok (.iload_n 2, 1) := by decide +kernel
theorem d_Tt_differs_15 : decode b_Tt_differs 15 = .ok (.invokevirtual 37, 3) := by decide +kernel
theorem d_Tt_differs_18 : decode b_Tt_differs 18 = .ok (.aload_n 1, 1) := by decide +kernel
theorem d_Tt_differs_19 : decode b_Tt_differs 19 = .ok (.iload_n 2, 1) := by decide +kernel
theorem d_Tt_differs_20 : decode b_Tt_differs 20 = .ok (.invokevirtual 37, 3) := by decide +kernel
theorem d_Tt_differs_23 : decode b_Tt_differs 23 = .ok (.if_icmp .eq 7, 3) := by decide +kernel
theorem d_Tt_differs_26 : decode b_Tt_differs 26 = .ok (.iconst 1, 1) := by decide +kernel
theorem d_Tt_differs_27 : decode b_Tt_differs 27 = .ok (.goto 4, 3) := by decide +kernel
theorem d_Tt_differs_30 : decode b_Tt_differs 30 = .ok (.iconst 0, 1) := by decide +kernel
theorem d_Tt_differs_31 : decode b_Tt_differs 31 = .ok (.ireturn, 1) := by decide +kernel
theorem d_Tt_isAheadOf_0 : decode b_Tt_isAheadOf 0 = .ok (.aload_n 0, 1) := by decide +kernel
theorem d_Tt_isAheadOf_1 : decode b_Tt_isAheadOf 1 = .ok (.getfield 21, 3) := by decide +kernel
theorem d_Tt_isAheadOf_4 : decode b_Tt_isAheadOf 4 = .ok (.aload_n 1, 1) := by decide +kernel
theorem d_Tt_isAheadOf_5 : decode b_Tt_isAheadOf 5 = .ok (.getfield 21, 3) := by decide +kernel
theorem d_Tt_isAheadOf_8 : decode b_Tt_isAheadOf 8 = .ok (.if_icmp .eq 20, 3) := by decide +kernel
theorem d_Tt_isAheadOf_11 : decode b_Tt_isAheadOf 11 = .ok (.aload_n 0, 1) := by decide +kernel
theorem d_Tt_isAheadOf_12 : decode b_Tt_isAheadOf 12 = .ok (.getfield 21, 3) := by decide +kernel
theorem d_Tt_isAheadOf_15 : decode b_Tt_isAheadOf 15 = .ok (.aload_n 1, 1) := by decide +kernel
theorem d_Tt_isAheadOf_16 : decode b_Tt_isAheadOf 16 = .ok (.getfield 21, 3) := by decide +kernel
theorem d_Tt_isAheadOf_19 : decode b_Tt_isAheadOf 19 = .ok (.if_icmp .ge 7, 3) := by decide +kernel
theorem d_Tt_isAheadOf_22 : decode b_Tt_isAheadOf 22 = .ok (.iconst 1, 1) := by decide +kernel
theorem d_Tt_isAheadOf_23 : decode b_Tt_isAheadOf 23 = .ok (.goto 4, 3) := by decide +kernel
theorem d_Tt_isAheadOf_26 : decode b_Tt_isAheadOf 26 = .ok (.iconst 0, 1) := by decide +kernel
theorem d_Tt_isAheadOf_27 : decode b_Tt_isAheadOf 27 = .ok (.ireturn, 1) := by decide +kernel
theorem d_Tt_isAheadOf_28 : decode b_Tt_isAheadOf 28 = .ok (.iconst 0, 1) := by decide +kernel
theorem d_Tt_isAheadOf_29 : decode b_Tt_isAheadOf 29 = .ok (.istore_n 3, 1) := by decide +kernel
theorem d_Tt_isAheadOf_30 : decode b_Tt_isAheadOf 30 = .ok (.iload_n 3, 1) := by decide +kernel
theorem d_Tt_isAheadOf_31 : decode b_Tt_isAheadOf 31 = .ok (.iconst 4, 1) := by decide +kernel
theorem d_Tt_isAheadOf_32 : decode b_Tt_isAheadOf 32 = .ok (.if_icmp .ge 77, 3) := by decide +kernel
theorem d_Tt_isAheadOf_35 : decode b_Tt_isAheadOf 35 = .ok (.iload_n 2, 1) := by decide +kernel
theorem d_Tt_isAheadOf_36 : decode b_Tt_isAheadOf 36 = .ok (.iload_n 3, 1) := by decide +kernel
theorem d_Tt_isAheadOf_37 : decode b_Tt_isAheadOf 37 = .ok (.invokestatic 25, 3) := by decide +kernel
theorem d_Tt_isAheadOf_40 : decode b_Tt_isAheadOf 40 = .ok (.ifCond .eq 63, 3) := by decide +kernel
theorem d_Tt_isAheadOf_43 : decode b_Tt_isAheadOf 43 = .ok (.aload_n 0, 1) := by decide +kernel
theorem d_Tt_isAheadOf_44 : decode b_Tt_isAheadOf 44 = .ok (.aload_n 1, 1) := by decide +kernel
theorem d_Tt_isAheadOf_45 : decode b_Tt_isAheadOf 45 = .ok (.iload_n 3, 1) := by decide +kernel
theorem d_Tt_isAheadOf_46 : decode b_Tt_isAheadOf 46 = .ok (.invokevirtual 29, 3) := by decide +kernel
theorem d_Tt_isAheadOf_49 : decode b_Tt_isAheadOf 49 = .ok (.ifCond .eq 54, 3) := by decide +kernel
theorem d_Tt_isAheadOf_52 : decode b_Tt_isAheadOf 52 = .ok (.aload_n 0, 1) := by decide +kernel
theorem d_Tt_isAheadOf_53 : decode b_Tt_isAheadOf 53 = .ok (.getfield 9, 3) := by decide +kernel
theorem d_Tt_isAheadOf_56 : decode b_Tt_isAheadOf 56 = .ok (.iload_n 3, 1) := by decide +kernel
theorem d_Tt_isAheadOf_57 : decode b_Tt_isAheadOf 57 = .ok (.iaload, 1) := by decide +kernel
theorem d_Tt_isAheadOf_58 : decode b_Tt_isAheadOf 58 = .ok (.aload_n 1, 1) := by decide +kernel
theorem d_Tt_isAheadOf_59 : decode b_Tt_isAheadOf 59 = .ok (.getfield 9, 3) := by decide +kernel
theorem d_Tt_isAheadOf_62 : decode b_Tt_isAheadOf 62 = .ok (.iload_n 3, 1) := by decide +kernel
theorem d_Tt_isAheadOf_63 : decode b_Tt_isAheadOf 63 = .ok (.iaload, 1) := by decide +kernel
theorem d_Tt_isAheadOf_64 : decode b_Tt_isAheadOf 64 = .ok (.if_icmp .lt 33, 3) := by decide +kernel
theorem d_Tt_isAheadOf_67 : decode b_Tt_isAheadOf 67 = .ok (.aload_n 0, 1) := by decide +kernel
theorem d_Tt_isAheadOf_68 : decode b_Tt_isAheadOf 68 = .ok (.getfield 9, 3) := by decide +kernel
theorem d_Tt_isAheadOf_71 : decode b_Tt_isAheadOf 71 = .ok (.iload_n 3, 1) := by decide +kernel
theorem d_Tt_isAheadOf_72 : decode b_Tt_isAheadOf 72 = .ok (.iaload, 1) := by decide +kernel
theorem d_Tt_isAheadOf_73 : decode b_Tt_isAheadOf 73 = .ok (.aload_n 1, 1) := by decide +kernel
theorem d_Tt_isAheadOf_74 : decode b_Tt_isAheadOf 74 = .ok (.getfield 9, 3) := by decide +kernel
theorem d_Tt_isAheadOf_77 : decode b_Tt_isAheadOf 77 = .ok (.iload_n 3, 1) := by decide +kernel
theorem d_Tt_isAheadOf_78 : decode b_Tt_isAheadOf 78 = .ok (.iaload, 1) := by decide +kernel
theorem d_Tt_isAheadOf_79 : decode b_Tt_isAheadOf 79 = .ok (.if_icmp .ne 22, 3) := by decide +kernel
theorem d_Tt_isAheadOf_82 : decode b_Tt_isAheadOf 82 = .ok (.aload_n 0, 1) := by decide +kernel
theorem d_Tt_isAheadOf_83 : decode b_Tt_isAheadOf 83 = .ok (.getfield 15, 3) := by decide +kernel
theorem d_Tt_isAheadOf_86 : decode b_Tt_isAheadOf 86 = .ok (.iload_n 3, 1) := by decide +kernel
theorem d_Tt_isAheadOf_87 : decode b_Tt_isAheadOf 87 = .ok (.iaload, 1) := by decide +kernel
theorem d_Tt_isAheadOf_88 : decode b_Tt_isAheadOf 88 = .ok (.aload_n 1, 1) := by decide +kernel
theorem d_Tt_isAheadOf_89 : decode b_Tt_isAheadOf 89 = .ok (.getfield 15, 3) := by decide +kernel
theorem d_Tt_isAheadOf_92 : decode b_Tt_isAheadOf 92 = .ok (.iload_n 3, 1) := by decide +kernel
theorem d_Tt_isAheadOf_93 : decode b_Tt_isAheadOf 93 = .ok (.iaload, 1) := by decide +kernel
theorem d_Tt_isAheadOf_94 : decode b_Tt_isAheadOf 94 = .ok (.if_icmp .ge 7, 3) := by decide +kernel
theorem d_Tt_isAheadOf_97 : decode b_Tt_isAheadOf 97 = .ok (.iconst 1, 1) := by decide +kernel
theorem d_Tt_isAheadOf_98 : decode b_Tt_isAheadOf 98 = .ok (.goto 4, 3) := by decide +kernel
theorem d_Tt_isAheadOf_101 : decode b_Tt_isAheadOf 101 = .ok (.iconst 0, 1) := by decide +kernel
theorem d_Tt_isAheadOf_102 : decode b_Tt_isAheadOf 102 = .ok (.ireturn, 1) := by decide +kernel
theorem d_Tt_isAheadOf_103 : decode b_Tt_isAheadOf 103 = .ok (.iinc 3 1, 3) := by decide +kernel
theorem d_Tt_isAheadOf_106 : decode b_Tt_isAheadOf 106 = .ok (.goto (-76), 3) := by decide +kernel
theorem d_Tt_isAheadOf_109 : decode b_Tt_isAheadOf 109 = .ok (.iconst 0, 1) := by decide +kernel
theorem d_Tt_isAheadOf_110 : decode b_Tt_isAheadOf 110 = .ok (.ireturn, 1) := by decide +kernel
theorem d_Tt_put_0 : decode b_Tt_put 0 = .ok (.iconst 0, 1) := by decide +kernel
theorem d_Tt_put_1 : decode b_Tt_put 1 = .ok (.istore 5, 2) := by decide +kernel
theorem d_Tt_put_3 : decode b_Tt_put 3 = .ok (.iload 5, 2) := by decide +kernel
theorem d_Tt_put_5 : decode b_Tt_put 5 = .ok (.iconst 4, 1) := by decide +kernel
theorem d_Tt_put_6 : decode b_Tt_put 6 = .ok (.if_icmp .ge 43, 3) := by decide +kernel
theorem d_Tt_put_9 : decode b_Tt_put 9 = .ok (.iload_n 1, 1) := by decide +kernel
theorem d_Tt_put_10 : decode b_Tt_put 10 = .ok (.iload 5, 2) := by decide +kernel
theorem d_Tt_put_12 : decode b_Tt_put 12 = .ok (.invokestatic 25, 3) := by decide +kernel
theorem d_Tt_put_15 : decode b_Tt_put 15 = .ok (.ifCond .eq 28, 3) := by decide +kernel
theorem d_Tt_put_18 : decode b_Tt_put 18 = .ok (.aload_n 0, 1) := by decide +kernel
theorem d_Tt_put_19 : decode b_Tt_put 19 = .ok (.getfield 9, 3) := by decide +kernel
theorem d_Tt_put_22 : decode b_Tt_put 22 = .ok (.iload 5, 2) := by decide +kernel
theorem d_Tt_put_24 : decode b_Tt_put 24 = .ok (.iload 4, 2) := by decide +kernel
theorem d_Tt_put_26 : decode b_Tt_put 26 = .ok (.iastore, 1) := by decide +kernel
theorem d_Tt_put_27 : decode b_Tt_put 27 = .ok (.aload_n 0, 1) := by decide +kernel
theorem d_Tt_put_28 : decode b_Tt_put 28 = .ok (.getfield 15, 3) := by decide +kernel
theorem d_Tt_put_31 : decode b_Tt_put 31 = .ok (.iload 5, 2) := by decide +kernel
theorem d_Tt_put_33 : decode b_Tt_put 33 = .ok (.iload_n 2, 1) := by decide +kernel
theorem d_Tt_put_34 : decode b_Tt_put 34 = .ok (.iastore, 1) := by decide +kernel
theorem d_Tt_put_35 : decode b_Tt_put 35 = .ok (.aload_n 0, 1) := by decide +kernel
theorem d_Tt_put_36 : decode b_Tt_put 36 = .ok (.getfield 18, 3) := by decide +kernel
theorem d_Tt_put_39 : decode b_Tt_put 39 = .ok (.iload 5, 2) := by decide +kernel
theorem d_Tt_put_41 : decode b_Tt_put 41 = .ok (.iload_n 3, 1) := by decide +kernel
theorem d_Tt_put_42 : decode b_Tt_put 42 = .ok (.iastore, 1) := by decide +kernel
theorem d_Tt_put_43 : decode b_Tt_put 43 = .ok (.iinc 5 1, 3) := by decide +kernel
theorem d_Tt_put_46 : decode b_Tt_put 46 = .ok (.goto (-43), 3) := by decide +kernel
theorem d_Tt_put_49 : decode b_Tt_put 49 = .ok (.return_, 1) := by decide +kernel
theorem d_Tt_runOf_0 : decode b_Tt_runOf 0 = .ok (.iload_n 1, 1) := by decide +kernel
theorem d_Tt_runOf_1 : decode b_Tt_runOf 1 = .ok (.ifCond .lt 17, 3) := by decide +kernel
theorem d_Tt_runOf_4 : decode b_Tt_runOf 4 = .ok (.iload_n 1, 1) := by decide +kernel
theorem d_Tt_runOf_5 : decode b_Tt_runOf 5 = .ok (.iconst 4, 1) := by decide +kernel
theorem d_Tt_runOf_6 : decode b_Tt_runOf 6 = .ok (.if_icmp .ge 12, 3) := by decide +kernel
theorem d_Tt_runOf_9 : decode b_Tt_runOf 9 = .ok (.aload_n 0, 1) := by decide +kernel
theorem d_Tt_runOf_10 : decode b_Tt_runOf 10 = .ok (.getfield 18, 3) := by decide +kernel
theorem d_Tt_runOf_13 : decode b_Tt_runOf 13 = .ok (.iload_n 1, 1) := by decide +kernel
theorem d_Tt_runOf_14 : decode b_Tt_runOf 14 = .ok (.iaload, 1) := by decide +kernel
theorem d_Tt_runOf_15 : decode b_Tt_runOf 15 = .ok (.goto 4, 3) := by decide +kernel
theorem d_Tt_runOf_18 : decode b_Tt_runOf 18 = .ok (.iconst (-1), 1) := by decide +kernel
theorem d_Tt_runOf_19 : decode b_Tt_runOf 19 = .ok (.ireturn, 1) := by decide +kernel
theorem d_Tt_setWaiting_0 : decode b_Tt_setWaiting 0 = .ok (.aload_n 0, 1) := by decide +kernel
theorem d_Tt_setWaiting_1 : decode b_Tt_setWaiting 1 = .ok (.iload_n 1, 1) := by decide +kernel
theorem d_Tt_setWaiting_2 : decode b_Tt_setWaiting 2 = .ok (.putfield 21, 3) := by decide +kernel
theorem d_Tt_setWaiting_5 : decode b_Tt_setWaiting 5 = .ok (.return_, 1) := by decide +kernel
theorem d_Tt_waiting_0 : decode b_Tt_waiting 0 = .ok (.aload_n 0, 1) := by decide +kernel
theorem d_Tt_waiting_1 : decode b_Tt_waiting 1 = .ok (.getfield 21, 3) := by decide +kernel
theorem d_Tt_waiting_4 : decode b_Tt_waiting 4 = .ok (.ireturn, 1) := by decide +kernel
