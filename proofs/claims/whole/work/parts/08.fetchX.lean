theorem fX0_init_0 : zf mX0_init 0 = some (.aload_n 0, 1, 1) := by decide +kernel
theorem fX0_init_1 : zf mX0_init 1 = some (.invokespecial 3, 3, 4) := by decide +kernel
theorem fX0_init_4 : zf mX0_init 4 = some (.aload_n 0, 1, 5) := by decide +kernel
theorem fX0_init_5 : zf mX0_init 5 = some (.new 9, 3, 8) := by decide +kernel
theorem fX0_init_8 : zf mX0_init 8 = some (.dup, 1, 9) := by decide +kernel
theorem fX0_init_9 : zf mX0_init 9 = some (.invokespecial 11, 3, 12) := by decide +kernel
theorem fX0_init_12 : zf mX0_init 12 = some (.putfield 12, 3, 15) := by decide +kernel
theorem fX0_init_15 : zf mX0_init 15 = some (.aload_n 0, 1, 16) := by decide +kernel
theorem fX0_init_16 : zf mX0_init 16 = some (.iconst 4, 1, 17) := by decide +kernel
theorem fX0_init_17 : zf mX0_init 17 = some (.newarray .int, 2, 19) := by decide +kernel
theorem fX0_init_19 : zf mX0_init 19 = some (.putfield 18, 3, 22) := by decide +kernel
theorem fX0_init_22 : zf mX0_init 22 = some (.aload_n 0, 1, 23) := by decide +kernel
theorem fX0_init_23 : zf mX0_init 23 = some (.iconst 0, 1, 24) := by decide +kernel
theorem fX0_init_24 : zf mX0_init 24 = some (.putfield 22, 3, 27) := by decide +kernel
theorem fX0_init_27 : zf mX0_init 27 = some (.aload_n 0, 1, 28) := by decide +kernel
theorem fX0_init_28 : zf mX0_init 28 = some (.iconst 0, 1, 29) := by decide +kernel
theorem fX0_init_29 : zf mX0_init 29 = some (.putfield 26, 3, 32) := by decide +kernel
theorem fX0_init_32 : zf mX0_init 32 = some (.aload_n 0, 1, 33) := by decide +kernel
theorem fX0_init_33 : zf mX0_init 33 = some (.iconst 0, 1, 34) := by decide +kernel
theorem fX0_init_34 : zf mX0_init 34 = some (.putfield 29, 3, 37) := by decide +kernel
theorem fX0_init_37 : zf mX0_init 37 = some (.return_, 1, 38) := by decide +kernel
theorem fX0_copyFrom_0 : zf mX0_copyFrom 0 = some (.aload_n 0, 1, 1) := by decide +kernel
theorem fX0_copyFrom_1 : zf mX0_copyFrom 1 = some (.getfield 12, 3, 4) := by decide +kernel
theorem fX0_copyFrom_4 : zf mX0_copyFrom 4 = some (.aload_n 1, 1, 5) := by decide +kernel
theorem fX0_copyFrom_5 : zf mX0_copyFrom 5 = some (.getfield 12, 3, 8) := by decide +kernel
theorem fX0_copyFrom_8 : zf mX0_copyFrom 8 = some (.invokevirtual 32, 3, 11) := by decide +kernel
theorem fX0_copyFrom_11 : zf mX0_copyFrom 11 = some (.aload_n 1, 1, 12) := by decide +kernel
theorem fX0_copyFrom_12 : zf mX0_copyFrom 12 = some (.getfield 18, 3, 15) := by decide +kernel
theorem fX0_copyFrom_15 : zf mX0_copyFrom 15 = some (.iconst 0, 1, 16) := by decide +kernel
theorem fX0_copyFrom_16 : zf mX0_copyFrom 16 = some (.aload_n 0, 1, 17) := by decide +kernel
theorem fX0_copyFrom_17 : zf mX0_copyFrom 17 = some (.getfield 18, 3, 20) := by decide +kernel
theorem fX0_copyFrom_20 : zf mX0_copyFrom 20 = some (.iconst 0, 1, 21) := by decide +kernel
theorem fX0_copyFrom_21 : zf mX0_copyFrom 21 = some (.iconst 4, 1, 22) := by decide +kernel
theorem fX0_copyFrom_22 : zf mX0_copyFrom 22 = some (.invokestatic 36, 3, 25) := by decide +kernel
theorem fX0_copyFrom_25 : zf mX0_copyFrom 25 = some (.aload_n 0, 1, 26) := by decide +kernel
theorem fX0_copyFrom_26 : zf mX0_copyFrom 26 = some (.aload_n 1, 1, 27) := by decide +kernel
theorem fX0_copyFrom_27 : zf mX0_copyFrom 27 = some (.getfield 22, 3, 30) := by decide +kernel
theorem fX0_copyFrom_30 : zf mX0_copyFrom 30 = some (.putfield 22, 3, 33) := by decide +kernel
theorem fX0_copyFrom_33 : zf mX0_copyFrom 33 = some (.aload_n 0, 1, 34) := by decide +kernel
theorem fX0_copyFrom_34 : zf mX0_copyFrom 34 = some (.aload_n 1, 1, 35) := by decide +kernel
theorem fX0_copyFrom_35 : zf mX0_copyFrom 35 = some (.getfield 26, 3, 38) := by decide +kernel
theorem fX0_copyFrom_38 : zf mX0_copyFrom 38 = some (.putfield 26, 3, 41) := by decide +kernel
theorem fX0_copyFrom_41 : zf mX0_copyFrom 41 = some (.aload_n 0, 1, 42) := by decide +kernel
theorem fX0_copyFrom_42 : zf mX0_copyFrom 42 = some (.aload_n 1, 1, 43) := by decide +kernel
theorem fX0_copyFrom_43 : zf mX0_copyFrom 43 = some (.getfield 29, 3, 46) := by decide +kernel
theorem fX0_copyFrom_46 : zf mX0_copyFrom 46 = some (.putfield 29, 3, 49) := by decide +kernel
theorem fX0_copyFrom_49 : zf mX0_copyFrom 49 = some (.return_, 1, 50) := by decide +kernel
theorem fX0_noteIn_0 : zf mX0_noteIn 0 = some (.iload_n 2, 1, 1) := by decide +kernel
theorem fX0_noteIn_1 : zf mX0_noteIn 1 = some (.ifCond .lt 62, 3, 4) := by decide +kernel
theorem fX0_noteIn_4 : zf mX0_noteIn 4 = some (.iload_n 2, 1, 5) := by decide +kernel
theorem fX0_noteIn_5 : zf mX0_noteIn 5 = some (.aload_n 1, 1, 6) := by decide +kernel
theorem fX0_noteIn_6 : zf mX0_noteIn 6 = some (.arraylength, 1, 7) := by decide +kernel
theorem fX0_noteIn_7 : zf mX0_noteIn 7 = some (.bipush 8, 2, 9) := by decide +kernel
theorem fX0_noteIn_9 : zf mX0_noteIn 9 = some (.isub, 1, 10) := by decide +kernel
theorem fX0_noteIn_10 : zf mX0_noteIn 10 = some (.if_icmp .gt 53, 3, 13) := by decide +kernel
theorem fX0_noteIn_13 : zf mX0_noteIn 13 = some (.aload_n 1, 1, 14) := by decide +kernel
theorem fX0_noteIn_14 : zf mX0_noteIn 14 = some (.iload_n 2, 1, 15) := by decide +kernel
theorem fX0_noteIn_15 : zf mX0_noteIn 15 = some (.aload_n 0, 1, 16) := by decide +kernel
theorem fX0_noteIn_16 : zf mX0_noteIn 16 = some (.getfield 12, 3, 19) := by decide +kernel
theorem fX0_noteIn_19 : zf mX0_noteIn 19 = some (.invokevirtual 42, 3, 22) := by decide +kernel
theorem fX0_noteIn_22 : zf mX0_noteIn 22 = some (.iastore, 1, 23) := by decide +kernel
theorem fX0_noteIn_23 : zf mX0_noteIn 23 = some (.aload_n 1, 1, 24) := by decide +kernel
theorem fX0_noteIn_24 : zf mX0_noteIn 24 = some (.iload_n 2, 1, 25) := by decide +kernel
theorem fX0_noteIn_25 : zf mX0_noteIn 25 = some (.iconst 1, 1, 26) := by decide +kernel
theorem fX0_noteIn_26 : zf mX0_noteIn 26 = some (.iadd, 1, 27) := by decide +kernel
theorem fX0_noteIn_27 : zf mX0_noteIn 27 = some (.aload_n 0, 1, 28) := by decide +kernel
theorem fX0_noteIn_28 : zf mX0_noteIn 28 = some (.getfield 22, 3, 31) := by decide +kernel
theorem fX0_noteIn_31 : zf mX0_noteIn 31 = some (.iastore, 1, 32) := by decide +kernel
theorem fX0_noteIn_32 : zf mX0_noteIn 32 = some (.aload_n 1, 1, 33) := by decide +kernel
theorem fX0_noteIn_33 : zf mX0_noteIn 33 = some (.iload_n 2, 1, 34) := by decide +kernel
theorem fX0_noteIn_34 : zf mX0_noteIn 34 = some (.iconst 2, 1, 35) := by decide +kernel
theorem fX0_noteIn_35 : zf mX0_noteIn 35 = some (.iadd, 1, 36) := by decide +kernel
theorem fX0_noteIn_36 : zf mX0_noteIn 36 = some (.aload_n 0, 1, 37) := by decide +kernel
theorem fX0_noteIn_37 : zf mX0_noteIn 37 = some (.getfield 26, 3, 40) := by decide +kernel
theorem fX0_noteIn_40 : zf mX0_noteIn 40 = some (.iastore, 1, 41) := by decide +kernel
theorem fX0_noteIn_41 : zf mX0_noteIn 41 = some (.aload_n 1, 1, 42) := by decide +kernel
theorem fX0_noteIn_42 : zf mX0_noteIn 42 = some (.iload_n 2, 1, 43) := by decide +kernel
theorem fX0_noteIn_43 : zf mX0_noteIn 43 = some (.iconst 3, 1, 44) := by decide +kernel
theorem fX0_noteIn_44 : zf mX0_noteIn 44 = some (.iadd, 1, 45) := by decide +kernel
theorem fX0_noteIn_45 : zf mX0_noteIn 45 = some (.aload_n 0, 1, 46) := by decide +kernel
theorem fX0_noteIn_46 : zf mX0_noteIn 46 = some (.getfield 29, 3, 49) := by decide +kernel
theorem fX0_noteIn_49 : zf mX0_noteIn 49 = some (.iastore, 1, 50) := by decide +kernel
theorem fX0_noteIn_50 : zf mX0_noteIn 50 = some (.aload_n 0, 1, 51) := by decide +kernel
theorem fX0_noteIn_51 : zf mX0_noteIn 51 = some (.getfield 18, 3, 54) := by decide +kernel
theorem fX0_noteIn_54 : zf mX0_noteIn 54 = some (.iconst 0, 1, 55) := by decide +kernel
theorem fX0_noteIn_55 : zf mX0_noteIn 55 = some (.aload_n 1, 1, 56) := by decide +kernel
theorem fX0_noteIn_56 : zf mX0_noteIn 56 = some (.iload_n 2, 1, 57) := by decide +kernel
theorem fX0_noteIn_57 : zf mX0_noteIn 57 = some (.iconst 4, 1, 58) := by decide +kernel
theorem fX0_noteIn_58 : zf mX0_noteIn 58 = some (.iadd, 1, 59) := by decide +kernel
theorem fX0_noteIn_59 : zf mX0_noteIn 59 = some (.iconst 4, 1, 60) := by decide +kernel
theorem fX0_noteIn_60 : zf mX0_noteIn 60 = some (.invokestatic 36, 3, 63) := by decide +kernel
theorem fX0_noteIn_63 : zf mX0_noteIn 63 = some (.return_, 1, 64) := by decide +kernel
theorem fX0_returnTo_0 : zf mX0_returnTo 0 = some (.iload_n 2, 1, 1) := by decide +kernel
theorem fX0_returnTo_1 : zf mX0_returnTo 1 = some (.ifCond .lt 62, 3, 4) := by decide +kernel
theorem fX0_returnTo_4 : zf mX0_returnTo 4 = some (.iload_n 2, 1, 5) := by decide +kernel
theorem fX0_returnTo_5 : zf mX0_returnTo 5 = some (.aload_n 1, 1, 6) := by decide +kernel
theorem fX0_returnTo_6 : zf mX0_returnTo 6 = some (.arraylength, 1, 7) := by decide +kernel
theorem fX0_returnTo_7 : zf mX0_returnTo 7 = some (.bipush 8, 2, 9) := by decide +kernel
theorem fX0_returnTo_9 : zf mX0_returnTo 9 = some (.isub, 1, 10) := by decide +kernel
theorem fX0_returnTo_10 : zf mX0_returnTo 10 = some (.if_icmp .gt 53, 3, 13) := by decide +kernel
theorem fX0_returnTo_13 : zf mX0_returnTo 13 = some (.aload_n 0, 1, 14) := by decide +kernel
theorem fX0_returnTo_14 : zf mX0_returnTo 14 = some (.getfield 12, 3, 17) := by decide +kernel
theorem fX0_returnTo_17 : zf mX0_returnTo 17 = some (.aload_n 1, 1, 18) := by decide +kernel
theorem fX0_returnTo_18 : zf mX0_returnTo 18 = some (.iload_n 2, 1, 19) := by decide +kernel
theorem fX0_returnTo_19 : zf mX0_returnTo 19 = some (.iaload, 1, 20) := by decide +kernel
theorem fX0_returnTo_20 : zf mX0_returnTo 20 = some (.invokevirtual 46, 3, 23) := by decide +kernel
theorem fX0_returnTo_23 : zf mX0_returnTo 23 = some (.aload_n 0, 1, 24) := by decide +kernel
theorem fX0_returnTo_24 : zf mX0_returnTo 24 = some (.aload_n 1, 1, 25) := by decide +kernel
theorem fX0_returnTo_25 : zf mX0_returnTo 25 = some (.iload_n 2, 1, 26) := by decide +kernel
theorem fX0_returnTo_26 : zf mX0_returnTo 26 = some (.iconst 1, 1, 27) := by decide +kernel
theorem fX0_returnTo_27 : zf mX0_returnTo 27 = some (.iadd, 1, 28) := by decide +kernel
theorem fX0_returnTo_28 : zf mX0_returnTo 28 = some (.iaload, 1, 29) := by decide +kernel
theorem fX0_returnTo_29 : zf mX0_returnTo 29 = some (.putfield 22, 3, 32) := by decide +kernel
theorem fX0_returnTo_32 : zf mX0_returnTo 32 = some (.aload_n 0, 1, 33) := by decide +kernel
theorem fX0_returnTo_33 : zf mX0_returnTo 33 = some (.aload_n 1, 1, 34) := by decide +kernel
theorem fX0_returnTo_34 : zf mX0_returnTo 34 = some (.iload_n 2, 1, 35) := by decide +kernel
theorem fX0_returnTo_35 : zf mX0_returnTo 35 = some (.iconst 2, 1, 36) := by decide +kernel
theorem fX0_returnTo_36 : zf mX0_returnTo 36 = some (.iadd, 1, 37) := by decide +kernel
theorem fX0_returnTo_37 : zf mX0_returnTo 37 = some (.iaload, 1, 38) := by decide +kernel
theorem fX0_returnTo_38 : zf mX0_returnTo 38 = some (.putfield 26, 3, 41) := by decide +kernel
theorem fX0_returnTo_41 : zf mX0_returnTo 41 = some (.aload_n 0, 1, 42) := by decide +kernel
theorem fX0_returnTo_42 : zf mX0_returnTo 42 = some (.aload_n 1, 1, 43) := by decide +kernel
theorem fX0_returnTo_43 : zf mX0_returnTo 43 = some (.iload_n 2, 1, 44) := by decide +kernel
theorem fX0_returnTo_44 : zf mX0_returnTo 44 = some (.iconst 3, 1, 45) := by decide +kernel
theorem fX0_returnTo_45 : zf mX0_returnTo 45 = some (.iadd, 1, 46) := by decide +kernel
theorem fX0_returnTo_46 : zf mX0_returnTo 46 = some (.iaload, 1, 47) := by decide +kernel
theorem fX0_returnTo_47 : zf mX0_returnTo 47 = some (.putfield 29, 3, 50) := by decide +kernel
theorem fX0_returnTo_50 : zf mX0_returnTo 50 = some (.aload_n 1, 1, 51) := by decide +kernel
theorem fX0_returnTo_51 : zf mX0_returnTo 51 = some (.iload_n 2, 1, 52) := by decide +kernel
theorem fX0_returnTo_52 : zf mX0_returnTo 52 = some (.iconst 4, 1, 53) := by decide +kernel
theorem fX0_returnTo_53 : zf mX0_returnTo 53 = some (.iadd, 1, 54) := by decide +kernel
theorem fX0_returnTo_54 : zf mX0_returnTo 54 = some (.aload_n 0, 1, 55) := by decide +kernel
theorem fX0_returnTo_55 : zf mX0_returnTo 55 = some (.getfield 18, 3, 58) := by decide +kernel
theorem fX0_returnTo_58 : zf mX0_returnTo 58 = some (.iconst 0, 1, 59) := by decide +kernel
theorem fX0_returnTo_59 : zf mX0_returnTo 59 = some (.iconst 4, 1, 60) := by decide +kernel
theorem fX0_returnTo_60 : zf mX0_returnTo 60 = some (.invokestatic 36, 3, 63) := by decide +kernel
theorem fX0_returnTo_63 : zf mX0_returnTo 63 = some (.return_, 1, 64) := by decide +kernel
theorem fX0_ledgerOf_0 : zf mX0_ledgerOf 0 = some (.iload_n 1, 1, 1) := by decide +kernel
theorem fX0_ledgerOf_1 : zf mX0_ledgerOf 1 = some (.invokestatic 50, 3, 4) := by decide +kernel
theorem fX0_ledgerOf_4 : zf mX0_ledgerOf 4 = some (.ifCond .eq 12, 3, 7) := by decide +kernel
theorem fX0_ledgerOf_7 : zf mX0_ledgerOf 7 = some (.aload_n 0, 1, 8) := by decide +kernel
theorem fX0_ledgerOf_8 : zf mX0_ledgerOf 8 = some (.getfield 18, 3, 11) := by decide +kernel
theorem fX0_ledgerOf_11 : zf mX0_ledgerOf 11 = some (.iload_n 1, 1, 12) := by decide +kernel
theorem fX0_ledgerOf_12 : zf mX0_ledgerOf 12 = some (.iaload, 1, 13) := by decide +kernel
theorem fX0_ledgerOf_13 : zf mX0_ledgerOf 13 = some (.goto 4, 3, 16) := by decide +kernel
theorem fX0_ledgerOf_16 : zf mX0_ledgerOf 16 = some (.iconst (-1), 1, 17) := by decide +kernel
theorem fX0_ledgerOf_17 : zf mX0_ledgerOf 17 = some (.ireturn, 1, 18) := by decide +kernel
theorem fX0_giveLedger_0 : zf mX0_giveLedger 0 = some (.iload_n 1, 1, 1) := by decide +kernel
theorem fX0_giveLedger_1 : zf mX0_giveLedger 1 = some (.invokestatic 50, 3, 4) := by decide +kernel
theorem fX0_giveLedger_4 : zf mX0_giveLedger 4 = some (.ifCond .eq 21, 3, 7) := by decide +kernel
theorem fX0_giveLedger_7 : zf mX0_giveLedger 7 = some (.aload_n 0, 1, 8) := by decide +kernel
theorem fX0_giveLedger_8 : zf mX0_giveLedger 8 = some (.getfield 12, 3, 11) := by decide +kernel
theorem fX0_giveLedger_11 : zf mX0_giveLedger 11 = some (.iload_n 2, 1, 12) := by decide +kernel
theorem fX0_giveLedger_12 : zf mX0_giveLedger 12 = some (.invokevirtual 54, 3, 15) := by decide +kernel
theorem fX0_giveLedger_15 : zf mX0_giveLedger 15 = some (.ifCond .eq 10, 3, 18) := by decide +kernel
theorem fX0_giveLedger_18 : zf mX0_giveLedger 18 = some (.aload_n 0, 1, 19) := by decide +kernel
theorem fX0_giveLedger_19 : zf mX0_giveLedger 19 = some (.getfield 18, 3, 22) := by decide +kernel
theorem fX0_giveLedger_22 : zf mX0_giveLedger 22 = some (.iload_n 1, 1, 23) := by decide +kernel
theorem fX0_giveLedger_23 : zf mX0_giveLedger 23 = some (.iload_n 2, 1, 24) := by decide +kernel
theorem fX0_giveLedger_24 : zf mX0_giveLedger 24 = some (.iastore, 1, 25) := by decide +kernel
theorem fX0_giveLedger_25 : zf mX0_giveLedger 25 = some (.return_, 1, 26) := by decide +kernel
theorem fX0_housesWith_0 : zf mX0_housesWith 0 = some (.iconst 0, 1, 1) := by decide +kernel
theorem fX0_housesWith_1 : zf mX0_housesWith 1 = some (.istore_n 2, 1, 2) := by decide +kernel
theorem fX0_housesWith_2 : zf mX0_housesWith 2 = some (.iconst 0, 1, 3) := by decide +kernel
theorem fX0_housesWith_3 : zf mX0_housesWith 3 = some (.istore_n 3, 1, 4) := by decide +kernel
theorem fX0_housesWith_4 : zf mX0_housesWith 4 = some (.iload_n 3, 1, 5) := by decide +kernel
theorem fX0_housesWith_5 : zf mX0_housesWith 5 = some (.iconst 4, 1, 6) := by decide +kernel
theorem fX0_housesWith_6 : zf mX0_housesWith 6 = some (.if_icmp .ge 21, 3, 9) := by decide +kernel
theorem fX0_housesWith_9 : zf mX0_housesWith 9 = some (.aload_n 0, 1, 10) := by decide +kernel
theorem fX0_housesWith_10 : zf mX0_housesWith 10 = some (.iload_n 3, 1, 11) := by decide +kernel
theorem fX0_housesWith_11 : zf mX0_housesWith 11 = some (.invokevirtual 57, 3, 14) := by decide +kernel
theorem fX0_housesWith_14 : zf mX0_housesWith 14 = some (.iload_n 1, 1, 15) := by decide +kernel
theorem fX0_housesWith_15 : zf mX0_housesWith 15 = some (.if_icmp .ne 6, 3, 18) := by decide +kernel
theorem fX0_housesWith_18 : zf mX0_housesWith 18 = some (.iinc 2 1, 3, 21) := by decide +kernel
theorem fX0_housesWith_21 : zf mX0_housesWith 21 = some (.iinc 3 1, 3, 24) := by decide +kernel
theorem fX0_housesWith_24 : zf mX0_housesWith 24 = some (.goto (-20), 3, 27) := by decide +kernel
theorem fX0_housesWith_27 : zf mX0_housesWith 27 = some (.iload_n 2, 1, 28) := by decide +kernel
theorem fX0_housesWith_28 : zf mX0_housesWith 28 = some (.ireturn, 1, 29) := by decide +kernel
theorem fX0_versionsOfHouses_0 : zf mX0_versionsOfHouses 0 = some (.iconst 0, 1, 1) := by decide +kernel
theorem fX0_versionsOfHouses_1 : zf mX0_versionsOfHouses 1 = some (.istore_n 1, 1, 2) := by decide +kernel
theorem fX0_versionsOfHouses_2 : zf mX0_versionsOfHouses 2 = some (.iconst 0, 1, 3) := by decide +kernel
theorem fX0_versionsOfHouses_3 : zf mX0_versionsOfHouses 3 = some (.istore_n 2, 1, 4) := by decide +kernel
theorem fX0_versionsOfHouses_4 : zf mX0_versionsOfHouses 4 = some (.iload_n 2, 1, 5) := by decide +kernel
theorem fX0_versionsOfHouses_5 : zf mX0_versionsOfHouses 5 = some (.aload_n 0, 1, 6) := by decide +kernel
theorem fX0_versionsOfHouses_6 : zf mX0_versionsOfHouses 6 = some (.getfield 12, 3, 9) := by decide +kernel
theorem fX0_versionsOfHouses_9 : zf mX0_versionsOfHouses 9 = some (.invokevirtual 42, 3, 12) := by decide +kernel
theorem fX0_versionsOfHouses_12 : zf mX0_versionsOfHouses 12 = some (.if_icmp .ge 20, 3, 15) := by decide +kernel
theorem fX0_versionsOfHouses_15 : zf mX0_versionsOfHouses 15 = some (.aload_n 0, 1, 16) := by decide +kernel
theorem fX0_versionsOfHouses_16 : zf mX0_versionsOfHouses 16 = some (.iload_n 2, 1, 17) := by decide +kernel
theorem fX0_versionsOfHouses_17 : zf mX0_versionsOfHouses 17 = some (.invokevirtual 61, 3, 20) := by decide +kernel
theorem fX0_versionsOfHouses_20 : zf mX0_versionsOfHouses 20 = some (.ifCond .le 6, 3, 23) := by decide +kernel
theorem fX0_versionsOfHouses_23 : zf mX0_versionsOfHouses 23 = some (.iinc 1 1, 3, 26) := by decide +kernel
theorem fX0_versionsOfHouses_26 : zf mX0_versionsOfHouses 26 = some (.iinc 2 1, 3, 29) := by decide +kernel
theorem fX0_versionsOfHouses_29 : zf mX0_versionsOfHouses 29 = some (.goto (-25), 3, 32) := by decide +kernel
theorem fX0_versionsOfHouses_32 : zf mX0_versionsOfHouses 32 = some (.iload_n 1, 1, 33) := by decide +kernel
theorem fX0_versionsOfHouses_33 : zf mX0_versionsOfHouses 33 = some (.ireturn, 1, 34) := by decide +kernel
theorem fX1_init_0 : zf mX1_init 0 = some (.aload_n 0, 1, 1) := by decide +kernel
theorem fX1_init_1 : zf mX1_init 1 = some (.invokespecial 3, 3, 4) := by decide +kernel
theorem fX1_init_4 : zf mX1_init 4 = some (.aload_n 0, 1, 5) := by decide +kernel
theorem fX1_init_5 : zf mX1_init 5 = some (.new 9, 3, 8) := by decide +kernel
theorem fX1_init_8 : zf mX1_init 8 = some (.dup, 1, 9) := by decide +kernel
theorem fX1_init_9 : zf mX1_init 9 = some (.invokespecial 11, 3, 12) := by decide +kernel
theorem fX1_init_12 : zf mX1_init 12 = some (.putfield 12, 3, 15) := by decide +kernel
theorem fX1_init_15 : zf mX1_init 15 = some (.aload_n 0, 1, 16) := by decide +kernel
theorem fX1_init_16 : zf mX1_init 16 = some (.new 18, 3, 19) := by decide +kernel
theorem fX1_init_19 : zf mX1_init 19 = some (.dup, 1, 20) := by decide +kernel
theorem fX1_init_20 : zf mX1_init 20 = some (.invokespecial 20, 3, 23) := by decide +kernel
theorem fX1_init_23 : zf mX1_init 23 = some (.putfield 21, 3, 26) := by decide +kernel
theorem fX1_init_26 : zf mX1_init 26 = some (.aload_n 0, 1, 27) := by decide +kernel
theorem fX1_init_27 : zf mX1_init 27 = some (.aload_n 0, 1, 28) := by decide +kernel
theorem fX1_init_28 : zf mX1_init 28 = some (.getfield 12, 3, 31) := by decide +kernel
theorem fX1_init_31 : zf mX1_init 31 = some (.getfield 25, 3, 34) := by decide +kernel
theorem fX1_init_34 : zf mX1_init 34 = some (.putfield 29, 3, 37) := by decide +kernel
theorem fX1_init_37 : zf mX1_init 37 = some (.return_, 1, 38) := by decide +kernel
theorem fX1_carryOut_0 : zf mX1_carryOut 0 = some (.aload_n 1, 1, 1) := by decide +kernel
theorem fX1_carryOut_1 : zf mX1_carryOut 1 = some (.iconst 0, 1, 2) := by decide +kernel
theorem fX1_carryOut_2 : zf mX1_carryOut 2 = some (.invokevirtual 30, 3, 5) := by decide +kernel
theorem fX1_carryOut_5 : zf mX1_carryOut 5 = some (.istore_n 2, 1, 6) := by decide +kernel
theorem fX1_carryOut_6 : zf mX1_carryOut 6 = some (.aload_n 1, 1, 7) := by decide +kernel
theorem fX1_carryOut_7 : zf mX1_carryOut 7 = some (.invokevirtual 36, 3, 10) := by decide +kernel
theorem fX1_carryOut_10 : zf mX1_carryOut 10 = some (.lookupswitch 101 #[(98, 90), (102, 79), (103, 58), (119, 42)], 42, 52) := by decide +kernel
theorem fX1_carryOut_52 : zf mX1_carryOut 52 = some (.aload_n 0, 1, 53) := by decide +kernel
theorem fX1_carryOut_53 : zf mX1_carryOut 53 = some (.iload_n 2, 1, 54) := by decide +kernel
theorem fX1_carryOut_54 : zf mX1_carryOut 54 = some (.aload_n 1, 1, 55) := by decide +kernel
theorem fX1_carryOut_55 : zf mX1_carryOut 55 = some (.iconst 1, 1, 56) := by decide +kernel
theorem fX1_carryOut_56 : zf mX1_carryOut 56 = some (.invokevirtual 30, 3, 59) := by decide +kernel
theorem fX1_carryOut_59 : zf mX1_carryOut 59 = some (.aload_n 1, 1, 60) := by decide +kernel
theorem fX1_carryOut_60 : zf mX1_carryOut 60 = some (.iconst 2, 1, 61) := by decide +kernel
theorem fX1_carryOut_61 : zf mX1_carryOut 61 = some (.invokevirtual 30, 3, 64) := by decide +kernel
theorem fX1_carryOut_64 : zf mX1_carryOut 64 = some (.invokevirtual 40, 3, 67) := by decide +kernel
theorem fX1_carryOut_67 : zf mX1_carryOut 67 = some (.ireturn, 1, 68) := by decide +kernel
theorem fX1_carryOut_68 : zf mX1_carryOut 68 = some (.aload_n 0, 1, 69) := by decide +kernel
theorem fX1_carryOut_69 : zf mX1_carryOut 69 = some (.iload_n 2, 1, 70) := by decide +kernel
theorem fX1_carryOut_70 : zf mX1_carryOut 70 = some (.aload_n 1, 1, 71) := by decide +kernel
theorem fX1_carryOut_71 : zf mX1_carryOut 71 = some (.iconst 1, 1, 72) := by decide +kernel
theorem fX1_carryOut_72 : zf mX1_carryOut 72 = some (.invokevirtual 30, 3, 75) := by decide +kernel
theorem fX1_carryOut_75 : zf mX1_carryOut 75 = some (.aload_n 1, 1, 76) := by decide +kernel
theorem fX1_carryOut_76 : zf mX1_carryOut 76 = some (.iconst 2, 1, 77) := by decide +kernel
theorem fX1_carryOut_77 : zf mX1_carryOut 77 = some (.invokevirtual 30, 3, 80) := by decide +kernel
theorem fX1_carryOut_80 : zf mX1_carryOut 80 = some (.aload_n 1, 1, 81) := by decide +kernel
theorem fX1_carryOut_81 : zf mX1_carryOut 81 = some (.iconst 3, 1, 82) := by decide +kernel
theorem fX1_carryOut_82 : zf mX1_carryOut 82 = some (.invokevirtual 30, 3, 85) := by decide +kernel
theorem fX1_carryOut_85 : zf mX1_carryOut 85 = some (.invokevirtual 44, 3, 88) := by decide +kernel
theorem fX1_carryOut_88 : zf mX1_carryOut 88 = some (.ireturn, 1, 89) := by decide +kernel
theorem fX1_carryOut_89 : zf mX1_carryOut 89 = some (.aload_n 0, 1, 90) := by decide +kernel
theorem fX1_carryOut_90 : zf mX1_carryOut 90 = some (.iload_n 2, 1, 91) := by decide +kernel
theorem fX1_carryOut_91 : zf mX1_carryOut 91 = some (.aload_n 1, 1, 92) := by decide +kernel
theorem fX1_carryOut_92 : zf mX1_carryOut 92 = some (.iconst 1, 1, 93) := by decide +kernel
theorem fX1_carryOut_93 : zf mX1_carryOut 93 = some (.invokevirtual 30, 3, 96) := by decide +kernel
theorem fX1_carryOut_96 : zf mX1_carryOut 96 = some (.invokevirtual 48, 3, 99) := by decide +kernel
theorem fX1_carryOut_99 : zf mX1_carryOut 99 = some (.ireturn, 1, 100) := by decide +kernel
theorem fX1_carryOut_100 : zf mX1_carryOut 100 = some (.aload_n 0, 1, 101) := by decide +kernel
theorem fX1_carryOut_101 : zf mX1_carryOut 101 = some (.iload_n 2, 1, 102) := by decide +kernel
theorem fX1_carryOut_102 : zf mX1_carryOut 102 = some (.aload_n 1, 1, 103) := by decide +kernel
theorem fX1_carryOut_103 : zf mX1_carryOut 103 = some (.iconst 1, 1, 104) := by decide +kernel
theorem fX1_carryOut_104 : zf mX1_carryOut 104 = some (.invokevirtual 30, 3, 107) := by decide +kernel
theorem fX1_carryOut_107 : zf mX1_carryOut 107 = some (.invokevirtual 52, 3, 110) := by decide +kernel
theorem fX1_carryOut_110 : zf mX1_carryOut 110 = some (.ireturn, 1, 111) := by decide +kernel
theorem fX1_carryOut_111 : zf mX1_carryOut 111 = some (.aload_n 0, 1, 112) := by decide +kernel
theorem fX1_carryOut_112 : zf mX1_carryOut 112 = some (.aload_n 1, 1, 113) := by decide +kernel
theorem fX1_carryOut_113 : zf mX1_carryOut 113 = some (.iconst 0, 1, 114) := by decide +kernel
theorem fX1_carryOut_114 : zf mX1_carryOut 114 = some (.invokevirtual 30, 3, 117) := by decide +kernel
theorem fX1_carryOut_117 : zf mX1_carryOut 117 = some (.invokevirtual 55, 3, 120) := by decide +kernel
theorem fX1_carryOut_120 : zf mX1_carryOut 120 = some (.ireturn, 1, 121) := by decide +kernel
theorem fX1_enter_0 : zf mX1_enter 0 = some (.iload_n 1, 1, 1) := by decide +kernel
theorem fX1_enter_1 : zf mX1_enter 1 = some (.invokestatic 58, 3, 4) := by decide +kernel
theorem fX1_enter_4 : zf mX1_enter 4 = some (.ifCond .eq 21, 3, 7) := by decide +kernel
theorem fX1_enter_7 : zf mX1_enter 7 = some (.iload_n 2, 1, 8) := by decide +kernel
theorem fX1_enter_8 : zf mX1_enter 8 = some (.invokestatic 62, 3, 11) := by decide +kernel
theorem fX1_enter_11 : zf mX1_enter 11 = some (.ifCond .eq 14, 3, 14) := by decide +kernel
theorem fX1_enter_14 : zf mX1_enter 14 = some (.iload_n 3, 1, 15) := by decide +kernel
theorem fX1_enter_15 : zf mX1_enter 15 = some (.ifCond .lt 10, 3, 18) := by decide +kernel
theorem fX1_enter_18 : zf mX1_enter 18 = some (.iload_n 3, 1, 19) := by decide +kernel
theorem fX1_enter_19 : zf mX1_enter 19 = some (.sipush 999, 3, 22) := by decide +kernel
theorem fX1_enter_22 : zf mX1_enter 22 = some (.if_icmp .le 13, 3, 25) := by decide +kernel
theorem fX1_enter_25 : zf mX1_enter 25 = some (.aload_n 0, 1, 26) := by decide +kernel
theorem fX1_enter_26 : zf mX1_enter 26 = some (.getfield 21, 3, 29) := by decide +kernel
theorem fX1_enter_29 : zf mX1_enter 29 = some (.iconst 1, 1, 30) := by decide +kernel
theorem fX1_enter_30 : zf mX1_enter 30 = some (.iconst 0, 1, 31) := by decide +kernel
theorem fX1_enter_31 : zf mX1_enter 31 = some (.invokevirtual 65, 3, 34) := by decide +kernel
theorem fX1_enter_34 : zf mX1_enter 34 = some (.ireturn, 1, 35) := by decide +kernel
theorem fX1_enter_35 : zf mX1_enter 35 = some (.aload_n 0, 1, 36) := by decide +kernel
theorem fX1_enter_36 : zf mX1_enter 36 = some (.getfield 12, 3, 39) := by decide +kernel
theorem fX1_enter_39 : zf mX1_enter 39 = some (.iload_n 1, 1, 40) := by decide +kernel
theorem fX1_enter_40 : zf mX1_enter 40 = some (.invokevirtual 68, 3, 43) := by decide +kernel
theorem fX1_enter_43 : zf mX1_enter 43 = some (.istore 4, 2, 45) := by decide +kernel
theorem fX1_enter_45 : zf mX1_enter 45 = some (.aload_n 0, 1, 46) := by decide +kernel
theorem fX1_enter_46 : zf mX1_enter 46 = some (.getfield 29, 3, 49) := by decide +kernel
theorem fX1_enter_49 : zf mX1_enter 49 = some (.iload 4, 2, 51) := by decide +kernel
theorem fX1_enter_51 : zf mX1_enter 51 = some (.iload_n 2, 1, 52) := by decide +kernel
theorem fX1_enter_52 : zf mX1_enter 52 = some (.invokevirtual 71, 3, 55) := by decide +kernel
theorem fX1_enter_55 : zf mX1_enter 55 = some (.iload_n 3, 1, 56) := by decide +kernel
theorem fX1_enter_56 : zf mX1_enter 56 = some (.if_icmp .ne 14, 3, 59) := by decide +kernel
theorem fX1_enter_59 : zf mX1_enter 59 = some (.aload_n 0, 1, 60) := by decide +kernel
theorem fX1_enter_60 : zf mX1_enter 60 = some (.getfield 21, 3, 63) := by decide +kernel
theorem fX1_enter_63 : zf mX1_enter 63 = some (.iconst 3, 1, 64) := by decide +kernel
theorem fX1_enter_64 : zf mX1_enter 64 = some (.iload 4, 2, 66) := by decide +kernel
theorem fX1_enter_66 : zf mX1_enter 66 = some (.invokevirtual 65, 3, 69) := by decide +kernel
theorem fX1_enter_69 : zf mX1_enter 69 = some (.ireturn, 1, 70) := by decide +kernel
theorem fX1_enter_70 : zf mX1_enter 70 = some (.aload_n 0, 1, 71) := by decide +kernel
theorem fX1_enter_71 : zf mX1_enter 71 = some (.getfield 29, 3, 74) := by decide +kernel
theorem fX1_enter_74 : zf mX1_enter 74 = some (.invokevirtual 76, 3, 77) := by decide +kernel
theorem fX1_enter_77 : zf mX1_enter 77 = some (.ifCond .eq 13, 3, 80) := by decide +kernel
theorem fX1_enter_80 : zf mX1_enter 80 = some (.aload_n 0, 1, 81) := by decide +kernel
theorem fX1_enter_81 : zf mX1_enter 81 = some (.getfield 21, 3, 84) := by decide +kernel
theorem fX1_enter_84 : zf mX1_enter 84 = some (.iconst 2, 1, 85) := by decide +kernel
theorem fX1_enter_85 : zf mX1_enter 85 = some (.iconst 0, 1, 86) := by decide +kernel
theorem fX1_enter_86 : zf mX1_enter 86 = some (.invokevirtual 65, 3, 89) := by decide +kernel
theorem fX1_enter_89 : zf mX1_enter 89 = some (.ireturn, 1, 90) := by decide +kernel
theorem fX1_enter_90 : zf mX1_enter 90 = some (.aload_n 0, 1, 91) := by decide +kernel
theorem fX1_enter_91 : zf mX1_enter 91 = some (.getfield 12, 3, 94) := by decide +kernel
theorem fX1_enter_94 : zf mX1_enter 94 = some (.iload_n 1, 1, 95) := by decide +kernel
theorem fX1_enter_95 : zf mX1_enter 95 = some (.aload_n 0, 1, 96) := by decide +kernel
theorem fX1_enter_96 : zf mX1_enter 96 = some (.getfield 29, 3, 99) := by decide +kernel
theorem fX1_enter_99 : zf mX1_enter 99 = some (.iload 4, 2, 101) := by decide +kernel
theorem fX1_enter_101 : zf mX1_enter 101 = some (.aload_n 0, 1, 102) := by decide +kernel
theorem fX1_enter_102 : zf mX1_enter 102 = some (.getfield 12, 3, 105) := by decide +kernel
theorem fX1_enter_105 : zf mX1_enter 105 = some (.getfield 80, 3, 108) := by decide +kernel
theorem fX1_enter_108 : zf mX1_enter 108 = some (.iload_n 2, 1, 109) := by decide +kernel
theorem fX1_enter_109 : zf mX1_enter 109 = some (.iload_n 3, 1, 110) := by decide +kernel
theorem fX1_enter_110 : zf mX1_enter 110 = some (.invokevirtual 84, 3, 113) := by decide +kernel
theorem fX1_enter_113 : zf mX1_enter 113 = some (.invokevirtual 87, 3, 116) := by decide +kernel
theorem fX1_enter_116 : zf mX1_enter 116 = some (.aload_n 0, 1, 117) := by decide +kernel
theorem fX1_enter_117 : zf mX1_enter 117 = some (.getfield 12, 3, 120) := by decide +kernel
theorem fX1_enter_120 : zf mX1_enter 120 = some (.dup, 1, 121) := by decide +kernel
theorem fX1_enter_121 : zf mX1_enter 121 = some (.getfield 91, 3, 124) := by decide +kernel
theorem fX1_enter_124 : zf mX1_enter 124 = some (.iconst 1, 1, 125) := by decide +kernel
theorem fX1_enter_125 : zf mX1_enter 125 = some (.iadd, 1, 126) := by decide +kernel
theorem fX1_enter_126 : zf mX1_enter 126 = some (.putfield 91, 3, 129) := by decide +kernel
theorem fX1_enter_129 : zf mX1_enter 129 = some (.aload_n 0, 1, 130) := by decide +kernel
theorem fX1_enter_130 : zf mX1_enter 130 = some (.getfield 12, 3, 133) := by decide +kernel
theorem fX1_enter_133 : zf mX1_enter 133 = some (.iload_n 1, 1, 134) := by decide +kernel
theorem fX1_enter_134 : zf mX1_enter 134 = some (.invokevirtual 68, 3, 137) := by decide +kernel
theorem fX1_enter_137 : zf mX1_enter 137 = some (.ireturn, 1, 138) := by decide +kernel
theorem fX1_copyLines_0 : zf mX1_copyLines 0 = some (.iload_n 1, 1, 1) := by decide +kernel
theorem fX1_copyLines_1 : zf mX1_copyLines 1 = some (.invokestatic 58, 3, 4) := by decide +kernel
theorem fX1_copyLines_4 : zf mX1_copyLines 4 = some (.ifCond .eq 18, 3, 7) := by decide +kernel
theorem fX1_copyLines_7 : zf mX1_copyLines 7 = some (.iload_n 3, 1, 8) := by decide +kernel
theorem fX1_copyLines_8 : zf mX1_copyLines 8 = some (.invokestatic 62, 3, 11) := by decide +kernel
theorem fX1_copyLines_11 : zf mX1_copyLines 11 = some (.ifCond .eq 11, 3, 14) := by decide +kernel
theorem fX1_copyLines_14 : zf mX1_copyLines 14 = some (.iload 4, 2, 16) := by decide +kernel
theorem fX1_copyLines_16 : zf mX1_copyLines 16 = some (.invokestatic 62, 3, 19) := by decide +kernel
theorem fX1_copyLines_19 : zf mX1_copyLines 19 = some (.ifCond .ne 13, 3, 22) := by decide +kernel
theorem fX1_copyLines_22 : zf mX1_copyLines 22 = some (.aload_n 0, 1, 23) := by decide +kernel
theorem fX1_copyLines_23 : zf mX1_copyLines 23 = some (.getfield 21, 3, 26) := by decide +kernel
theorem fX1_copyLines_26 : zf mX1_copyLines 26 = some (.iconst 1, 1, 27) := by decide +kernel
theorem fX1_copyLines_27 : zf mX1_copyLines 27 = some (.iconst 0, 1, 28) := by decide +kernel
theorem fX1_copyLines_28 : zf mX1_copyLines 28 = some (.invokevirtual 65, 3, 31) := by decide +kernel
theorem fX1_copyLines_31 : zf mX1_copyLines 31 = some (.ireturn, 1, 32) := by decide +kernel
theorem fX1_copyLines_32 : zf mX1_copyLines 32 = some (.aload_n 0, 1, 33) := by decide +kernel
theorem fX1_copyLines_33 : zf mX1_copyLines 33 = some (.getfield 29, 3, 36) := by decide +kernel
theorem fX1_copyLines_36 : zf mX1_copyLines 36 = some (.iload_n 2, 1, 37) := by decide +kernel
theorem fX1_copyLines_37 : zf mX1_copyLines 37 = some (.invokevirtual 94, 3, 40) := by decide +kernel
theorem fX1_copyLines_40 : zf mX1_copyLines 40 = some (.ifCond .ne 19, 3, 43) := by decide +kernel
theorem fX1_copyLines_43 : zf mX1_copyLines 43 = some (.aload_n 0, 1, 44) := by decide +kernel
theorem fX1_copyLines_44 : zf mX1_copyLines 44 = some (.getfield 21, 3, 47) := by decide +kernel
theorem fX1_copyLines_47 : zf mX1_copyLines 47 = some (.iconst 4, 1, 48) := by decide +kernel
theorem fX1_copyLines_48 : zf mX1_copyLines 48 = some (.aload_n 0, 1, 49) := by decide +kernel
theorem fX1_copyLines_49 : zf mX1_copyLines 49 = some (.getfield 29, 3, 52) := by decide +kernel
theorem fX1_copyLines_52 : zf mX1_copyLines 52 = some (.invokevirtual 97, 3, 55) := by decide +kernel
theorem fX1_copyLines_55 : zf mX1_copyLines 55 = some (.invokevirtual 65, 3, 58) := by decide +kernel
theorem fX1_copyLines_58 : zf mX1_copyLines 58 = some (.ireturn, 1, 59) := by decide +kernel
theorem fX1_copyLines_59 : zf mX1_copyLines 59 = some (.iload 4, 2, 61) := by decide +kernel
theorem fX1_copyLines_61 : zf mX1_copyLines 61 = some (.iload_n 3, 1, 62) := by decide +kernel
theorem fX1_copyLines_62 : zf mX1_copyLines 62 = some (.if_icmp .ge 16, 3, 65) := by decide +kernel
theorem fX1_copyLines_65 : zf mX1_copyLines 65 = some (.aload_n 0, 1, 66) := by decide +kernel
theorem fX1_copyLines_66 : zf mX1_copyLines 66 = some (.getfield 21, 3, 69) := by decide +kernel
theorem fX1_copyLines_69 : zf mX1_copyLines 69 = some (.iconst 5, 1, 70) := by decide +kernel
theorem fX1_copyLines_70 : zf mX1_copyLines 70 = some (.iload_n 3, 1, 71) := by decide +kernel
theorem fX1_copyLines_71 : zf mX1_copyLines 71 = some (.iload 4, 2, 73) := by decide +kernel
theorem fX1_copyLines_73 : zf mX1_copyLines 73 = some (.isub, 1, 74) := by decide +kernel
theorem fX1_copyLines_74 : zf mX1_copyLines 74 = some (.invokevirtual 65, 3, 77) := by decide +kernel
theorem fX1_copyLines_77 : zf mX1_copyLines 77 = some (.ireturn, 1, 78) := by decide +kernel
theorem fX1_copyLines_78 : zf mX1_copyLines 78 = some (.aload_n 0, 1, 79) := by decide +kernel
theorem fX1_copyLines_79 : zf mX1_copyLines 79 = some (.getfield 12, 3, 82) := by decide +kernel
theorem fX1_copyLines_82 : zf mX1_copyLines 82 = some (.iload_n 1, 1, 83) := by decide +kernel
theorem fX1_copyLines_83 : zf mX1_copyLines 83 = some (.invokevirtual 68, 3, 86) := by decide +kernel
theorem fX1_copyLines_86 : zf mX1_copyLines 86 = some (.istore 5, 2, 88) := by decide +kernel
theorem fX1_copyLines_88 : zf mX1_copyLines 88 = some (.aload_n 0, 1, 89) := by decide +kernel
theorem fX1_copyLines_89 : zf mX1_copyLines 89 = some (.getfield 29, 3, 92) := by decide +kernel
theorem fX1_copyLines_92 : zf mX1_copyLines 92 = some (.iload 5, 2, 94) := by decide +kernel
theorem fX1_copyLines_94 : zf mX1_copyLines 94 = some (.iload_n 2, 1, 95) := by decide +kernel
theorem fX1_copyLines_95 : zf mX1_copyLines 95 = some (.iload_n 3, 1, 96) := by decide +kernel
theorem fX1_copyLines_96 : zf mX1_copyLines 96 = some (.iload 4, 2, 98) := by decide +kernel
theorem fX1_copyLines_98 : zf mX1_copyLines 98 = some (.invokevirtual 101, 3, 101) := by decide +kernel
theorem fX1_copyLines_101 : zf mX1_copyLines 101 = some (.ifCond .ne 14, 3, 104) := by decide +kernel
theorem fX1_copyLines_104 : zf mX1_copyLines 104 = some (.aload_n 0, 1, 105) := by decide +kernel
theorem fX1_copyLines_105 : zf mX1_copyLines 105 = some (.getfield 21, 3, 108) := by decide +kernel
theorem fX1_copyLines_108 : zf mX1_copyLines 108 = some (.iconst 3, 1, 109) := by decide +kernel
theorem fX1_copyLines_109 : zf mX1_copyLines 109 = some (.iload 5, 2, 111) := by decide +kernel
theorem fX1_copyLines_111 : zf mX1_copyLines 111 = some (.invokevirtual 65, 3, 114) := by decide +kernel
theorem fX1_copyLines_114 : zf mX1_copyLines 114 = some (.ireturn, 1, 115) := by decide +kernel
theorem fX1_copyLines_115 : zf mX1_copyLines 115 = some (.aload_n 0, 1, 116) := by decide +kernel
theorem fX1_copyLines_116 : zf mX1_copyLines 116 = some (.getfield 29, 3, 119) := by decide +kernel
theorem fX1_copyLines_119 : zf mX1_copyLines 119 = some (.invokevirtual 76, 3, 122) := by decide +kernel
theorem fX1_copyLines_122 : zf mX1_copyLines 122 = some (.ifCond .eq 13, 3, 125) := by decide +kernel
theorem fX1_copyLines_125 : zf mX1_copyLines 125 = some (.aload_n 0, 1, 126) := by decide +kernel
theorem fX1_copyLines_126 : zf mX1_copyLines 126 = some (.getfield 21, 3, 129) := by decide +kernel
theorem fX1_copyLines_129 : zf mX1_copyLines 129 = some (.iconst 2, 1, 130) := by decide +kernel
theorem fX1_copyLines_130 : zf mX1_copyLines 130 = some (.iconst 0, 1, 131) := by decide +kernel
theorem fX1_copyLines_131 : zf mX1_copyLines 131 = some (.invokevirtual 65, 3, 134) := by decide +kernel
theorem fX1_copyLines_134 : zf mX1_copyLines 134 = some (.ireturn, 1, 135) := by decide +kernel
theorem fX1_copyLines_135 : zf mX1_copyLines 135 = some (.aload_n 0, 1, 136) := by decide +kernel
theorem fX1_copyLines_136 : zf mX1_copyLines 136 = some (.getfield 12, 3, 139) := by decide +kernel
theorem fX1_copyLines_139 : zf mX1_copyLines 139 = some (.iload_n 1, 1, 140) := by decide +kernel
theorem fX1_copyLines_140 : zf mX1_copyLines 140 = some (.aload_n 0, 1, 141) := by decide +kernel
theorem fX1_copyLines_141 : zf mX1_copyLines 141 = some (.getfield 29, 3, 144) := by decide +kernel
theorem fX1_copyLines_144 : zf mX1_copyLines 144 = some (.iload 5, 2, 146) := by decide +kernel
theorem fX1_copyLines_146 : zf mX1_copyLines 146 = some (.aload_n 0, 1, 147) := by decide +kernel
theorem fX1_copyLines_147 : zf mX1_copyLines 147 = some (.getfield 12, 3, 150) := by decide +kernel
theorem fX1_copyLines_150 : zf mX1_copyLines 150 = some (.getfield 80, 3, 153) := by decide +kernel
theorem fX1_copyLines_153 : zf mX1_copyLines 153 = some (.iload_n 2, 1, 154) := by decide +kernel
theorem fX1_copyLines_154 : zf mX1_copyLines 154 = some (.iload_n 3, 1, 155) := by decide +kernel
theorem fX1_copyLines_155 : zf mX1_copyLines 155 = some (.iload 4, 2, 157) := by decide +kernel
theorem fX1_copyLines_157 : zf mX1_copyLines 157 = some (.invokevirtual 104, 3, 160) := by decide +kernel
theorem fX1_copyLines_160 : zf mX1_copyLines 160 = some (.invokevirtual 87, 3, 163) := by decide +kernel
theorem fX1_copyLines_163 : zf mX1_copyLines 163 = some (.aload_n 0, 1, 164) := by decide +kernel
theorem fX1_copyLines_164 : zf mX1_copyLines 164 = some (.getfield 12, 3, 167) := by decide +kernel
theorem fX1_copyLines_167 : zf mX1_copyLines 167 = some (.dup, 1, 168) := by decide +kernel
theorem fX1_copyLines_168 : zf mX1_copyLines 168 = some (.getfield 108, 3, 171) := by decide +kernel
theorem fX1_copyLines_171 : zf mX1_copyLines 171 = some (.iconst 1, 1, 172) := by decide +kernel
theorem fX1_copyLines_172 : zf mX1_copyLines 172 = some (.iadd, 1, 173) := by decide +kernel
theorem fX1_copyLines_173 : zf mX1_copyLines 173 = some (.putfield 108, 3, 176) := by decide +kernel
theorem fX1_copyLines_176 : zf mX1_copyLines 176 = some (.aload_n 0, 1, 177) := by decide +kernel
theorem fX1_copyLines_177 : zf mX1_copyLines 177 = some (.getfield 12, 3, 180) := by decide +kernel
theorem fX1_copyLines_180 : zf mX1_copyLines 180 = some (.iload_n 1, 1, 181) := by decide +kernel
theorem fX1_copyLines_181 : zf mX1_copyLines 181 = some (.invokevirtual 68, 3, 184) := by decide +kernel
theorem fX1_copyLines_184 : zf mX1_copyLines 184 = some (.ireturn, 1, 185) := by decide +kernel
theorem fX1_takeOver_0 : zf mX1_takeOver 0 = some (.iload_n 1, 1, 1) := by decide +kernel
theorem fX1_takeOver_1 : zf mX1_takeOver 1 = some (.invokestatic 58, 3, 4) := by decide +kernel
theorem fX1_takeOver_4 : zf mX1_takeOver 4 = some (.ifCond .eq 10, 3, 7) := by decide +kernel
theorem fX1_takeOver_7 : zf mX1_takeOver 7 = some (.iload_n 2, 1, 8) := by decide +kernel
theorem fX1_takeOver_8 : zf mX1_takeOver 8 = some (.invokestatic 58, 3, 11) := by decide +kernel
theorem fX1_takeOver_11 : zf mX1_takeOver 11 = some (.ifCond .ne 13, 3, 14) := by decide +kernel
theorem fX1_takeOver_14 : zf mX1_takeOver 14 = some (.aload_n 0, 1, 15) := by decide +kernel
theorem fX1_takeOver_15 : zf mX1_takeOver 15 = some (.getfield 21, 3, 18) := by decide +kernel
theorem fX1_takeOver_18 : zf mX1_takeOver 18 = some (.iconst 1, 1, 19) := by decide +kernel
theorem fX1_takeOver_19 : zf mX1_takeOver 19 = some (.iconst 0, 1, 20) := by decide +kernel
theorem fX1_takeOver_20 : zf mX1_takeOver 20 = some (.invokevirtual 65, 3, 23) := by decide +kernel
theorem fX1_takeOver_23 : zf mX1_takeOver 23 = some (.ireturn, 1, 24) := by decide +kernel
theorem fX1_takeOver_24 : zf mX1_takeOver 24 = some (.iload_n 1, 1, 25) := by decide +kernel
theorem fX1_takeOver_25 : zf mX1_takeOver 25 = some (.iload_n 2, 1, 26) := by decide +kernel
theorem fX1_takeOver_26 : zf mX1_takeOver 26 = some (.if_icmp .ne 14, 3, 29) := by decide +kernel
theorem fX1_takeOver_29 : zf mX1_takeOver 29 = some (.aload_n 0, 1, 30) := by decide +kernel
theorem fX1_takeOver_30 : zf mX1_takeOver 30 = some (.getfield 21, 3, 33) := by decide +kernel
theorem fX1_takeOver_33 : zf mX1_takeOver 33 = some (.bipush 6, 2, 35) := by decide +kernel
theorem fX1_takeOver_35 : zf mX1_takeOver 35 = some (.iload_n 1, 1, 36) := by decide +kernel
theorem fX1_takeOver_36 : zf mX1_takeOver 36 = some (.invokevirtual 65, 3, 39) := by decide +kernel
theorem fX1_takeOver_39 : zf mX1_takeOver 39 = some (.ireturn, 1, 40) := by decide +kernel
theorem fX1_takeOver_40 : zf mX1_takeOver 40 = some (.aload_n 0, 1, 41) := by decide +kernel
theorem fX1_takeOver_41 : zf mX1_takeOver 41 = some (.getfield 12, 3, 44) := by decide +kernel
theorem fX1_takeOver_44 : zf mX1_takeOver 44 = some (.iload_n 2, 1, 45) := by decide +kernel
theorem fX1_takeOver_45 : zf mX1_takeOver 45 = some (.invokevirtual 68, 3, 48) := by decide +kernel
theorem fX1_takeOver_48 : zf mX1_takeOver 48 = some (.istore_n 3, 1, 49) := by decide +kernel
theorem fX1_takeOver_49 : zf mX1_takeOver 49 = some (.aload_n 0, 1, 50) := by decide +kernel
theorem fX1_takeOver_50 : zf mX1_takeOver 50 = some (.getfield 12, 3, 53) := by decide +kernel
theorem fX1_takeOver_53 : zf mX1_takeOver 53 = some (.iload_n 1, 1, 54) := by decide +kernel
theorem fX1_takeOver_54 : zf mX1_takeOver 54 = some (.invokevirtual 68, 3, 57) := by decide +kernel
theorem fX1_takeOver_57 : zf mX1_takeOver 57 = some (.iload_n 3, 1, 58) := by decide +kernel
theorem fX1_takeOver_58 : zf mX1_takeOver 58 = some (.if_icmp .ne 13, 3, 61) := by decide +kernel
theorem fX1_takeOver_61 : zf mX1_takeOver 61 = some (.aload_n 0, 1, 62) := by decide +kernel
theorem fX1_takeOver_62 : zf mX1_takeOver 62 = some (.getfield 21, 3, 65) := by decide +kernel
theorem fX1_takeOver_65 : zf mX1_takeOver 65 = some (.iconst 3, 1, 66) := by decide +kernel
theorem fX1_takeOver_66 : zf mX1_takeOver 66 = some (.iload_n 3, 1, 67) := by decide +kernel
theorem fX1_takeOver_67 : zf mX1_takeOver 67 = some (.invokevirtual 65, 3, 70) := by decide +kernel
theorem fX1_takeOver_70 : zf mX1_takeOver 70 = some (.ireturn, 1, 71) := by decide +kernel
theorem fX1_takeOver_71 : zf mX1_takeOver 71 = some (.aload_n 0, 1, 72) := by decide +kernel
theorem fX1_takeOver_72 : zf mX1_takeOver 72 = some (.getfield 12, 3, 75) := by decide +kernel
theorem fX1_takeOver_75 : zf mX1_takeOver 75 = some (.iload_n 1, 1, 76) := by decide +kernel
theorem fX1_takeOver_76 : zf mX1_takeOver 76 = some (.iload_n 3, 1, 77) := by decide +kernel
theorem fX1_takeOver_77 : zf mX1_takeOver 77 = some (.invokevirtual 87, 3, 80) := by decide +kernel
theorem fX1_takeOver_80 : zf mX1_takeOver 80 = some (.iload_n 3, 1, 81) := by decide +kernel
theorem fX1_takeOver_81 : zf mX1_takeOver 81 = some (.ireturn, 1, 82) := by decide +kernel
theorem fX1_goBack_0 : zf mX1_goBack 0 = some (.iload_n 1, 1, 1) := by decide +kernel
theorem fX1_goBack_1 : zf mX1_goBack 1 = some (.invokestatic 58, 3, 4) := by decide +kernel
theorem fX1_goBack_4 : zf mX1_goBack 4 = some (.ifCond .eq 14, 3, 7) := by decide +kernel
theorem fX1_goBack_7 : zf mX1_goBack 7 = some (.iload_n 2, 1, 8) := by decide +kernel
theorem fX1_goBack_8 : zf mX1_goBack 8 = some (.iconst 1, 1, 9) := by decide +kernel
theorem fX1_goBack_9 : zf mX1_goBack 9 = some (.if_icmp .lt 9, 3, 12) := by decide +kernel
theorem fX1_goBack_12 : zf mX1_goBack 12 = some (.iload_n 2, 1, 13) := by decide +kernel
theorem fX1_goBack_13 : zf mX1_goBack 13 = some (.bipush 40, 2, 15) := by decide +kernel
theorem fX1_goBack_15 : zf mX1_goBack 15 = some (.if_icmp .lt 13, 3, 18) := by decide +kernel
theorem fX1_goBack_18 : zf mX1_goBack 18 = some (.aload_n 0, 1, 19) := by decide +kernel
theorem fX1_goBack_19 : zf mX1_goBack 19 = some (.getfield 21, 3, 22) := by decide +kernel
theorem fX1_goBack_22 : zf mX1_goBack 22 = some (.iconst 1, 1, 23) := by decide +kernel
theorem fX1_goBack_23 : zf mX1_goBack 23 = some (.iconst 0, 1, 24) := by decide +kernel
theorem fX1_goBack_24 : zf mX1_goBack 24 = some (.invokevirtual 65, 3, 27) := by decide +kernel
theorem fX1_goBack_27 : zf mX1_goBack 27 = some (.ireturn, 1, 28) := by decide +kernel
theorem fX1_goBack_28 : zf mX1_goBack 28 = some (.aload_n 0, 1, 29) := by decide +kernel
theorem fX1_goBack_29 : zf mX1_goBack 29 = some (.getfield 12, 3, 32) := by decide +kernel
theorem fX1_goBack_32 : zf mX1_goBack 32 = some (.iload_n 1, 1, 33) := by decide +kernel
theorem fX1_goBack_33 : zf mX1_goBack 33 = some (.invokevirtual 68, 3, 36) := by decide +kernel
theorem fX1_goBack_36 : zf mX1_goBack 36 = some (.istore_n 3, 1, 37) := by decide +kernel
theorem fX1_goBack_37 : zf mX1_goBack 37 = some (.aload_n 0, 1, 38) := by decide +kernel
theorem fX1_goBack_38 : zf mX1_goBack 38 = some (.getfield 29, 3, 41) := by decide +kernel
theorem fX1_goBack_41 : zf mX1_goBack 41 = some (.iload_n 3, 1, 42) := by decide +kernel
theorem fX1_goBack_42 : zf mX1_goBack 42 = some (.invokevirtual 111, 3, 45) := by decide +kernel
theorem fX1_goBack_45 : zf mX1_goBack 45 = some (.istore 4, 2, 47) := by decide +kernel
theorem fX1_goBack_47 : zf mX1_goBack 47 = some (.iload 4, 2, 49) := by decide +kernel
theorem fX1_goBack_49 : zf mX1_goBack 49 = some (.iload_n 2, 1, 50) := by decide +kernel
theorem fX1_goBack_50 : zf mX1_goBack 50 = some (.if_icmp .ge 15, 3, 53) := by decide +kernel
theorem fX1_goBack_53 : zf mX1_goBack 53 = some (.aload_n 0, 1, 54) := by decide +kernel
theorem fX1_goBack_54 : zf mX1_goBack 54 = some (.getfield 21, 3, 57) := by decide +kernel
theorem fX1_goBack_57 : zf mX1_goBack 57 = some (.bipush 7, 2, 59) := by decide +kernel
theorem fX1_goBack_59 : zf mX1_goBack 59 = some (.iload 4, 2, 61) := by decide +kernel
theorem fX1_goBack_61 : zf mX1_goBack 61 = some (.invokevirtual 65, 3, 64) := by decide +kernel
theorem fX1_goBack_64 : zf mX1_goBack 64 = some (.ireturn, 1, 65) := by decide +kernel
theorem fX1_goBack_65 : zf mX1_goBack 65 = some (.aload_n 0, 1, 66) := by decide +kernel
theorem fX1_goBack_66 : zf mX1_goBack 66 = some (.getfield 12, 3, 69) := by decide +kernel
theorem fX1_goBack_69 : zf mX1_goBack 69 = some (.iload_n 1, 1, 70) := by decide +kernel
theorem fX1_goBack_70 : zf mX1_goBack 70 = some (.aload_n 0, 1, 71) := by decide +kernel
theorem fX1_goBack_71 : zf mX1_goBack 71 = some (.getfield 29, 3, 74) := by decide +kernel
theorem fX1_goBack_74 : zf mX1_goBack 74 = some (.iload_n 3, 1, 75) := by decide +kernel
theorem fX1_goBack_75 : zf mX1_goBack 75 = some (.iload_n 2, 1, 76) := by decide +kernel
theorem fX1_goBack_76 : zf mX1_goBack 76 = some (.invokevirtual 114, 3, 79) := by decide +kernel
theorem fX1_goBack_79 : zf mX1_goBack 79 = some (.invokevirtual 87, 3, 82) := by decide +kernel
theorem fX1_goBack_82 : zf mX1_goBack 82 = some (.aload_n 0, 1, 83) := by decide +kernel
theorem fX1_goBack_83 : zf mX1_goBack 83 = some (.getfield 12, 3, 86) := by decide +kernel
theorem fX1_goBack_86 : zf mX1_goBack 86 = some (.iload_n 1, 1, 87) := by decide +kernel
theorem fX1_goBack_87 : zf mX1_goBack 87 = some (.invokevirtual 68, 3, 90) := by decide +kernel
theorem fX1_goBack_90 : zf mX1_goBack 90 = some (.ireturn, 1, 91) := by decide +kernel
theorem fX1_letGoBy_0 : zf mX1_letGoBy 0 = some (.iload_n 1, 1, 1) := by decide +kernel
theorem fX1_letGoBy_1 : zf mX1_letGoBy 1 = some (.iconst 1, 1, 2) := by decide +kernel
theorem fX1_letGoBy_2 : zf mX1_letGoBy 2 = some (.if_icmp .lt 9, 3, 5) := by decide +kernel
theorem fX1_letGoBy_5 : zf mX1_letGoBy 5 = some (.iload_n 1, 1, 6) := by decide +kernel
theorem fX1_letGoBy_6 : zf mX1_letGoBy 6 = some (.bipush 99, 2, 8) := by decide +kernel
theorem fX1_letGoBy_8 : zf mX1_letGoBy 8 = some (.if_icmp .le 13, 3, 11) := by decide +kernel
theorem fX1_letGoBy_11 : zf mX1_letGoBy 11 = some (.aload_n 0, 1, 12) := by decide +kernel
theorem fX1_letGoBy_12 : zf mX1_letGoBy 12 = some (.getfield 21, 3, 15) := by decide +kernel
theorem fX1_letGoBy_15 : zf mX1_letGoBy 15 = some (.iconst 1, 1, 16) := by decide +kernel
theorem fX1_letGoBy_16 : zf mX1_letGoBy 16 = some (.iconst 0, 1, 17) := by decide +kernel
theorem fX1_letGoBy_17 : zf mX1_letGoBy 17 = some (.invokevirtual 65, 3, 20) := by decide +kernel
theorem fX1_letGoBy_20 : zf mX1_letGoBy 20 = some (.ireturn, 1, 21) := by decide +kernel
theorem fX1_letGoBy_21 : zf mX1_letGoBy 21 = some (.aload_n 0, 1, 22) := by decide +kernel
theorem fX1_letGoBy_22 : zf mX1_letGoBy 22 = some (.getfield 12, 3, 25) := by decide +kernel
theorem fX1_letGoBy_25 : zf mX1_letGoBy 25 = some (.getfield 80, 3, 28) := by decide +kernel
theorem fX1_letGoBy_28 : zf mX1_letGoBy 28 = some (.iload_n 1, 1, 29) := by decide +kernel
theorem fX1_letGoBy_29 : zf mX1_letGoBy 29 = some (.iadd, 1, 30) := by decide +kernel
theorem fX1_letGoBy_30 : zf mX1_letGoBy 30 = some (.bipush 99, 2, 32) := by decide +kernel
theorem fX1_letGoBy_32 : zf mX1_letGoBy 32 = some (.if_icmp .le 25, 3, 35) := by decide +kernel
theorem fX1_letGoBy_35 : zf mX1_letGoBy 35 = some (.aload_n 0, 1, 36) := by decide +kernel
theorem fX1_letGoBy_36 : zf mX1_letGoBy 36 = some (.getfield 21, 3, 39) := by decide +kernel
theorem fX1_letGoBy_39 : zf mX1_letGoBy 39 = some (.bipush 8, 2, 41) := by decide +kernel
theorem fX1_letGoBy_41 : zf mX1_letGoBy 41 = some (.aload_n 0, 1, 42) := by decide +kernel
theorem fX1_letGoBy_42 : zf mX1_letGoBy 42 = some (.getfield 12, 3, 45) := by decide +kernel
theorem fX1_letGoBy_45 : zf mX1_letGoBy 45 = some (.getfield 80, 3, 48) := by decide +kernel
theorem fX1_letGoBy_48 : zf mX1_letGoBy 48 = some (.iload_n 1, 1, 49) := by decide +kernel
theorem fX1_letGoBy_49 : zf mX1_letGoBy 49 = some (.iadd, 1, 50) := by decide +kernel
theorem fX1_letGoBy_50 : zf mX1_letGoBy 50 = some (.bipush 99, 2, 52) := by decide +kernel
theorem fX1_letGoBy_52 : zf mX1_letGoBy 52 = some (.isub, 1, 53) := by decide +kernel
theorem fX1_letGoBy_53 : zf mX1_letGoBy 53 = some (.invokevirtual 65, 3, 56) := by decide +kernel
theorem fX1_letGoBy_56 : zf mX1_letGoBy 56 = some (.ireturn, 1, 57) := by decide +kernel
theorem fX1_letGoBy_57 : zf mX1_letGoBy 57 = some (.aload_n 0, 1, 58) := by decide +kernel
theorem fX1_letGoBy_58 : zf mX1_letGoBy 58 = some (.getfield 12, 3, 61) := by decide +kernel
theorem fX1_letGoBy_61 : zf mX1_letGoBy 61 = some (.dup, 1, 62) := by decide +kernel
theorem fX1_letGoBy_62 : zf mX1_letGoBy 62 = some (.getfield 80, 3, 65) := by decide +kernel
theorem fX1_letGoBy_65 : zf mX1_letGoBy 65 = some (.iload_n 1, 1, 66) := by decide +kernel
theorem fX1_letGoBy_66 : zf mX1_letGoBy 66 = some (.iadd, 1, 67) := by decide +kernel
theorem fX1_letGoBy_67 : zf mX1_letGoBy 67 = some (.putfield 80, 3, 70) := by decide +kernel
theorem fX1_letGoBy_70 : zf mX1_letGoBy 70 = some (.aload_n 0, 1, 71) := by decide +kernel
theorem fX1_letGoBy_71 : zf mX1_letGoBy 71 = some (.getfield 12, 3, 74) := by decide +kernel
theorem fX1_letGoBy_74 : zf mX1_letGoBy 74 = some (.getfield 80, 3, 77) := by decide +kernel
theorem fX1_letGoBy_77 : zf mX1_letGoBy 77 = some (.ireturn, 1, 78) := by decide +kernel
theorem fX2_init_0 : zf mX2_init 0 = some (.aload_n 0, 1, 1) := by decide +kernel
theorem fX2_init_1 : zf mX2_init 1 = some (.invokespecial 3, 3, 4) := by decide +kernel
theorem fX2_init_4 : zf mX2_init 4 = some (.aload_n 0, 1, 5) := by decide +kernel
theorem fX2_init_5 : zf mX2_init 5 = some (.bipush 60, 2, 7) := by decide +kernel
theorem fX2_init_7 : zf mX2_init 7 = some (.newarray .char, 2, 9) := by decide +kernel
theorem fX2_init_9 : zf mX2_init 9 = some (.putfield 9, 3, 12) := by decide +kernel
theorem fX2_init_12 : zf mX2_init 12 = some (.aload_n 0, 1, 13) := by decide +kernel
theorem fX2_init_13 : zf mX2_init 13 = some (.iconst 0, 1, 14) := by decide +kernel
theorem fX2_init_14 : zf mX2_init 14 = some (.putfield 15, 3, 17) := by decide +kernel
theorem fX2_init_17 : zf mX2_init 17 = some (.aload_n 0, 1, 18) := by decide +kernel
theorem fX2_init_18 : zf mX2_init 18 = some (.iconst 0, 1, 19) := by decide +kernel
theorem fX2_init_19 : zf mX2_init 19 = some (.putfield 19, 3, 22) := by decide +kernel
theorem fX2_init_22 : zf mX2_init 22 = some (.aload_n 0, 1, 23) := by decide +kernel
theorem fX2_init_23 : zf mX2_init 23 = some (.bipush 32, 2, 25) := by decide +kernel
theorem fX2_init_25 : zf mX2_init 25 = some (.putfield 22, 3, 28) := by decide +kernel
theorem fX2_init_28 : zf mX2_init 28 = some (.aload_n 0, 1, 29) := by decide +kernel
theorem fX2_init_29 : zf mX2_init 29 = some (.iconst 4, 1, 30) := by decide +kernel
theorem fX2_init_30 : zf mX2_init 30 = some (.newarray .int, 2, 32) := by decide +kernel
theorem fX2_init_32 : zf mX2_init 32 = some (.putfield 26, 3, 35) := by decide +kernel
theorem fX2_init_35 : zf mX2_init 35 = some (.return_, 1, 36) := by decide +kernel
theorem fX2_size_0 : zf mX2_size 0 = some (.aload_n 0, 1, 1) := by decide +kernel
theorem fX2_size_1 : zf mX2_size 1 = some (.getfield 15, 3, 4) := by decide +kernel
theorem fX2_size_4 : zf mX2_size 4 = some (.ireturn, 1, 5) := by decide +kernel
theorem fX2_isFull_0 : zf mX2_isFull 0 = some (.aload_n 0, 1, 1) := by decide +kernel
theorem fX2_isFull_1 : zf mX2_isFull 1 = some (.getfield 15, 3, 4) := by decide +kernel
theorem fX2_isFull_4 : zf mX2_isFull 4 = some (.bipush 60, 2, 6) := by decide +kernel
theorem fX2_isFull_6 : zf mX2_isFull 6 = some (.if_icmp .lt 7, 3, 9) := by decide +kernel
theorem fX2_isFull_9 : zf mX2_isFull 9 = some (.iconst 1, 1, 10) := by decide +kernel
theorem fX2_isFull_10 : zf mX2_isFull 10 = some (.goto 4, 3, 13) := by decide +kernel
theorem fX2_isFull_13 : zf mX2_isFull 13 = some (.iconst 0, 1, 14) := by decide +kernel
theorem fX2_isFull_14 : zf mX2_isFull 14 = some (.ireturn, 1, 15) := by decide +kernel
theorem fX2_put_0 : zf mX2_put 0 = some (.aload_n 0, 1, 1) := by decide +kernel
theorem fX2_put_1 : zf mX2_put 1 = some (.invokevirtual 30, 3, 4) := by decide +kernel
theorem fX2_put_4 : zf mX2_put 4 = some (.ifCond .ne 23, 3, 7) := by decide +kernel
theorem fX2_put_7 : zf mX2_put 7 = some (.aload_n 0, 1, 8) := by decide +kernel
theorem fX2_put_8 : zf mX2_put 8 = some (.getfield 9, 3, 11) := by decide +kernel
theorem fX2_put_11 : zf mX2_put 11 = some (.aload_n 0, 1, 12) := by decide +kernel
theorem fX2_put_12 : zf mX2_put 12 = some (.getfield 15, 3, 15) := by decide +kernel
theorem fX2_put_15 : zf mX2_put 15 = some (.iload_n 1, 1, 16) := by decide +kernel
theorem fX2_put_16 : zf mX2_put 16 = some (.castore, 1, 17) := by decide +kernel
theorem fX2_put_17 : zf mX2_put 17 = some (.aload_n 0, 1, 18) := by decide +kernel
theorem fX2_put_18 : zf mX2_put 18 = some (.dup, 1, 19) := by decide +kernel
theorem fX2_put_19 : zf mX2_put 19 = some (.getfield 15, 3, 22) := by decide +kernel
theorem fX2_put_22 : zf mX2_put 22 = some (.iconst 1, 1, 23) := by decide +kernel
theorem fX2_put_23 : zf mX2_put 23 = some (.iadd, 1, 24) := by decide +kernel
theorem fX2_put_24 : zf mX2_put 24 = some (.putfield 15, 3, 27) := by decide +kernel
theorem fX2_put_27 : zf mX2_put 27 = some (.return_, 1, 28) := by decide +kernel
theorem fX2_clear_0 : zf mX2_clear 0 = some (.aload_n 0, 1, 1) := by decide +kernel
theorem fX2_clear_1 : zf mX2_clear 1 = some (.iconst 0, 1, 2) := by decide +kernel
theorem fX2_clear_2 : zf mX2_clear 2 = some (.putfield 15, 3, 5) := by decide +kernel
theorem fX2_clear_5 : zf mX2_clear 5 = some (.return_, 1, 6) := by decide +kernel
theorem fX2_rewind_0 : zf mX2_rewind 0 = some (.aload_n 0, 1, 1) := by decide +kernel
theorem fX2_rewind_1 : zf mX2_rewind 1 = some (.iconst 0, 1, 2) := by decide +kernel
theorem fX2_rewind_2 : zf mX2_rewind 2 = some (.putfield 19, 3, 5) := by decide +kernel
theorem fX2_rewind_5 : zf mX2_rewind 5 = some (.return_, 1, 6) := by decide +kernel
theorem fX2_kind_0 : zf mX2_kind 0 = some (.aload_n 0, 1, 1) := by decide +kernel
theorem fX2_kind_1 : zf mX2_kind 1 = some (.getfield 22, 3, 4) := by decide +kernel
theorem fX2_kind_4 : zf mX2_kind 4 = some (.ireturn, 1, 5) := by decide +kernel
theorem fX2_number_0 : zf mX2_number 0 = some (.iload_n 1, 1, 1) := by decide +kernel
theorem fX2_number_1 : zf mX2_number 1 = some (.ifCond .lt 17, 3, 4) := by decide +kernel
theorem fX2_number_4 : zf mX2_number 4 = some (.iload_n 1, 1, 5) := by decide +kernel
theorem fX2_number_5 : zf mX2_number 5 = some (.iconst 4, 1, 6) := by decide +kernel
theorem fX2_number_6 : zf mX2_number 6 = some (.if_icmp .ge 12, 3, 9) := by decide +kernel
theorem fX2_number_9 : zf mX2_number 9 = some (.aload_n 0, 1, 10) := by decide +kernel
theorem fX2_number_10 : zf mX2_number 10 = some (.getfield 26, 3, 13) := by decide +kernel
theorem fX2_number_13 : zf mX2_number 13 = some (.iload_n 1, 1, 14) := by decide +kernel
theorem fX2_number_14 : zf mX2_number 14 = some (.iaload, 1, 15) := by decide +kernel
theorem fX2_number_15 : zf mX2_number 15 = some (.goto 4, 3, 18) := by decide +kernel
theorem fX2_number_18 : zf mX2_number 18 = some (.iconst 0, 1, 19) := by decide +kernel
theorem fX2_number_19 : zf mX2_number 19 = some (.ireturn, 1, 20) := by decide +kernel
theorem fX2_findFault_0 : zf mX2_findFault 0 = some (.aload_n 0, 1, 1) := by decide +kernel
theorem fX2_findFault_1 : zf mX2_findFault 1 = some (.invokevirtual 34, 3, 4) := by decide +kernel
theorem fX2_findFault_4 : zf mX2_findFault 4 = some (.iconst 0, 1, 5) := by decide +kernel
theorem fX2_findFault_5 : zf mX2_findFault 5 = some (.istore_n 1, 1, 6) := by decide +kernel
theorem fX2_findFault_6 : zf mX2_findFault 6 = some (.iload_n 1, 1, 7) := by decide +kernel
theorem fX2_findFault_7 : zf mX2_findFault 7 = some (.bipush 60, 2, 9) := by decide +kernel
theorem fX2_findFault_9 : zf mX2_findFault 9 = some (.if_icmp .ge 48, 3, 12) := by decide +kernel
theorem fX2_findFault_12 : zf mX2_findFault 12 = some (.aload_n 0, 1, 13) := by decide +kernel
theorem fX2_findFault_13 : zf mX2_findFault 13 = some (.invokevirtual 37, 3, 16) := by decide +kernel
theorem fX2_findFault_16 : zf mX2_findFault 16 = some (.ifCond .ne 8, 3, 19) := by decide +kernel
theorem fX2_findFault_19 : zf mX2_findFault 19 = some (.aload_n 0, 1, 20) := by decide +kernel
theorem fX2_findFault_20 : zf mX2_findFault 20 = some (.getfield 19, 3, 23) := by decide +kernel
theorem fX2_findFault_23 : zf mX2_findFault 23 = some (.ireturn, 1, 24) := by decide +kernel
theorem fX2_findFault_24 : zf mX2_findFault 24 = some (.aload_n 0, 1, 25) := by decide +kernel
theorem fX2_findFault_25 : zf mX2_findFault 25 = some (.getfield 19, 3, 28) := by decide +kernel
theorem fX2_findFault_28 : zf mX2_findFault 28 = some (.aload_n 0, 1, 29) := by decide +kernel
theorem fX2_findFault_29 : zf mX2_findFault 29 = some (.getfield 15, 3, 32) := by decide +kernel
theorem fX2_findFault_32 : zf mX2_findFault 32 = some (.if_icmp .lt 5, 3, 35) := by decide +kernel
theorem fX2_findFault_35 : zf mX2_findFault 35 = some (.iconst (-1), 1, 36) := by decide +kernel
theorem fX2_findFault_36 : zf mX2_findFault 36 = some (.ireturn, 1, 37) := by decide +kernel
theorem fX2_findFault_37 : zf mX2_findFault 37 = some (.aload_n 0, 1, 38) := by decide +kernel
theorem fX2_findFault_38 : zf mX2_findFault 38 = some (.bipush 59, 2, 40) := by decide +kernel
theorem fX2_findFault_40 : zf mX2_findFault 40 = some (.invokevirtual 40, 3, 43) := by decide +kernel
theorem fX2_findFault_43 : zf mX2_findFault 43 = some (.ifCond .ne 8, 3, 46) := by decide +kernel
theorem fX2_findFault_46 : zf mX2_findFault 46 = some (.aload_n 0, 1, 47) := by decide +kernel
theorem fX2_findFault_47 : zf mX2_findFault 47 = some (.getfield 19, 3, 50) := by decide +kernel
theorem fX2_findFault_50 : zf mX2_findFault 50 = some (.ireturn, 1, 51) := by decide +kernel
theorem fX2_findFault_51 : zf mX2_findFault 51 = some (.iinc 1 1, 3, 54) := by decide +kernel
theorem fX2_findFault_54 : zf mX2_findFault 54 = some (.goto (-48), 3, 57) := by decide +kernel
theorem fX2_findFault_57 : zf mX2_findFault 57 = some (.aload_n 0, 1, 58) := by decide +kernel
theorem fX2_findFault_58 : zf mX2_findFault 58 = some (.getfield 19, 3, 61) := by decide +kernel
theorem fX2_findFault_61 : zf mX2_findFault 61 = some (.ireturn, 1, 62) := by decide +kernel
theorem fX2_readCommand_0 : zf mX2_readCommand 0 = some (.aload_n 0, 1, 1) := by decide +kernel
theorem fX2_readCommand_1 : zf mX2_readCommand 1 = some (.invokevirtual 44, 3, 4) := by decide +kernel
theorem fX2_readCommand_4 : zf mX2_readCommand 4 = some (.istore_n 1, 1, 5) := by decide +kernel
theorem fX2_readCommand_5 : zf mX2_readCommand 5 = some (.iload_n 1, 1, 6) := by decide +kernel
theorem fX2_readCommand_6 : zf mX2_readCommand 6 = some (.invokestatic 48, 3, 9) := by decide +kernel
theorem fX2_readCommand_9 : zf mX2_readCommand 9 = some (.astore_n 2, 1, 10) := by decide +kernel
theorem fX2_readCommand_10 : zf mX2_readCommand 10 = some (.aload_n 2, 1, 11) := by decide +kernel
theorem fX2_readCommand_11 : zf mX2_readCommand 11 = some (.invokevirtual 52, 3, 14) := by decide +kernel
theorem fX2_readCommand_14 : zf mX2_readCommand 14 = some (.ifCond .eq 5, 3, 17) := by decide +kernel
theorem fX2_readCommand_17 : zf mX2_readCommand 17 = some (.iconst 0, 1, 18) := by decide +kernel
theorem fX2_readCommand_18 : zf mX2_readCommand 18 = some (.ireturn, 1, 19) := by decide +kernel
theorem fX2_readCommand_19 : zf mX2_readCommand 19 = some (.aload_n 0, 1, 20) := by decide +kernel
theorem fX2_readCommand_20 : zf mX2_readCommand 20 = some (.iload_n 1, 1, 21) := by decide +kernel
theorem fX2_readCommand_21 : zf mX2_readCommand 21 = some (.putfield 22, 3, 24) := by decide +kernel
theorem fX2_readCommand_24 : zf mX2_readCommand 24 = some (.aload_n 0, 1, 25) := by decide +kernel
theorem fX2_readCommand_25 : zf mX2_readCommand 25 = some (.dup, 1, 26) := by decide +kernel
theorem fX2_readCommand_26 : zf mX2_readCommand 26 = some (.getfield 19, 3, 29) := by decide +kernel
theorem fX2_readCommand_29 : zf mX2_readCommand 29 = some (.iconst 1, 1, 30) := by decide +kernel
theorem fX2_readCommand_30 : zf mX2_readCommand 30 = some (.iadd, 1, 31) := by decide +kernel
theorem fX2_readCommand_31 : zf mX2_readCommand 31 = some (.putfield 19, 3, 34) := by decide +kernel
theorem fX2_readCommand_34 : zf mX2_readCommand 34 = some (.iconst 0, 1, 35) := by decide +kernel
theorem fX2_readCommand_35 : zf mX2_readCommand 35 = some (.istore_n 3, 1, 36) := by decide +kernel
theorem fX2_readCommand_36 : zf mX2_readCommand 36 = some (.iconst 0, 1, 37) := by decide +kernel
theorem fX2_readCommand_37 : zf mX2_readCommand 37 = some (.istore 4, 2, 39) := by decide +kernel
theorem fX2_readCommand_39 : zf mX2_readCommand 39 = some (.iload 4, 2, 41) := by decide +kernel
theorem fX2_readCommand_41 : zf mX2_readCommand 41 = some (.aload_n 2, 1, 42) := by decide +kernel
theorem fX2_readCommand_42 : zf mX2_readCommand 42 = some (.invokevirtual 57, 3, 45) := by decide +kernel
theorem fX2_readCommand_45 : zf mX2_readCommand 45 = some (.if_icmp .ge 57, 3, 48) := by decide +kernel
theorem fX2_readCommand_48 : zf mX2_readCommand 48 = some (.aload_n 2, 1, 49) := by decide +kernel
theorem fX2_readCommand_49 : zf mX2_readCommand 49 = some (.iload 4, 2, 51) := by decide +kernel
theorem fX2_readCommand_51 : zf mX2_readCommand 51 = some (.invokevirtual 60, 3, 54) := by decide +kernel
theorem fX2_readCommand_54 : zf mX2_readCommand 54 = some (.istore 5, 2, 56) := by decide +kernel
theorem fX2_readCommand_56 : zf mX2_readCommand 56 = some (.iload 5, 2, 58) := by decide +kernel
theorem fX2_readCommand_58 : zf mX2_readCommand 58 = some (.invokestatic 64, 3, 61) := by decide +kernel
theorem fX2_readCommand_61 : zf mX2_readCommand 61 = some (.ifCond .eq 24, 3, 64) := by decide +kernel
theorem fX2_readCommand_64 : zf mX2_readCommand 64 = some (.aload_n 0, 1, 65) := by decide +kernel
theorem fX2_readCommand_65 : zf mX2_readCommand 65 = some (.iload_n 3, 1, 66) := by decide +kernel
theorem fX2_readCommand_66 : zf mX2_readCommand 66 = some (.iload 5, 2, 68) := by decide +kernel
theorem fX2_readCommand_68 : zf mX2_readCommand 68 = some (.bipush 48, 2, 70) := by decide +kernel
theorem fX2_readCommand_70 : zf mX2_readCommand 70 = some (.isub, 1, 71) := by decide +kernel
theorem fX2_readCommand_71 : zf mX2_readCommand 71 = some (.invokevirtual 67, 3, 74) := by decide +kernel
theorem fX2_readCommand_74 : zf mX2_readCommand 74 = some (.ifCond .ne 5, 3, 77) := by decide +kernel
theorem fX2_readCommand_77 : zf mX2_readCommand 77 = some (.iconst 0, 1, 78) := by decide +kernel
theorem fX2_readCommand_78 : zf mX2_readCommand 78 = some (.ireturn, 1, 79) := by decide +kernel
theorem fX2_readCommand_79 : zf mX2_readCommand 79 = some (.iinc 3 1, 3, 82) := by decide +kernel
theorem fX2_readCommand_82 : zf mX2_readCommand 82 = some (.goto 14, 3, 85) := by decide +kernel
theorem fX2_readCommand_85 : zf mX2_readCommand 85 = some (.aload_n 0, 1, 86) := by decide +kernel
theorem fX2_readCommand_86 : zf mX2_readCommand 86 = some (.iload 5, 2, 88) := by decide +kernel
theorem fX2_readCommand_88 : zf mX2_readCommand 88 = some (.invokevirtual 40, 3, 91) := by decide +kernel
theorem fX2_readCommand_91 : zf mX2_readCommand 91 = some (.ifCond .ne 5, 3, 94) := by decide +kernel
theorem fX2_readCommand_94 : zf mX2_readCommand 94 = some (.iconst 0, 1, 95) := by decide +kernel
theorem fX2_readCommand_95 : zf mX2_readCommand 95 = some (.ireturn, 1, 96) := by decide +kernel
theorem fX2_readCommand_96 : zf mX2_readCommand 96 = some (.iinc 4 1, 3, 99) := by decide +kernel
theorem fX2_readCommand_99 : zf mX2_readCommand 99 = some (.goto (-60), 3, 102) := by decide +kernel
theorem fX2_readCommand_102 : zf mX2_readCommand 102 = some (.iconst 1, 1, 103) := by decide +kernel
theorem fX2_readCommand_103 : zf mX2_readCommand 103 = some (.ireturn, 1, 104) := by decide +kernel
theorem fX2_readSign_0 : zf mX2_readSign 0 = some (.aload_n 0, 1, 1) := by decide +kernel
theorem fX2_readSign_1 : zf mX2_readSign 1 = some (.invokevirtual 44, 3, 4) := by decide +kernel
theorem fX2_readSign_4 : zf mX2_readSign 4 = some (.iload_n 1, 1, 5) := by decide +kernel
theorem fX2_readSign_5 : zf mX2_readSign 5 = some (.if_icmp .eq 5, 3, 8) := by decide +kernel
theorem fX2_readSign_8 : zf mX2_readSign 8 = some (.iconst 0, 1, 9) := by decide +kernel
theorem fX2_readSign_9 : zf mX2_readSign 9 = some (.ireturn, 1, 10) := by decide +kernel
theorem fX2_readSign_10 : zf mX2_readSign 10 = some (.aload_n 0, 1, 11) := by decide +kernel
theorem fX2_readSign_11 : zf mX2_readSign 11 = some (.dup, 1, 12) := by decide +kernel
theorem fX2_readSign_12 : zf mX2_readSign 12 = some (.getfield 19, 3, 15) := by decide +kernel
theorem fX2_readSign_15 : zf mX2_readSign 15 = some (.iconst 1, 1, 16) := by decide +kernel
theorem fX2_readSign_16 : zf mX2_readSign 16 = some (.iadd, 1, 17) := by decide +kernel
theorem fX2_readSign_17 : zf mX2_readSign 17 = some (.putfield 19, 3, 20) := by decide +kernel
theorem fX2_readSign_20 : zf mX2_readSign 20 = some (.iconst 1, 1, 21) := by decide +kernel
theorem fX2_readSign_21 : zf mX2_readSign 21 = some (.ireturn, 1, 22) := by decide +kernel
theorem fX2_readNumber_0 : zf mX2_readNumber 0 = some (.iconst 0, 1, 1) := by decide +kernel
theorem fX2_readNumber_1 : zf mX2_readNumber 1 = some (.istore_n 3, 1, 2) := by decide +kernel
theorem fX2_readNumber_2 : zf mX2_readNumber 2 = some (.iconst 0, 1, 3) := by decide +kernel
theorem fX2_readNumber_3 : zf mX2_readNumber 3 = some (.istore 4, 2, 5) := by decide +kernel
theorem fX2_readNumber_5 : zf mX2_readNumber 5 = some (.iload 4, 2, 7) := by decide +kernel
theorem fX2_readNumber_7 : zf mX2_readNumber 7 = some (.iload_n 2, 1, 8) := by decide +kernel
theorem fX2_readNumber_8 : zf mX2_readNumber 8 = some (.if_icmp .ge 42, 3, 11) := by decide +kernel
theorem fX2_readNumber_11 : zf mX2_readNumber 11 = some (.aload_n 0, 1, 12) := by decide +kernel
theorem fX2_readNumber_12 : zf mX2_readNumber 12 = some (.invokevirtual 44, 3, 15) := by decide +kernel
theorem fX2_readNumber_15 : zf mX2_readNumber 15 = some (.invokestatic 64, 3, 18) := by decide +kernel
theorem fX2_readNumber_18 : zf mX2_readNumber 18 = some (.ifCond .eq 32, 3, 21) := by decide +kernel
theorem fX2_readNumber_21 : zf mX2_readNumber 21 = some (.bipush 10, 2, 23) := by decide +kernel
theorem fX2_readNumber_23 : zf mX2_readNumber 23 = some (.iload_n 3, 1, 24) := by decide +kernel
theorem fX2_readNumber_24 : zf mX2_readNumber 24 = some (.imul, 1, 25) := by decide +kernel
theorem fX2_readNumber_25 : zf mX2_readNumber 25 = some (.aload_n 0, 1, 26) := by decide +kernel
theorem fX2_readNumber_26 : zf mX2_readNumber 26 = some (.invokevirtual 44, 3, 29) := by decide +kernel
theorem fX2_readNumber_29 : zf mX2_readNumber 29 = some (.bipush 48, 2, 31) := by decide +kernel
theorem fX2_readNumber_31 : zf mX2_readNumber 31 = some (.isub, 1, 32) := by decide +kernel
theorem fX2_readNumber_32 : zf mX2_readNumber 32 = some (.iadd, 1, 33) := by decide +kernel
theorem fX2_readNumber_33 : zf mX2_readNumber 33 = some (.istore_n 3, 1, 34) := by decide +kernel
theorem fX2_readNumber_34 : zf mX2_readNumber 34 = some (.iinc 4 1, 3, 37) := by decide +kernel
theorem fX2_readNumber_37 : zf mX2_readNumber 37 = some (.aload_n 0, 1, 38) := by decide +kernel
theorem fX2_readNumber_38 : zf mX2_readNumber 38 = some (.dup, 1, 39) := by decide +kernel
theorem fX2_readNumber_39 : zf mX2_readNumber 39 = some (.getfield 19, 3, 42) := by decide +kernel
theorem fX2_readNumber_42 : zf mX2_readNumber 42 = some (.iconst 1, 1, 43) := by decide +kernel
theorem fX2_readNumber_43 : zf mX2_readNumber 43 = some (.iadd, 1, 44) := by decide +kernel
theorem fX2_readNumber_44 : zf mX2_readNumber 44 = some (.putfield 19, 3, 47) := by decide +kernel
theorem fX2_readNumber_47 : zf mX2_readNumber 47 = some (.goto (-42), 3, 50) := by decide +kernel
theorem fX2_readNumber_50 : zf mX2_readNumber 50 = some (.iload_n 1, 1, 51) := by decide +kernel
theorem fX2_readNumber_51 : zf mX2_readNumber 51 = some (.ifCond .lt 15, 3, 54) := by decide +kernel
theorem fX2_readNumber_54 : zf mX2_readNumber 54 = some (.iload_n 1, 1, 55) := by decide +kernel
theorem fX2_readNumber_55 : zf mX2_readNumber 55 = some (.iconst 4, 1, 56) := by decide +kernel
theorem fX2_readNumber_56 : zf mX2_readNumber 56 = some (.if_icmp .ge 10, 3, 59) := by decide +kernel
theorem fX2_readNumber_59 : zf mX2_readNumber 59 = some (.aload_n 0, 1, 60) := by decide +kernel
theorem fX2_readNumber_60 : zf mX2_readNumber 60 = some (.getfield 26, 3, 63) := by decide +kernel
theorem fX2_readNumber_63 : zf mX2_readNumber 63 = some (.iload_n 1, 1, 64) := by decide +kernel
theorem fX2_readNumber_64 : zf mX2_readNumber 64 = some (.iload_n 3, 1, 65) := by decide +kernel
theorem fX2_readNumber_65 : zf mX2_readNumber 65 = some (.iastore, 1, 66) := by decide +kernel
theorem fX2_readNumber_66 : zf mX2_readNumber 66 = some (.iload 4, 2, 68) := by decide +kernel
theorem fX2_readNumber_68 : zf mX2_readNumber 68 = some (.ifCond .le 7, 3, 71) := by decide +kernel
theorem fX2_readNumber_71 : zf mX2_readNumber 71 = some (.iconst 1, 1, 72) := by decide +kernel
theorem fX2_readNumber_72 : zf mX2_readNumber 72 = some (.goto 4, 3, 75) := by decide +kernel
theorem fX2_readNumber_75 : zf mX2_readNumber 75 = some (.iconst 0, 1, 76) := by decide +kernel
theorem fX2_readNumber_76 : zf mX2_readNumber 76 = some (.ireturn, 1, 77) := by decide +kernel
theorem fX2_signAhead_0 : zf mX2_signAhead 0 = some (.aload_n 0, 1, 1) := by decide +kernel
theorem fX2_signAhead_1 : zf mX2_signAhead 1 = some (.getfield 19, 3, 4) := by decide +kernel
theorem fX2_signAhead_4 : zf mX2_signAhead 4 = some (.ifCond .lt 35, 3, 7) := by decide +kernel
theorem fX2_signAhead_7 : zf mX2_signAhead 7 = some (.aload_n 0, 1, 8) := by decide +kernel
theorem fX2_signAhead_8 : zf mX2_signAhead 8 = some (.getfield 19, 3, 11) := by decide +kernel
theorem fX2_signAhead_11 : zf mX2_signAhead 11 = some (.aload_n 0, 1, 12) := by decide +kernel
theorem fX2_signAhead_12 : zf mX2_signAhead 12 = some (.getfield 15, 3, 15) := by decide +kernel
theorem fX2_signAhead_15 : zf mX2_signAhead 15 = some (.if_icmp .ge 24, 3, 18) := by decide +kernel
theorem fX2_signAhead_18 : zf mX2_signAhead 18 = some (.aload_n 0, 1, 19) := by decide +kernel
theorem fX2_signAhead_19 : zf mX2_signAhead 19 = some (.getfield 19, 3, 22) := by decide +kernel
theorem fX2_signAhead_22 : zf mX2_signAhead 22 = some (.bipush 60, 2, 24) := by decide +kernel
theorem fX2_signAhead_24 : zf mX2_signAhead 24 = some (.if_icmp .ge 15, 3, 27) := by decide +kernel
theorem fX2_signAhead_27 : zf mX2_signAhead 27 = some (.aload_n 0, 1, 28) := by decide +kernel
theorem fX2_signAhead_28 : zf mX2_signAhead 28 = some (.getfield 9, 3, 31) := by decide +kernel
theorem fX2_signAhead_31 : zf mX2_signAhead 31 = some (.aload_n 0, 1, 32) := by decide +kernel
theorem fX2_signAhead_32 : zf mX2_signAhead 32 = some (.getfield 19, 3, 35) := by decide +kernel
theorem fX2_signAhead_35 : zf mX2_signAhead 35 = some (.caload, 1, 36) := by decide +kernel
theorem fX2_signAhead_36 : zf mX2_signAhead 36 = some (.goto 4, 3, 39) := by decide +kernel
theorem fX2_signAhead_39 : zf mX2_signAhead 39 = some (.iconst 0, 1, 40) := by decide +kernel
theorem fX2_signAhead_40 : zf mX2_signAhead 40 = some (.ireturn, 1, 41) := by decide +kernel
theorem fX2_formOf_0 : zf mX2_formOf 0 = some (.iload_n 0, 1, 1) := by decide +kernel
theorem fX2_formOf_1 : zf mX2_formOf 1 = some (.lookupswitch 66 #[(98, 60), (102, 57), (103, 54), (119, 51), (121, 63)], 51, 52) := by decide +kernel
theorem fX2_formOf_52 : zf mX2_formOf 52 = some (.ldc 71, 2, 54) := by decide +kernel
theorem fX2_formOf_54 : zf mX2_formOf 54 = some (.areturn, 1, 55) := by decide +kernel
theorem fX2_formOf_55 : zf mX2_formOf 55 = some (.ldc 73, 2, 57) := by decide +kernel
theorem fX2_formOf_57 : zf mX2_formOf 57 = some (.areturn, 1, 58) := by decide +kernel
theorem fX2_formOf_58 : zf mX2_formOf 58 = some (.ldc 75, 2, 60) := by decide +kernel
theorem fX2_formOf_60 : zf mX2_formOf 60 = some (.areturn, 1, 61) := by decide +kernel
theorem fX2_formOf_61 : zf mX2_formOf 61 = some (.ldc 77, 2, 63) := by decide +kernel
theorem fX2_formOf_63 : zf mX2_formOf 63 = some (.areturn, 1, 64) := by decide +kernel
theorem fX2_formOf_64 : zf mX2_formOf 64 = some (.ldc 79, 2, 66) := by decide +kernel
theorem fX2_formOf_66 : zf mX2_formOf 66 = some (.areturn, 1, 67) := by decide +kernel
theorem fX2_formOf_67 : zf mX2_formOf 67 = some (.ldc 81, 2, 69) := by decide +kernel
theorem fX2_formOf_69 : zf mX2_formOf 69 = some (.areturn, 1, 70) := by decide +kernel
theorem fX3_init_0 : zf mX3_init 0 = some (.aload_n 0, 1, 1) := by decide +kernel
theorem fX3_init_1 : zf mX3_init 1 = some (.invokespecial 3, 3, 4) := by decide +kernel
theorem fX3_init_4 : zf mX3_init 4 = some (.aload_n 0, 1, 5) := by decide +kernel
theorem fX3_init_5 : zf mX3_init 5 = some (.bipush 72, 2, 7) := by decide +kernel
theorem fX3_init_7 : zf mX3_init 7 = some (.newarray .int, 2, 9) := by decide +kernel
theorem fX3_init_9 : zf mX3_init 9 = some (.putfield 11, 3, 12) := by decide +kernel
theorem fX3_init_12 : zf mX3_init 12 = some (.aload_n 0, 1, 13) := by decide +kernel
theorem fX3_init_13 : zf mX3_init 13 = some (.iconst 0, 1, 14) := by decide +kernel
theorem fX3_init_14 : zf mX3_init 14 = some (.putfield 17, 3, 17) := by decide +kernel
theorem fX3_init_17 : zf mX3_init 17 = some (.return_, 1, 18) := by decide +kernel
theorem fX3_size_0 : zf mX3_size 0 = some (.aload_n 0, 1, 1) := by decide +kernel
theorem fX3_size_1 : zf mX3_size 1 = some (.getfield 17, 3, 4) := by decide +kernel
theorem fX3_size_4 : zf mX3_size 4 = some (.ireturn, 1, 5) := by decide +kernel
theorem fX3_note_0 : zf mX3_note 0 = some (.aload_n 1, 1, 1) := by decide +kernel
theorem fX3_note_1 : zf mX3_note 1 = some (.aload_n 0, 1, 2) := by decide +kernel
theorem fX3_note_2 : zf mX3_note 2 = some (.getfield 11, 3, 5) := by decide +kernel
theorem fX3_note_5 : zf mX3_note 5 = some (.aload_n 0, 1, 6) := by decide +kernel
theorem fX3_note_6 : zf mX3_note 6 = some (.getfield 17, 3, 9) := by decide +kernel
theorem fX3_note_9 : zf mX3_note 9 = some (.bipush 8, 2, 11) := by decide +kernel
theorem fX3_note_11 : zf mX3_note 11 = some (.imul, 1, 12) := by decide +kernel
theorem fX3_note_12 : zf mX3_note 12 = some (.invokevirtual 21, 3, 15) := by decide +kernel
theorem fX3_note_15 : zf mX3_note 15 = some (.return_, 1, 16) := by decide +kernel
theorem fX3_takeBack_0 : zf mX3_takeBack 0 = some (.aload_n 1, 1, 1) := by decide +kernel
theorem fX3_takeBack_1 : zf mX3_takeBack 1 = some (.aload_n 0, 1, 2) := by decide +kernel
theorem fX3_takeBack_2 : zf mX3_takeBack 2 = some (.getfield 11, 3, 5) := by decide +kernel
theorem fX3_takeBack_5 : zf mX3_takeBack 5 = some (.aload_n 0, 1, 6) := by decide +kernel
theorem fX3_takeBack_6 : zf mX3_takeBack 6 = some (.getfield 17, 3, 9) := by decide +kernel
theorem fX3_takeBack_9 : zf mX3_takeBack 9 = some (.bipush 8, 2, 11) := by decide +kernel
theorem fX3_takeBack_11 : zf mX3_takeBack 11 = some (.imul, 1, 12) := by decide +kernel
theorem fX3_takeBack_12 : zf mX3_takeBack 12 = some (.invokevirtual 25, 3, 15) := by decide +kernel
theorem fX3_takeBack_15 : zf mX3_takeBack 15 = some (.return_, 1, 16) := by decide +kernel
theorem fX3_keep_0 : zf mX3_keep 0 = some (.aload_n 0, 1, 1) := by decide +kernel
theorem fX3_keep_1 : zf mX3_keep 1 = some (.getfield 17, 3, 4) := by decide +kernel
theorem fX3_keep_4 : zf mX3_keep 4 = some (.bipush 8, 2, 6) := by decide +kernel
theorem fX3_keep_6 : zf mX3_keep 6 = some (.if_icmp .ge 16, 3, 9) := by decide +kernel
theorem fX3_keep_9 : zf mX3_keep 9 = some (.aload_n 0, 1, 10) := by decide +kernel
theorem fX3_keep_10 : zf mX3_keep 10 = some (.dup, 1, 11) := by decide +kernel
theorem fX3_keep_11 : zf mX3_keep 11 = some (.getfield 17, 3, 14) := by decide +kernel
theorem fX3_keep_14 : zf mX3_keep 14 = some (.iconst 1, 1, 15) := by decide +kernel
theorem fX3_keep_15 : zf mX3_keep 15 = some (.iadd, 1, 16) := by decide +kernel
theorem fX3_keep_16 : zf mX3_keep 16 = some (.putfield 17, 3, 19) := by decide +kernel
theorem fX3_keep_19 : zf mX3_keep 19 = some (.goto 19, 3, 22) := by decide +kernel
theorem fX3_keep_22 : zf mX3_keep 22 = some (.aload_n 0, 1, 23) := by decide +kernel
theorem fX3_keep_23 : zf mX3_keep 23 = some (.getfield 11, 3, 26) := by decide +kernel
theorem fX3_keep_26 : zf mX3_keep 26 = some (.bipush 8, 2, 28) := by decide +kernel
theorem fX3_keep_28 : zf mX3_keep 28 = some (.aload_n 0, 1, 29) := by decide +kernel
theorem fX3_keep_29 : zf mX3_keep 29 = some (.getfield 11, 3, 32) := by decide +kernel
theorem fX3_keep_32 : zf mX3_keep 32 = some (.iconst 0, 1, 33) := by decide +kernel
theorem fX3_keep_33 : zf mX3_keep 33 = some (.bipush 64, 2, 35) := by decide +kernel
theorem fX3_keep_35 : zf mX3_keep 35 = some (.invokestatic 28, 3, 38) := by decide +kernel
theorem fX3_keep_38 : zf mX3_keep 38 = some (.return_, 1, 39) := by decide +kernel
theorem fX3_dropLatest_0 : zf mX3_dropLatest 0 = some (.aload_n 0, 1, 1) := by decide +kernel
theorem fX3_dropLatest_1 : zf mX3_dropLatest 1 = some (.getfield 17, 3, 4) := by decide +kernel
theorem fX3_dropLatest_4 : zf mX3_dropLatest 4 = some (.ifCond .le 13, 3, 7) := by decide +kernel
theorem fX3_dropLatest_7 : zf mX3_dropLatest 7 = some (.aload_n 0, 1, 8) := by decide +kernel
theorem fX3_dropLatest_8 : zf mX3_dropLatest 8 = some (.dup, 1, 9) := by decide +kernel
theorem fX3_dropLatest_9 : zf mX3_dropLatest 9 = some (.getfield 17, 3, 12) := by decide +kernel
theorem fX3_dropLatest_12 : zf mX3_dropLatest 12 = some (.iconst 1, 1, 13) := by decide +kernel
theorem fX3_dropLatest_13 : zf mX3_dropLatest 13 = some (.isub, 1, 14) := by decide +kernel
theorem fX3_dropLatest_14 : zf mX3_dropLatest 14 = some (.putfield 17, 3, 17) := by decide +kernel
theorem fX3_dropLatest_17 : zf mX3_dropLatest 17 = some (.return_, 1, 18) := by decide +kernel
theorem fX3_forget_0 : zf mX3_forget 0 = some (.aload_n 0, 1, 1) := by decide +kernel
theorem fX3_forget_1 : zf mX3_forget 1 = some (.iconst 0, 1, 2) := by decide +kernel
theorem fX3_forget_2 : zf mX3_forget 2 = some (.putfield 17, 3, 5) := by decide +kernel
theorem fX3_forget_5 : zf mX3_forget 5 = some (.return_, 1, 6) := by decide +kernel
theorem fX4_init_0 : zf mX4_init 0 = some (.aload_n 0, 1, 1) := by decide +kernel
theorem fX4_init_1 : zf mX4_init 1 = some (.invokespecial 3, 3, 4) := by decide +kernel
theorem fX4_init_4 : zf mX4_init 4 = some (.aload_n 0, 1, 5) := by decide +kernel
theorem fX4_init_5 : zf mX4_init 5 = some (.iconst 0, 1, 6) := by decide +kernel
theorem fX4_init_6 : zf mX4_init 6 = some (.putfield 9, 3, 9) := by decide +kernel
theorem fX4_init_9 : zf mX4_init 9 = some (.aload_n 0, 1, 10) := by decide +kernel
theorem fX4_init_10 : zf mX4_init 10 = some (.iconst 0, 1, 11) := by decide +kernel
theorem fX4_init_11 : zf mX4_init 11 = some (.putfield 15, 3, 14) := by decide +kernel
theorem fX4_init_14 : zf mX4_init 14 = some (.aload_n 0, 1, 15) := by decide +kernel
theorem fX4_init_15 : zf mX4_init 15 = some (.iconst 0, 1, 16) := by decide +kernel
theorem fX4_init_16 : zf mX4_init 16 = some (.putfield 18, 3, 19) := by decide +kernel
theorem fX4_init_19 : zf mX4_init 19 = some (.return_, 1, 20) := by decide +kernel
theorem fX4_refuse_0 : zf mX4_refuse 0 = some (.aload_n 0, 1, 1) := by decide +kernel
theorem fX4_refuse_1 : zf mX4_refuse 1 = some (.iload_n 1, 1, 2) := by decide +kernel
theorem fX4_refuse_2 : zf mX4_refuse 2 = some (.putfield 9, 3, 5) := by decide +kernel
theorem fX4_refuse_5 : zf mX4_refuse 5 = some (.aload_n 0, 1, 6) := by decide +kernel
theorem fX4_refuse_6 : zf mX4_refuse 6 = some (.iload_n 2, 1, 7) := by decide +kernel
theorem fX4_refuse_7 : zf mX4_refuse 7 = some (.putfield 15, 3, 10) := by decide +kernel
theorem fX4_refuse_10 : zf mX4_refuse 10 = some (.aload_n 0, 1, 11) := by decide +kernel
theorem fX4_refuse_11 : zf mX4_refuse 11 = some (.iconst 0, 1, 12) := by decide +kernel
theorem fX4_refuse_12 : zf mX4_refuse 12 = some (.putfield 18, 3, 15) := by decide +kernel
theorem fX4_refuse_15 : zf mX4_refuse 15 = some (.iconst (-1), 1, 16) := by decide +kernel
theorem fX4_refuse_16 : zf mX4_refuse 16 = some (.ireturn, 1, 17) := by decide +kernel
theorem fX5_init_0 : zf mX5_init 0 = some (.aload_n 0, 1, 1) := by decide +kernel
theorem fX5_init_1 : zf mX5_init 1 = some (.invokespecial 3, 3, 4) := by decide +kernel
theorem fX5_init_4 : zf mX5_init 4 = some (.aload_n 0, 1, 5) := by decide +kernel
theorem fX5_init_5 : zf mX5_init 5 = some (.bipush 109, 2, 7) := by decide +kernel
theorem fX5_init_7 : zf mX5_init 7 = some (.newarray .char, 2, 9) := by decide +kernel
theorem fX5_init_9 : zf mX5_init 9 = some (.putfield 9, 3, 12) := by decide +kernel
theorem fX5_init_12 : zf mX5_init 12 = some (.aload_n 0, 1, 13) := by decide +kernel
theorem fX5_init_13 : zf mX5_init 13 = some (.iconst 0, 1, 14) := by decide +kernel
theorem fX5_init_14 : zf mX5_init 14 = some (.putfield 15, 3, 17) := by decide +kernel
theorem fX5_init_17 : zf mX5_init 17 = some (.return_, 1, 18) := by decide +kernel
theorem fX5_size_0 : zf mX5_size 0 = some (.aload_n 0, 1, 1) := by decide +kernel
theorem fX5_size_1 : zf mX5_size 1 = some (.getfield 15, 3, 4) := by decide +kernel
theorem fX5_size_4 : zf mX5_size 4 = some (.ireturn, 1, 5) := by decide +kernel
theorem fX5_signAt_0 : zf mX5_signAt 0 = some (.iload_n 1, 1, 1) := by decide +kernel
theorem fX5_signAt_1 : zf mX5_signAt 1 = some (.ifCond .lt 26, 3, 4) := by decide +kernel
theorem fX5_signAt_4 : zf mX5_signAt 4 = some (.iload_n 1, 1, 5) := by decide +kernel
theorem fX5_signAt_5 : zf mX5_signAt 5 = some (.aload_n 0, 1, 6) := by decide +kernel
theorem fX5_signAt_6 : zf mX5_signAt 6 = some (.getfield 15, 3, 9) := by decide +kernel
theorem fX5_signAt_9 : zf mX5_signAt 9 = some (.if_icmp .ge 18, 3, 12) := by decide +kernel
theorem fX5_signAt_12 : zf mX5_signAt 12 = some (.iload_n 1, 1, 13) := by decide +kernel
theorem fX5_signAt_13 : zf mX5_signAt 13 = some (.bipush 109, 2, 15) := by decide +kernel
theorem fX5_signAt_15 : zf mX5_signAt 15 = some (.if_icmp .ge 12, 3, 18) := by decide +kernel
theorem fX5_signAt_18 : zf mX5_signAt 18 = some (.aload_n 0, 1, 19) := by decide +kernel
theorem fX5_signAt_19 : zf mX5_signAt 19 = some (.getfield 9, 3, 22) := by decide +kernel
theorem fX5_signAt_22 : zf mX5_signAt 22 = some (.iload_n 1, 1, 23) := by decide +kernel
theorem fX5_signAt_23 : zf mX5_signAt 23 = some (.caload, 1, 24) := by decide +kernel
theorem fX5_signAt_24 : zf mX5_signAt 24 = some (.goto 4, 3, 27) := by decide +kernel
theorem fX5_signAt_27 : zf mX5_signAt 27 = some (.iconst 0, 1, 28) := by decide +kernel
theorem fX5_signAt_28 : zf mX5_signAt 28 = some (.ireturn, 1, 29) := by decide +kernel
theorem fX5_clear_0 : zf mX5_clear 0 = some (.aload_n 0, 1, 1) := by decide +kernel
theorem fX5_clear_1 : zf mX5_clear 1 = some (.iconst 0, 1, 2) := by decide +kernel
theorem fX5_clear_2 : zf mX5_clear 2 = some (.putfield 15, 3, 5) := by decide +kernel
theorem fX5_clear_5 : zf mX5_clear 5 = some (.return_, 1, 6) := by decide +kernel
theorem fX5_put_0 : zf mX5_put 0 = some (.aload_n 0, 1, 1) := by decide +kernel
theorem fX5_put_1 : zf mX5_put 1 = some (.getfield 15, 3, 4) := by decide +kernel
theorem fX5_put_4 : zf mX5_put 4 = some (.bipush 109, 2, 6) := by decide +kernel
theorem fX5_put_6 : zf mX5_put 6 = some (.if_icmp .ge 23, 3, 9) := by decide +kernel
theorem fX5_put_9 : zf mX5_put 9 = some (.aload_n 0, 1, 10) := by decide +kernel
theorem fX5_put_10 : zf mX5_put 10 = some (.getfield 9, 3, 13) := by decide +kernel
theorem fX5_put_13 : zf mX5_put 13 = some (.aload_n 0, 1, 14) := by decide +kernel
theorem fX5_put_14 : zf mX5_put 14 = some (.getfield 15, 3, 17) := by decide +kernel
theorem fX5_put_17 : zf mX5_put 17 = some (.iload_n 1, 1, 18) := by decide +kernel
theorem fX5_put_18 : zf mX5_put 18 = some (.castore, 1, 19) := by decide +kernel
theorem fX5_put_19 : zf mX5_put 19 = some (.aload_n 0, 1, 20) := by decide +kernel
theorem fX5_put_20 : zf mX5_put 20 = some (.dup, 1, 21) := by decide +kernel
theorem fX5_put_21 : zf mX5_put 21 = some (.getfield 15, 3, 24) := by decide +kernel
theorem fX5_put_24 : zf mX5_put 24 = some (.iconst 1, 1, 25) := by decide +kernel
theorem fX5_put_25 : zf mX5_put 25 = some (.iadd, 1, 26) := by decide +kernel
theorem fX5_put_26 : zf mX5_put 26 = some (.putfield 15, 3, 29) := by decide +kernel
theorem fX5_put_29 : zf mX5_put 29 = some (.return_, 1, 30) := by decide +kernel
theorem fX5_separate_0 : zf mX5_separate 0 = some (.aload_n 0, 1, 1) := by decide +kernel
theorem fX5_separate_1 : zf mX5_separate 1 = some (.getfield 15, 3, 4) := by decide +kernel
theorem fX5_separate_4 : zf mX5_separate 4 = some (.ifCond .le 8, 3, 7) := by decide +kernel
theorem fX5_separate_7 : zf mX5_separate 7 = some (.aload_n 0, 1, 8) := by decide +kernel
theorem fX5_separate_8 : zf mX5_separate 8 = some (.iload_n 1, 1, 9) := by decide +kernel
theorem fX5_separate_9 : zf mX5_separate 9 = some (.invokevirtual 19, 3, 12) := by decide +kernel
theorem fX5_separate_12 : zf mX5_separate 12 = some (.return_, 1, 13) := by decide +kernel
theorem fX5_putNumber_0 : zf mX5_putNumber 0 = some (.iload_n 1, 1, 1) := by decide +kernel
theorem fX5_putNumber_1 : zf mX5_putNumber 1 = some (.bipush 100, 2, 3) := by decide +kernel
theorem fX5_putNumber_3 : zf mX5_putNumber 3 = some (.if_icmp .lt 15, 3, 6) := by decide +kernel
theorem fX5_putNumber_6 : zf mX5_putNumber 6 = some (.aload_n 0, 1, 7) := by decide +kernel
theorem fX5_putNumber_7 : zf mX5_putNumber 7 = some (.bipush 48, 2, 9) := by decide +kernel
theorem fX5_putNumber_9 : zf mX5_putNumber 9 = some (.iload_n 1, 1, 10) := by decide +kernel
theorem fX5_putNumber_10 : zf mX5_putNumber 10 = some (.bipush 100, 2, 12) := by decide +kernel
theorem fX5_putNumber_12 : zf mX5_putNumber 12 = some (.idiv, 1, 13) := by decide +kernel
theorem fX5_putNumber_13 : zf mX5_putNumber 13 = some (.iadd, 1, 14) := by decide +kernel
theorem fX5_putNumber_14 : zf mX5_putNumber 14 = some (.i2c, 1, 15) := by decide +kernel
theorem fX5_putNumber_15 : zf mX5_putNumber 15 = some (.invokevirtual 19, 3, 18) := by decide +kernel
theorem fX5_putNumber_18 : zf mX5_putNumber 18 = some (.iload_n 1, 1, 19) := by decide +kernel
theorem fX5_putNumber_19 : zf mX5_putNumber 19 = some (.bipush 10, 2, 21) := by decide +kernel
theorem fX5_putNumber_21 : zf mX5_putNumber 21 = some (.if_icmp .lt 18, 3, 24) := by decide +kernel
theorem fX5_putNumber_24 : zf mX5_putNumber 24 = some (.aload_n 0, 1, 25) := by decide +kernel
theorem fX5_putNumber_25 : zf mX5_putNumber 25 = some (.bipush 48, 2, 27) := by decide +kernel
theorem fX5_putNumber_27 : zf mX5_putNumber 27 = some (.iload_n 1, 1, 28) := by decide +kernel
theorem fX5_putNumber_28 : zf mX5_putNumber 28 = some (.bipush 10, 2, 30) := by decide +kernel
theorem fX5_putNumber_30 : zf mX5_putNumber 30 = some (.idiv, 1, 31) := by decide +kernel
theorem fX5_putNumber_31 : zf mX5_putNumber 31 = some (.bipush 10, 2, 33) := by decide +kernel
theorem fX5_putNumber_33 : zf mX5_putNumber 33 = some (.irem, 1, 34) := by decide +kernel
theorem fX5_putNumber_34 : zf mX5_putNumber 34 = some (.iadd, 1, 35) := by decide +kernel
theorem fX5_putNumber_35 : zf mX5_putNumber 35 = some (.i2c, 1, 36) := by decide +kernel
theorem fX5_putNumber_36 : zf mX5_putNumber 36 = some (.invokevirtual 19, 3, 39) := by decide +kernel
theorem fX5_putNumber_39 : zf mX5_putNumber 39 = some (.aload_n 0, 1, 40) := by decide +kernel
theorem fX5_putNumber_40 : zf mX5_putNumber 40 = some (.bipush 48, 2, 42) := by decide +kernel
theorem fX5_putNumber_42 : zf mX5_putNumber 42 = some (.iload_n 1, 1, 43) := by decide +kernel
theorem fX5_putNumber_43 : zf mX5_putNumber 43 = some (.bipush 10, 2, 45) := by decide +kernel
theorem fX5_putNumber_45 : zf mX5_putNumber 45 = some (.irem, 1, 46) := by decide +kernel
theorem fX5_putNumber_46 : zf mX5_putNumber 46 = some (.iadd, 1, 47) := by decide +kernel
theorem fX5_putNumber_47 : zf mX5_putNumber 47 = some (.i2c, 1, 48) := by decide +kernel
theorem fX5_putNumber_48 : zf mX5_putNumber 48 = some (.invokevirtual 19, 3, 51) := by decide +kernel
theorem fX5_putNumber_51 : zf mX5_putNumber 51 = some (.return_, 1, 52) := by decide +kernel
theorem fX6_init_0 : zf mX6_init 0 = some (.aload_n 0, 1, 1) := by decide +kernel
theorem fX6_init_1 : zf mX6_init 1 = some (.invokespecial 3, 3, 4) := by decide +kernel
theorem fX6_init_4 : zf mX6_init 4 = some (.aload_n 0, 1, 5) := by decide +kernel
theorem fX6_init_5 : zf mX6_init 5 = some (.iconst 1, 1, 6) := by decide +kernel
theorem fX6_init_6 : zf mX6_init 6 = some (.putfield 9, 3, 9) := by decide +kernel
theorem fX6_init_9 : zf mX6_init 9 = some (.aload_n 0, 1, 10) := by decide +kernel
theorem fX6_init_10 : zf mX6_init 10 = some (.bipush 40, 2, 12) := by decide +kernel
theorem fX6_init_12 : zf mX6_init 12 = some (.newarray .int, 2, 14) := by decide +kernel
theorem fX6_init_14 : zf mX6_init 14 = some (.putfield 15, 3, 17) := by decide +kernel
theorem fX6_init_17 : zf mX6_init 17 = some (.aload_n 0, 1, 18) := by decide +kernel
theorem fX6_init_18 : zf mX6_init 18 = some (.bipush 40, 2, 20) := by decide +kernel
theorem fX6_init_20 : zf mX6_init 20 = some (.newarray .int, 2, 22) := by decide +kernel
theorem fX6_init_22 : zf mX6_init 22 = some (.putfield 19, 3, 25) := by decide +kernel
theorem fX6_init_25 : zf mX6_init 25 = some (.aload_n 0, 1, 26) := by decide +kernel
theorem fX6_init_26 : zf mX6_init 26 = some (.sipush 1240, 3, 29) := by decide +kernel
theorem fX6_init_29 : zf mX6_init 29 = some (.newarray .int, 2, 31) := by decide +kernel
theorem fX6_init_31 : zf mX6_init 31 = some (.putfield 22, 3, 34) := by decide +kernel
theorem fX6_init_34 : zf mX6_init 34 = some (.aload_n 0, 1, 35) := by decide +kernel
theorem fX6_init_35 : zf mX6_init 35 = some (.sipush 1240, 3, 38) := by decide +kernel
theorem fX6_init_38 : zf mX6_init 38 = some (.newarray .int, 2, 40) := by decide +kernel
theorem fX6_init_40 : zf mX6_init 40 = some (.putfield 25, 3, 43) := by decide +kernel
theorem fX6_init_43 : zf mX6_init 43 = some (.aload_n 0, 1, 44) := by decide +kernel
theorem fX6_init_44 : zf mX6_init 44 = some (.getfield 15, 3, 47) := by decide +kernel
theorem fX6_init_47 : zf mX6_init 47 = some (.iconst 0, 1, 48) := by decide +kernel
theorem fX6_init_48 : zf mX6_init 48 = some (.iconst (-1), 1, 49) := by decide +kernel
theorem fX6_init_49 : zf mX6_init 49 = some (.iastore, 1, 50) := by decide +kernel
theorem fX6_init_50 : zf mX6_init 50 = some (.return_, 1, 51) := by decide +kernel
theorem fX6_copyFrom_0 : zf mX6_copyFrom 0 = some (.aload_n 0, 1, 1) := by decide +kernel
theorem fX6_copyFrom_1 : zf mX6_copyFrom 1 = some (.aload_n 1, 1, 2) := by decide +kernel
theorem fX6_copyFrom_2 : zf mX6_copyFrom 2 = some (.getfield 9, 3, 5) := by decide +kernel
theorem fX6_copyFrom_5 : zf mX6_copyFrom 5 = some (.putfield 9, 3, 8) := by decide +kernel
theorem fX6_copyFrom_8 : zf mX6_copyFrom 8 = some (.aload_n 1, 1, 9) := by decide +kernel
theorem fX6_copyFrom_9 : zf mX6_copyFrom 9 = some (.getfield 15, 3, 12) := by decide +kernel
theorem fX6_copyFrom_12 : zf mX6_copyFrom 12 = some (.iconst 0, 1, 13) := by decide +kernel
theorem fX6_copyFrom_13 : zf mX6_copyFrom 13 = some (.aload_n 0, 1, 14) := by decide +kernel
theorem fX6_copyFrom_14 : zf mX6_copyFrom 14 = some (.getfield 15, 3, 17) := by decide +kernel
theorem fX6_copyFrom_17 : zf mX6_copyFrom 17 = some (.iconst 0, 1, 18) := by decide +kernel
theorem fX6_copyFrom_18 : zf mX6_copyFrom 18 = some (.bipush 40, 2, 20) := by decide +kernel
theorem fX6_copyFrom_20 : zf mX6_copyFrom 20 = some (.invokestatic 28, 3, 23) := by decide +kernel
theorem fX6_copyFrom_23 : zf mX6_copyFrom 23 = some (.aload_n 1, 1, 24) := by decide +kernel
theorem fX6_copyFrom_24 : zf mX6_copyFrom 24 = some (.getfield 19, 3, 27) := by decide +kernel
theorem fX6_copyFrom_27 : zf mX6_copyFrom 27 = some (.iconst 0, 1, 28) := by decide +kernel
theorem fX6_copyFrom_28 : zf mX6_copyFrom 28 = some (.aload_n 0, 1, 29) := by decide +kernel
theorem fX6_copyFrom_29 : zf mX6_copyFrom 29 = some (.getfield 19, 3, 32) := by decide +kernel
theorem fX6_copyFrom_32 : zf mX6_copyFrom 32 = some (.iconst 0, 1, 33) := by decide +kernel
theorem fX6_copyFrom_33 : zf mX6_copyFrom 33 = some (.bipush 40, 2, 35) := by decide +kernel
theorem fX6_copyFrom_35 : zf mX6_copyFrom 35 = some (.invokestatic 28, 3, 38) := by decide +kernel
theorem fX6_copyFrom_38 : zf mX6_copyFrom 38 = some (.aload_n 1, 1, 39) := by decide +kernel
theorem fX6_copyFrom_39 : zf mX6_copyFrom 39 = some (.getfield 22, 3, 42) := by decide +kernel
theorem fX6_copyFrom_42 : zf mX6_copyFrom 42 = some (.iconst 0, 1, 43) := by decide +kernel
theorem fX6_copyFrom_43 : zf mX6_copyFrom 43 = some (.aload_n 0, 1, 44) := by decide +kernel
theorem fX6_copyFrom_44 : zf mX6_copyFrom 44 = some (.getfield 22, 3, 47) := by decide +kernel
theorem fX6_copyFrom_47 : zf mX6_copyFrom 47 = some (.iconst 0, 1, 48) := by decide +kernel
theorem fX6_copyFrom_48 : zf mX6_copyFrom 48 = some (.sipush 1240, 3, 51) := by decide +kernel
theorem fX6_copyFrom_51 : zf mX6_copyFrom 51 = some (.invokestatic 28, 3, 54) := by decide +kernel
theorem fX6_copyFrom_54 : zf mX6_copyFrom 54 = some (.aload_n 1, 1, 55) := by decide +kernel
theorem fX6_copyFrom_55 : zf mX6_copyFrom 55 = some (.getfield 25, 3, 58) := by decide +kernel
theorem fX6_copyFrom_58 : zf mX6_copyFrom 58 = some (.iconst 0, 1, 59) := by decide +kernel
theorem fX6_copyFrom_59 : zf mX6_copyFrom 59 = some (.aload_n 0, 1, 60) := by decide +kernel
theorem fX6_copyFrom_60 : zf mX6_copyFrom 60 = some (.getfield 25, 3, 63) := by decide +kernel
theorem fX6_copyFrom_63 : zf mX6_copyFrom 63 = some (.iconst 0, 1, 64) := by decide +kernel
theorem fX6_copyFrom_64 : zf mX6_copyFrom 64 = some (.sipush 1240, 3, 67) := by decide +kernel
theorem fX6_copyFrom_67 : zf mX6_copyFrom 67 = some (.invokestatic 28, 3, 70) := by decide +kernel
theorem fX6_copyFrom_70 : zf mX6_copyFrom 70 = some (.return_, 1, 71) := by decide +kernel
theorem fX6_size_0 : zf mX6_size 0 = some (.aload_n 0, 1, 1) := by decide +kernel
theorem fX6_size_1 : zf mX6_size 1 = some (.getfield 9, 3, 4) := by decide +kernel
theorem fX6_size_4 : zf mX6_size 4 = some (.ireturn, 1, 5) := by decide +kernel
theorem fX6_forgetFrom_0 : zf mX6_forgetFrom 0 = some (.iload_n 1, 1, 1) := by decide +kernel
theorem fX6_forgetFrom_1 : zf mX6_forgetFrom 1 = some (.iconst 1, 1, 2) := by decide +kernel
theorem fX6_forgetFrom_2 : zf mX6_forgetFrom 2 = some (.if_icmp .lt 16, 3, 5) := by decide +kernel
theorem fX6_forgetFrom_5 : zf mX6_forgetFrom 5 = some (.iload_n 1, 1, 6) := by decide +kernel
theorem fX6_forgetFrom_6 : zf mX6_forgetFrom 6 = some (.aload_n 0, 1, 7) := by decide +kernel
theorem fX6_forgetFrom_7 : zf mX6_forgetFrom 7 = some (.getfield 9, 3, 10) := by decide +kernel
theorem fX6_forgetFrom_10 : zf mX6_forgetFrom 10 = some (.if_icmp .ge 8, 3, 13) := by decide +kernel
theorem fX6_forgetFrom_13 : zf mX6_forgetFrom 13 = some (.aload_n 0, 1, 14) := by decide +kernel
theorem fX6_forgetFrom_14 : zf mX6_forgetFrom 14 = some (.iload_n 1, 1, 15) := by decide +kernel
theorem fX6_forgetFrom_15 : zf mX6_forgetFrom 15 = some (.putfield 9, 3, 18) := by decide +kernel
theorem fX6_forgetFrom_18 : zf mX6_forgetFrom 18 = some (.return_, 1, 19) := by decide +kernel
theorem fX6_has_0 : zf mX6_has 0 = some (.iload_n 1, 1, 1) := by decide +kernel
theorem fX6_has_1 : zf mX6_has 1 = some (.ifCond .lt 21, 3, 4) := by decide +kernel
theorem fX6_has_4 : zf mX6_has 4 = some (.iload_n 1, 1, 5) := by decide +kernel
theorem fX6_has_5 : zf mX6_has 5 = some (.aload_n 0, 1, 6) := by decide +kernel
theorem fX6_has_6 : zf mX6_has 6 = some (.getfield 9, 3, 9) := by decide +kernel
theorem fX6_has_9 : zf mX6_has 9 = some (.if_icmp .ge 13, 3, 12) := by decide +kernel
theorem fX6_has_12 : zf mX6_has 12 = some (.iload_n 1, 1, 13) := by decide +kernel
theorem fX6_has_13 : zf mX6_has 13 = some (.bipush 40, 2, 15) := by decide +kernel
theorem fX6_has_15 : zf mX6_has 15 = some (.if_icmp .ge 7, 3, 18) := by decide +kernel
theorem fX6_has_18 : zf mX6_has 18 = some (.iconst 1, 1, 19) := by decide +kernel
theorem fX6_has_19 : zf mX6_has 19 = some (.goto 4, 3, 22) := by decide +kernel
theorem fX6_has_22 : zf mX6_has 22 = some (.iconst 0, 1, 23) := by decide +kernel
theorem fX6_has_23 : zf mX6_has 23 = some (.ireturn, 1, 24) := by decide +kernel
theorem fX6_isFull_0 : zf mX6_isFull 0 = some (.aload_n 0, 1, 1) := by decide +kernel
theorem fX6_isFull_1 : zf mX6_isFull 1 = some (.getfield 9, 3, 4) := by decide +kernel
theorem fX6_isFull_4 : zf mX6_isFull 4 = some (.bipush 40, 2, 6) := by decide +kernel
theorem fX6_isFull_6 : zf mX6_isFull 6 = some (.if_icmp .lt 7, 3, 9) := by decide +kernel
theorem fX6_isFull_9 : zf mX6_isFull 9 = some (.iconst 1, 1, 10) := by decide +kernel
theorem fX6_isFull_10 : zf mX6_isFull 10 = some (.goto 4, 3, 13) := by decide +kernel
theorem fX6_isFull_13 : zf mX6_isFull 13 = some (.iconst 0, 1, 14) := by decide +kernel
theorem fX6_isFull_14 : zf mX6_isFull 14 = some (.ireturn, 1, 15) := by decide +kernel
theorem fX6_parentOf_0 : zf mX6_parentOf 0 = some (.aload_n 0, 1, 1) := by decide +kernel
theorem fX6_parentOf_1 : zf mX6_parentOf 1 = some (.iload_n 1, 1, 2) := by decide +kernel
theorem fX6_parentOf_2 : zf mX6_parentOf 2 = some (.invokevirtual 34, 3, 5) := by decide +kernel
theorem fX6_parentOf_5 : zf mX6_parentOf 5 = some (.ifCond .eq 12, 3, 8) := by decide +kernel
theorem fX6_parentOf_8 : zf mX6_parentOf 8 = some (.aload_n 0, 1, 9) := by decide +kernel
theorem fX6_parentOf_9 : zf mX6_parentOf 9 = some (.getfield 15, 3, 12) := by decide +kernel
theorem fX6_parentOf_12 : zf mX6_parentOf 12 = some (.iload_n 1, 1, 13) := by decide +kernel
theorem fX6_parentOf_13 : zf mX6_parentOf 13 = some (.iaload, 1, 14) := by decide +kernel
theorem fX6_parentOf_14 : zf mX6_parentOf 14 = some (.goto 4, 3, 17) := by decide +kernel
theorem fX6_parentOf_17 : zf mX6_parentOf 17 = some (.iconst (-1), 1, 18) := by decide +kernel
theorem fX6_parentOf_18 : zf mX6_parentOf 18 = some (.ireturn, 1, 19) := by decide +kernel
theorem fX6_yearOf_0 : zf mX6_yearOf 0 = some (.aload_n 0, 1, 1) := by decide +kernel
theorem fX6_yearOf_1 : zf mX6_yearOf 1 = some (.iload_n 1, 1, 2) := by decide +kernel
theorem fX6_yearOf_2 : zf mX6_yearOf 2 = some (.invokevirtual 34, 3, 5) := by decide +kernel
theorem fX6_yearOf_5 : zf mX6_yearOf 5 = some (.ifCond .eq 12, 3, 8) := by decide +kernel
theorem fX6_yearOf_8 : zf mX6_yearOf 8 = some (.aload_n 0, 1, 9) := by decide +kernel
theorem fX6_yearOf_9 : zf mX6_yearOf 9 = some (.getfield 19, 3, 12) := by decide +kernel
theorem fX6_yearOf_12 : zf mX6_yearOf 12 = some (.iload_n 1, 1, 13) := by decide +kernel
theorem fX6_yearOf_13 : zf mX6_yearOf 13 = some (.iaload, 1, 14) := by decide +kernel
theorem fX6_yearOf_14 : zf mX6_yearOf 14 = some (.goto 4, 3, 17) := by decide +kernel
theorem fX6_yearOf_17 : zf mX6_yearOf 17 = some (.iconst 0, 1, 18) := by decide +kernel
theorem fX6_yearOf_18 : zf mX6_yearOf 18 = some (.ireturn, 1, 19) := by decide +kernel
theorem fX6_makerOf_0 : zf mX6_makerOf 0 = some (.aload_n 0, 1, 1) := by decide +kernel
theorem fX6_makerOf_1 : zf mX6_makerOf 1 = some (.iload_n 1, 1, 2) := by decide +kernel
theorem fX6_makerOf_2 : zf mX6_makerOf 2 = some (.invokevirtual 34, 3, 5) := by decide +kernel
theorem fX6_makerOf_5 : zf mX6_makerOf 5 = some (.ifCond .eq 24, 3, 8) := by decide +kernel
theorem fX6_makerOf_8 : zf mX6_makerOf 8 = some (.iload_n 2, 1, 9) := by decide +kernel
theorem fX6_makerOf_9 : zf mX6_makerOf 9 = some (.invokestatic 38, 3, 12) := by decide +kernel
theorem fX6_makerOf_12 : zf mX6_makerOf 12 = some (.ifCond .eq 17, 3, 15) := by decide +kernel
theorem fX6_makerOf_15 : zf mX6_makerOf 15 = some (.aload_n 0, 1, 16) := by decide +kernel
theorem fX6_makerOf_16 : zf mX6_makerOf 16 = some (.getfield 22, 3, 19) := by decide +kernel
theorem fX6_makerOf_19 : zf mX6_makerOf 19 = some (.iload_n 1, 1, 20) := by decide +kernel
theorem fX6_makerOf_20 : zf mX6_makerOf 20 = some (.bipush 31, 2, 22) := by decide +kernel
theorem fX6_makerOf_22 : zf mX6_makerOf 22 = some (.imul, 1, 23) := by decide +kernel
theorem fX6_makerOf_23 : zf mX6_makerOf 23 = some (.iload_n 2, 1, 24) := by decide +kernel
theorem fX6_makerOf_24 : zf mX6_makerOf 24 = some (.iadd, 1, 25) := by decide +kernel
theorem fX6_makerOf_25 : zf mX6_makerOf 25 = some (.iaload, 1, 26) := by decide +kernel
theorem fX6_makerOf_26 : zf mX6_makerOf 26 = some (.goto 4, 3, 29) := by decide +kernel
theorem fX6_makerOf_29 : zf mX6_makerOf 29 = some (.iconst (-1), 1, 30) := by decide +kernel
theorem fX6_makerOf_30 : zf mX6_makerOf 30 = some (.ireturn, 1, 31) := by decide +kernel
theorem fX6_totalOf_0 : zf mX6_totalOf 0 = some (.aload_n 0, 1, 1) := by decide +kernel
theorem fX6_totalOf_1 : zf mX6_totalOf 1 = some (.iload_n 1, 1, 2) := by decide +kernel
theorem fX6_totalOf_2 : zf mX6_totalOf 2 = some (.invokevirtual 34, 3, 5) := by decide +kernel
theorem fX6_totalOf_5 : zf mX6_totalOf 5 = some (.ifCond .eq 10, 3, 8) := by decide +kernel
theorem fX6_totalOf_8 : zf mX6_totalOf 8 = some (.iload_n 2, 1, 9) := by decide +kernel
theorem fX6_totalOf_9 : zf mX6_totalOf 9 = some (.invokestatic 38, 3, 12) := by decide +kernel
theorem fX6_totalOf_12 : zf mX6_totalOf 12 = some (.ifCond .ne 5, 3, 15) := by decide +kernel
theorem fX6_totalOf_15 : zf mX6_totalOf 15 = some (.iconst 0, 1, 16) := by decide +kernel
theorem fX6_totalOf_16 : zf mX6_totalOf 16 = some (.ireturn, 1, 17) := by decide +kernel
theorem fX6_totalOf_17 : zf mX6_totalOf 17 = some (.aload_n 0, 1, 18) := by decide +kernel
theorem fX6_totalOf_18 : zf mX6_totalOf 18 = some (.getfield 22, 3, 21) := by decide +kernel
theorem fX6_totalOf_21 : zf mX6_totalOf 21 = some (.iload_n 1, 1, 22) := by decide +kernel
theorem fX6_totalOf_22 : zf mX6_totalOf 22 = some (.bipush 31, 2, 24) := by decide +kernel
theorem fX6_totalOf_24 : zf mX6_totalOf 24 = some (.imul, 1, 25) := by decide +kernel
theorem fX6_totalOf_25 : zf mX6_totalOf 25 = some (.iload_n 2, 1, 26) := by decide +kernel
theorem fX6_totalOf_26 : zf mX6_totalOf 26 = some (.iadd, 1, 27) := by decide +kernel
theorem fX6_totalOf_27 : zf mX6_totalOf 27 = some (.iaload, 1, 28) := by decide +kernel
theorem fX6_totalOf_28 : zf mX6_totalOf 28 = some (.istore_n 3, 1, 29) := by decide +kernel
theorem fX6_totalOf_29 : zf mX6_totalOf 29 = some (.aload_n 0, 1, 30) := by decide +kernel
theorem fX6_totalOf_30 : zf mX6_totalOf 30 = some (.iload_n 3, 1, 31) := by decide +kernel
theorem fX6_totalOf_31 : zf mX6_totalOf 31 = some (.invokevirtual 34, 3, 34) := by decide +kernel
theorem fX6_totalOf_34 : zf mX6_totalOf 34 = some (.ifCond .eq 17, 3, 37) := by decide +kernel
theorem fX6_totalOf_37 : zf mX6_totalOf 37 = some (.aload_n 0, 1, 38) := by decide +kernel
theorem fX6_totalOf_38 : zf mX6_totalOf 38 = some (.getfield 25, 3, 41) := by decide +kernel
theorem fX6_totalOf_41 : zf mX6_totalOf 41 = some (.iload_n 3, 1, 42) := by decide +kernel
theorem fX6_totalOf_42 : zf mX6_totalOf 42 = some (.bipush 31, 2, 44) := by decide +kernel
theorem fX6_totalOf_44 : zf mX6_totalOf 44 = some (.imul, 1, 45) := by decide +kernel
theorem fX6_totalOf_45 : zf mX6_totalOf 45 = some (.iload_n 2, 1, 46) := by decide +kernel
theorem fX6_totalOf_46 : zf mX6_totalOf 46 = some (.iadd, 1, 47) := by decide +kernel
theorem fX6_totalOf_47 : zf mX6_totalOf 47 = some (.iaload, 1, 48) := by decide +kernel
theorem fX6_totalOf_48 : zf mX6_totalOf 48 = some (.goto 4, 3, 51) := by decide +kernel
theorem fX6_totalOf_51 : zf mX6_totalOf 51 = some (.iconst 0, 1, 52) := by decide +kernel
theorem fX6_totalOf_52 : zf mX6_totalOf 52 = some (.ireturn, 1, 53) := by decide +kernel
theorem fX6_amountOn_0 : zf mX6_amountOn 0 = some (.aload_n 0, 1, 1) := by decide +kernel
theorem fX6_amountOn_1 : zf mX6_amountOn 1 = some (.iload_n 1, 1, 2) := by decide +kernel
theorem fX6_amountOn_2 : zf mX6_amountOn 2 = some (.bipush 15, 2, 4) := by decide +kernel
theorem fX6_amountOn_4 : zf mX6_amountOn 4 = some (.iload_n 2, 1, 5) := by decide +kernel
theorem fX6_amountOn_5 : zf mX6_amountOn 5 = some (.iadd, 1, 6) := by decide +kernel
theorem fX6_amountOn_6 : zf mX6_amountOn 6 = some (.invokevirtual 41, 3, 9) := by decide +kernel
theorem fX6_amountOn_9 : zf mX6_amountOn 9 = some (.ireturn, 1, 10) := by decide +kernel
theorem fX6_addWritten_0 : zf mX6_addWritten 0 = some (.aload_n 0, 1, 1) := by decide +kernel
theorem fX6_addWritten_1 : zf mX6_addWritten 1 = some (.iload_n 1, 1, 2) := by decide +kernel
theorem fX6_addWritten_2 : zf mX6_addWritten 2 = some (.iload_n 2, 1, 3) := by decide +kernel
theorem fX6_addWritten_3 : zf mX6_addWritten 3 = some (.invokevirtual 45, 3, 6) := by decide +kernel
theorem fX6_addWritten_6 : zf mX6_addWritten 6 = some (.istore 5, 2, 8) := by decide +kernel
theorem fX6_addWritten_8 : zf mX6_addWritten 8 = some (.bipush 30, 2, 10) := by decide +kernel
theorem fX6_addWritten_10 : zf mX6_addWritten 10 = some (.istore 6, 2, 12) := by decide +kernel
theorem fX6_addWritten_12 : zf mX6_addWritten 12 = some (.iload 6, 2, 14) := by decide +kernel
theorem fX6_addWritten_14 : zf mX6_addWritten 14 = some (.ifCond .lt 57, 3, 17) := by decide +kernel
theorem fX6_addWritten_17 : zf mX6_addWritten 17 = some (.iload 6, 2, 19) := by decide +kernel
theorem fX6_addWritten_19 : zf mX6_addWritten 19 = some (.bipush 15, 2, 21) := by decide +kernel
theorem fX6_addWritten_21 : zf mX6_addWritten 21 = some (.iload_n 3, 1, 22) := by decide +kernel
theorem fX6_addWritten_22 : zf mX6_addWritten 22 = some (.iadd, 1, 23) := by decide +kernel
theorem fX6_addWritten_23 : zf mX6_addWritten 23 = some (.if_icmp .ne 16, 3, 26) := by decide +kernel
theorem fX6_addWritten_26 : zf mX6_addWritten 26 = some (.aload_n 0, 1, 27) := by decide +kernel
theorem fX6_addWritten_27 : zf mX6_addWritten 27 = some (.iload 5, 2, 29) := by decide +kernel
theorem fX6_addWritten_29 : zf mX6_addWritten 29 = some (.iload 6, 2, 31) := by decide +kernel
theorem fX6_addWritten_31 : zf mX6_addWritten 31 = some (.iload 4, 2, 33) := by decide +kernel
theorem fX6_addWritten_33 : zf mX6_addWritten 33 = some (.invokevirtual 48, 3, 36) := by decide +kernel
theorem fX6_addWritten_36 : zf mX6_addWritten 36 = some (.goto 29, 3, 39) := by decide +kernel
theorem fX6_addWritten_39 : zf mX6_addWritten 39 = some (.iload 6, 2, 41) := by decide +kernel
theorem fX6_addWritten_41 : zf mX6_addWritten 41 = some (.iload_n 3, 1, 42) := by decide +kernel
theorem fX6_addWritten_42 : zf mX6_addWritten 42 = some (.iload_n 3, 1, 43) := by decide +kernel
theorem fX6_addWritten_43 : zf mX6_addWritten 43 = some (.invokestatic 52, 3, 46) := by decide +kernel
theorem fX6_addWritten_46 : zf mX6_addWritten 46 = some (.ifCond .eq 19, 3, 49) := by decide +kernel
theorem fX6_addWritten_49 : zf mX6_addWritten 49 = some (.aload_n 0, 1, 50) := by decide +kernel
theorem fX6_addWritten_50 : zf mX6_addWritten 50 = some (.iload 5, 2, 52) := by decide +kernel
theorem fX6_addWritten_52 : zf mX6_addWritten 52 = some (.iload 6, 2, 54) := by decide +kernel
theorem fX6_addWritten_54 : zf mX6_addWritten 54 = some (.aload_n 0, 1, 55) := by decide +kernel
theorem fX6_addWritten_55 : zf mX6_addWritten 55 = some (.iload 5, 2, 57) := by decide +kernel
theorem fX6_addWritten_57 : zf mX6_addWritten 57 = some (.iload 6, 2, 59) := by decide +kernel
theorem fX6_addWritten_59 : zf mX6_addWritten 59 = some (.invokevirtual 56, 3, 62) := by decide +kernel
theorem fX6_addWritten_62 : zf mX6_addWritten 62 = some (.invokevirtual 48, 3, 65) := by decide +kernel
theorem fX6_addWritten_65 : zf mX6_addWritten 65 = some (.iinc 6 (-1), 3, 68) := by decide +kernel
theorem fX6_addWritten_68 : zf mX6_addWritten 68 = some (.goto (-56), 3, 71) := by decide +kernel
theorem fX6_addWritten_71 : zf mX6_addWritten 71 = some (.iload 5, 2, 73) := by decide +kernel
theorem fX6_addWritten_73 : zf mX6_addWritten 73 = some (.ireturn, 1, 74) := by decide +kernel
theorem fX6_addGrafted_0 : zf mX6_addGrafted 0 = some (.aload_n 0, 1, 1) := by decide +kernel
theorem fX6_addGrafted_1 : zf mX6_addGrafted 1 = some (.iload_n 1, 1, 2) := by decide +kernel
theorem fX6_addGrafted_2 : zf mX6_addGrafted 2 = some (.iload_n 2, 1, 3) := by decide +kernel
theorem fX6_addGrafted_3 : zf mX6_addGrafted 3 = some (.invokevirtual 45, 3, 6) := by decide +kernel
theorem fX6_addGrafted_6 : zf mX6_addGrafted 6 = some (.istore 6, 2, 8) := by decide +kernel
theorem fX6_addGrafted_8 : zf mX6_addGrafted 8 = some (.bipush 30, 2, 10) := by decide +kernel
theorem fX6_addGrafted_10 : zf mX6_addGrafted 10 = some (.istore 7, 2, 12) := by decide +kernel
theorem fX6_addGrafted_12 : zf mX6_addGrafted 12 = some (.iload 7, 2, 14) := by decide +kernel
theorem fX6_addGrafted_14 : zf mX6_addGrafted 14 = some (.ifCond .lt 61, 3, 17) := by decide +kernel
theorem fX6_addGrafted_17 : zf mX6_addGrafted 17 = some (.iload 7, 2, 19) := by decide +kernel
theorem fX6_addGrafted_19 : zf mX6_addGrafted 19 = some (.iload 4, 2, 21) := by decide +kernel
theorem fX6_addGrafted_21 : zf mX6_addGrafted 21 = some (.iload 5, 2, 23) := by decide +kernel
theorem fX6_addGrafted_23 : zf mX6_addGrafted 23 = some (.invokestatic 59, 3, 26) := by decide +kernel
theorem fX6_addGrafted_26 : zf mX6_addGrafted 26 = some (.ifCond .eq 15, 3, 29) := by decide +kernel
theorem fX6_addGrafted_29 : zf mX6_addGrafted 29 = some (.aload_n 0, 1, 30) := by decide +kernel
theorem fX6_addGrafted_30 : zf mX6_addGrafted 30 = some (.iload 6, 2, 32) := by decide +kernel
theorem fX6_addGrafted_32 : zf mX6_addGrafted 32 = some (.iload 7, 2, 34) := by decide +kernel
theorem fX6_addGrafted_34 : zf mX6_addGrafted 34 = some (.iload_n 3, 1, 35) := by decide +kernel
theorem fX6_addGrafted_35 : zf mX6_addGrafted 35 = some (.invokevirtual 62, 3, 38) := by decide +kernel
theorem fX6_addGrafted_38 : zf mX6_addGrafted 38 = some (.goto 31, 3, 41) := by decide +kernel
theorem fX6_addGrafted_41 : zf mX6_addGrafted 41 = some (.iload 7, 2, 43) := by decide +kernel
theorem fX6_addGrafted_43 : zf mX6_addGrafted 43 = some (.iload 4, 2, 45) := by decide +kernel
theorem fX6_addGrafted_45 : zf mX6_addGrafted 45 = some (.iload 5, 2, 47) := by decide +kernel
theorem fX6_addGrafted_47 : zf mX6_addGrafted 47 = some (.invokestatic 52, 3, 50) := by decide +kernel
theorem fX6_addGrafted_50 : zf mX6_addGrafted 50 = some (.ifCond .eq 19, 3, 53) := by decide +kernel
theorem fX6_addGrafted_53 : zf mX6_addGrafted 53 = some (.aload_n 0, 1, 54) := by decide +kernel
theorem fX6_addGrafted_54 : zf mX6_addGrafted 54 = some (.iload 6, 2, 56) := by decide +kernel
theorem fX6_addGrafted_56 : zf mX6_addGrafted 56 = some (.iload 7, 2, 58) := by decide +kernel
theorem fX6_addGrafted_58 : zf mX6_addGrafted 58 = some (.aload_n 0, 1, 59) := by decide +kernel
theorem fX6_addGrafted_59 : zf mX6_addGrafted 59 = some (.iload 6, 2, 61) := by decide +kernel
theorem fX6_addGrafted_61 : zf mX6_addGrafted 61 = some (.iload 7, 2, 63) := by decide +kernel
theorem fX6_addGrafted_63 : zf mX6_addGrafted 63 = some (.invokevirtual 56, 3, 66) := by decide +kernel
theorem fX6_addGrafted_66 : zf mX6_addGrafted 66 = some (.invokevirtual 48, 3, 69) := by decide +kernel
theorem fX6_addGrafted_69 : zf mX6_addGrafted 69 = some (.iinc 7 (-1), 3, 72) := by decide +kernel
theorem fX6_addGrafted_72 : zf mX6_addGrafted 72 = some (.goto (-60), 3, 75) := by decide +kernel
theorem fX6_addGrafted_75 : zf mX6_addGrafted 75 = some (.iload 6, 2, 77) := by decide +kernel
theorem fX6_addGrafted_77 : zf mX6_addGrafted 77 = some (.ireturn, 1, 78) := by decide +kernel
theorem fX6_addChild_0 : zf mX6_addChild 0 = some (.aload_n 0, 1, 1) := by decide +kernel
theorem fX6_addChild_1 : zf mX6_addChild 1 = some (.invokevirtual 65, 3, 4) := by decide +kernel
theorem fX6_addChild_4 : zf mX6_addChild 4 = some (.ifCond .ne 11, 3, 7) := by decide +kernel
theorem fX6_addChild_7 : zf mX6_addChild 7 = some (.aload_n 0, 1, 8) := by decide +kernel
theorem fX6_addChild_8 : zf mX6_addChild 8 = some (.iload_n 1, 1, 9) := by decide +kernel
theorem fX6_addChild_9 : zf mX6_addChild 9 = some (.invokevirtual 34, 3, 12) := by decide +kernel
theorem fX6_addChild_12 : zf mX6_addChild 12 = some (.ifCond .ne 5, 3, 15) := by decide +kernel
theorem fX6_addChild_15 : zf mX6_addChild 15 = some (.iconst (-1), 1, 16) := by decide +kernel
theorem fX6_addChild_16 : zf mX6_addChild 16 = some (.ireturn, 1, 17) := by decide +kernel
theorem fX6_addChild_17 : zf mX6_addChild 17 = some (.aload_n 0, 1, 18) := by decide +kernel
theorem fX6_addChild_18 : zf mX6_addChild 18 = some (.getfield 9, 3, 21) := by decide +kernel
theorem fX6_addChild_21 : zf mX6_addChild 21 = some (.istore_n 3, 1, 22) := by decide +kernel
theorem fX6_addChild_22 : zf mX6_addChild 22 = some (.aload_n 0, 1, 23) := by decide +kernel
theorem fX6_addChild_23 : zf mX6_addChild 23 = some (.dup, 1, 24) := by decide +kernel
theorem fX6_addChild_24 : zf mX6_addChild 24 = some (.getfield 9, 3, 27) := by decide +kernel
theorem fX6_addChild_27 : zf mX6_addChild 27 = some (.iconst 1, 1, 28) := by decide +kernel
theorem fX6_addChild_28 : zf mX6_addChild 28 = some (.iadd, 1, 29) := by decide +kernel
theorem fX6_addChild_29 : zf mX6_addChild 29 = some (.putfield 9, 3, 32) := by decide +kernel
theorem fX6_addChild_32 : zf mX6_addChild 32 = some (.aload_n 0, 1, 33) := by decide +kernel
theorem fX6_addChild_33 : zf mX6_addChild 33 = some (.getfield 15, 3, 36) := by decide +kernel
theorem fX6_addChild_36 : zf mX6_addChild 36 = some (.iload_n 3, 1, 37) := by decide +kernel
theorem fX6_addChild_37 : zf mX6_addChild 37 = some (.iload_n 1, 1, 38) := by decide +kernel
theorem fX6_addChild_38 : zf mX6_addChild 38 = some (.iastore, 1, 39) := by decide +kernel
theorem fX6_addChild_39 : zf mX6_addChild 39 = some (.aload_n 0, 1, 40) := by decide +kernel
theorem fX6_addChild_40 : zf mX6_addChild 40 = some (.getfield 19, 3, 43) := by decide +kernel
theorem fX6_addChild_43 : zf mX6_addChild 43 = some (.iload_n 3, 1, 44) := by decide +kernel
theorem fX6_addChild_44 : zf mX6_addChild 44 = some (.iload_n 2, 1, 45) := by decide +kernel
theorem fX6_addChild_45 : zf mX6_addChild 45 = some (.iastore, 1, 46) := by decide +kernel
theorem fX6_addChild_46 : zf mX6_addChild 46 = some (.aload_n 0, 1, 47) := by decide +kernel
theorem fX6_addChild_47 : zf mX6_addChild 47 = some (.getfield 22, 3, 50) := by decide +kernel
theorem fX6_addChild_50 : zf mX6_addChild 50 = some (.iload_n 1, 1, 51) := by decide +kernel
theorem fX6_addChild_51 : zf mX6_addChild 51 = some (.bipush 31, 2, 53) := by decide +kernel
theorem fX6_addChild_53 : zf mX6_addChild 53 = some (.imul, 1, 54) := by decide +kernel
theorem fX6_addChild_54 : zf mX6_addChild 54 = some (.aload_n 0, 1, 55) := by decide +kernel
theorem fX6_addChild_55 : zf mX6_addChild 55 = some (.getfield 22, 3, 58) := by decide +kernel
theorem fX6_addChild_58 : zf mX6_addChild 58 = some (.iload_n 3, 1, 59) := by decide +kernel
theorem fX6_addChild_59 : zf mX6_addChild 59 = some (.bipush 31, 2, 61) := by decide +kernel
theorem fX6_addChild_61 : zf mX6_addChild 61 = some (.imul, 1, 62) := by decide +kernel
theorem fX6_addChild_62 : zf mX6_addChild 62 = some (.bipush 31, 2, 64) := by decide +kernel
theorem fX6_addChild_64 : zf mX6_addChild 64 = some (.invokestatic 28, 3, 67) := by decide +kernel
theorem fX6_addChild_67 : zf mX6_addChild 67 = some (.iload_n 3, 1, 68) := by decide +kernel
theorem fX6_addChild_68 : zf mX6_addChild 68 = some (.ireturn, 1, 69) := by decide +kernel
theorem fX6_makePage_0 : zf mX6_makePage 0 = some (.aload_n 0, 1, 1) := by decide +kernel
theorem fX6_makePage_1 : zf mX6_makePage 1 = some (.iload_n 1, 1, 2) := by decide +kernel
theorem fX6_makePage_2 : zf mX6_makePage 2 = some (.invokevirtual 34, 3, 5) := by decide +kernel
theorem fX6_makePage_5 : zf mX6_makePage 5 = some (.ifCond .eq 34, 3, 8) := by decide +kernel
theorem fX6_makePage_8 : zf mX6_makePage 8 = some (.iload_n 2, 1, 9) := by decide +kernel
theorem fX6_makePage_9 : zf mX6_makePage 9 = some (.invokestatic 38, 3, 12) := by decide +kernel
theorem fX6_makePage_12 : zf mX6_makePage 12 = some (.ifCond .eq 27, 3, 15) := by decide +kernel
theorem fX6_makePage_15 : zf mX6_makePage 15 = some (.aload_n 0, 1, 16) := by decide +kernel
theorem fX6_makePage_16 : zf mX6_makePage 16 = some (.getfield 22, 3, 19) := by decide +kernel
theorem fX6_makePage_19 : zf mX6_makePage 19 = some (.iload_n 1, 1, 20) := by decide +kernel
theorem fX6_makePage_20 : zf mX6_makePage 20 = some (.bipush 31, 2, 22) := by decide +kernel
theorem fX6_makePage_22 : zf mX6_makePage 22 = some (.imul, 1, 23) := by decide +kernel
theorem fX6_makePage_23 : zf mX6_makePage 23 = some (.iload_n 2, 1, 24) := by decide +kernel
theorem fX6_makePage_24 : zf mX6_makePage 24 = some (.iadd, 1, 25) := by decide +kernel
theorem fX6_makePage_25 : zf mX6_makePage 25 = some (.iload_n 1, 1, 26) := by decide +kernel
theorem fX6_makePage_26 : zf mX6_makePage 26 = some (.iastore, 1, 27) := by decide +kernel
theorem fX6_makePage_27 : zf mX6_makePage 27 = some (.aload_n 0, 1, 28) := by decide +kernel
theorem fX6_makePage_28 : zf mX6_makePage 28 = some (.getfield 25, 3, 31) := by decide +kernel
theorem fX6_makePage_31 : zf mX6_makePage 31 = some (.iload_n 1, 1, 32) := by decide +kernel
theorem fX6_makePage_32 : zf mX6_makePage 32 = some (.bipush 31, 2, 34) := by decide +kernel
theorem fX6_makePage_34 : zf mX6_makePage 34 = some (.imul, 1, 35) := by decide +kernel
theorem fX6_makePage_35 : zf mX6_makePage 35 = some (.iload_n 2, 1, 36) := by decide +kernel
theorem fX6_makePage_36 : zf mX6_makePage 36 = some (.iadd, 1, 37) := by decide +kernel
theorem fX6_makePage_37 : zf mX6_makePage 37 = some (.iload_n 3, 1, 38) := by decide +kernel
theorem fX6_makePage_38 : zf mX6_makePage 38 = some (.iastore, 1, 39) := by decide +kernel
theorem fX6_makePage_39 : zf mX6_makePage 39 = some (.return_, 1, 40) := by decide +kernel
theorem fX6_takePage_0 : zf mX6_takePage 0 = some (.aload_n 0, 1, 1) := by decide +kernel
theorem fX6_takePage_1 : zf mX6_takePage 1 = some (.iload_n 1, 1, 2) := by decide +kernel
theorem fX6_takePage_2 : zf mX6_takePage 2 = some (.invokevirtual 34, 3, 5) := by decide +kernel
theorem fX6_takePage_5 : zf mX6_takePage 5 = some (.ifCond .eq 40, 3, 8) := by decide +kernel
theorem fX6_takePage_8 : zf mX6_takePage 8 = some (.aload_n 0, 1, 9) := by decide +kernel
theorem fX6_takePage_9 : zf mX6_takePage 9 = some (.iload_n 3, 1, 10) := by decide +kernel
theorem fX6_takePage_10 : zf mX6_takePage 10 = some (.invokevirtual 34, 3, 13) := by decide +kernel
theorem fX6_takePage_13 : zf mX6_takePage 13 = some (.ifCond .eq 32, 3, 16) := by decide +kernel
theorem fX6_takePage_16 : zf mX6_takePage 16 = some (.iload_n 2, 1, 17) := by decide +kernel
theorem fX6_takePage_17 : zf mX6_takePage 17 = some (.invokestatic 38, 3, 20) := by decide +kernel
theorem fX6_takePage_20 : zf mX6_takePage 20 = some (.ifCond .eq 25, 3, 23) := by decide +kernel
theorem fX6_takePage_23 : zf mX6_takePage 23 = some (.aload_n 0, 1, 24) := by decide +kernel
theorem fX6_takePage_24 : zf mX6_takePage 24 = some (.getfield 22, 3, 27) := by decide +kernel
theorem fX6_takePage_27 : zf mX6_takePage 27 = some (.iload_n 1, 1, 28) := by decide +kernel
theorem fX6_takePage_28 : zf mX6_takePage 28 = some (.bipush 31, 2, 30) := by decide +kernel
theorem fX6_takePage_30 : zf mX6_takePage 30 = some (.imul, 1, 31) := by decide +kernel
theorem fX6_takePage_31 : zf mX6_takePage 31 = some (.iload_n 2, 1, 32) := by decide +kernel
theorem fX6_takePage_32 : zf mX6_takePage 32 = some (.iadd, 1, 33) := by decide +kernel
theorem fX6_takePage_33 : zf mX6_takePage 33 = some (.aload_n 0, 1, 34) := by decide +kernel
theorem fX6_takePage_34 : zf mX6_takePage 34 = some (.getfield 22, 3, 37) := by decide +kernel
theorem fX6_takePage_37 : zf mX6_takePage 37 = some (.iload_n 3, 1, 38) := by decide +kernel
theorem fX6_takePage_38 : zf mX6_takePage 38 = some (.bipush 31, 2, 40) := by decide +kernel
theorem fX6_takePage_40 : zf mX6_takePage 40 = some (.imul, 1, 41) := by decide +kernel
theorem fX6_takePage_41 : zf mX6_takePage 41 = some (.iload_n 2, 1, 42) := by decide +kernel
theorem fX6_takePage_42 : zf mX6_takePage 42 = some (.iadd, 1, 43) := by decide +kernel
theorem fX6_takePage_43 : zf mX6_takePage 43 = some (.iaload, 1, 44) := by decide +kernel
theorem fX6_takePage_44 : zf mX6_takePage 44 = some (.iastore, 1, 45) := by decide +kernel
theorem fX6_takePage_45 : zf mX6_takePage 45 = some (.return_, 1, 46) := by decide +kernel
theorem fX6_totalOfHalves_0 : zf mX6_totalOfHalves 0 = some (.aload_n 0, 1, 1) := by decide +kernel
theorem fX6_totalOfHalves_1 : zf mX6_totalOfHalves 1 = some (.iload_n 1, 1, 2) := by decide +kernel
theorem fX6_totalOfHalves_2 : zf mX6_totalOfHalves 2 = some (.iconst 2, 1, 3) := by decide +kernel
theorem fX6_totalOfHalves_3 : zf mX6_totalOfHalves 3 = some (.iload_n 2, 1, 4) := by decide +kernel
theorem fX6_totalOfHalves_4 : zf mX6_totalOfHalves 4 = some (.imul, 1, 5) := by decide +kernel
theorem fX6_totalOfHalves_5 : zf mX6_totalOfHalves 5 = some (.iconst 1, 1, 6) := by decide +kernel
theorem fX6_totalOfHalves_6 : zf mX6_totalOfHalves 6 = some (.iadd, 1, 7) := by decide +kernel
theorem fX6_totalOfHalves_7 : zf mX6_totalOfHalves 7 = some (.invokevirtual 41, 3, 10) := by decide +kernel
theorem fX6_totalOfHalves_10 : zf mX6_totalOfHalves 10 = some (.aload_n 0, 1, 11) := by decide +kernel
theorem fX6_totalOfHalves_11 : zf mX6_totalOfHalves 11 = some (.iload_n 1, 1, 12) := by decide +kernel
theorem fX6_totalOfHalves_12 : zf mX6_totalOfHalves 12 = some (.iconst 2, 1, 13) := by decide +kernel
theorem fX6_totalOfHalves_13 : zf mX6_totalOfHalves 13 = some (.iload_n 2, 1, 14) := by decide +kernel
theorem fX6_totalOfHalves_14 : zf mX6_totalOfHalves 14 = some (.imul, 1, 15) := by decide +kernel
theorem fX6_totalOfHalves_15 : zf mX6_totalOfHalves 15 = some (.iconst 2, 1, 16) := by decide +kernel
theorem fX6_totalOfHalves_16 : zf mX6_totalOfHalves 16 = some (.iadd, 1, 17) := by decide +kernel
theorem fX6_totalOfHalves_17 : zf mX6_totalOfHalves 17 = some (.invokevirtual 41, 3, 20) := by decide +kernel
theorem fX6_totalOfHalves_20 : zf mX6_totalOfHalves 20 = some (.iadd, 1, 21) := by decide +kernel
theorem fX6_totalOfHalves_21 : zf mX6_totalOfHalves 21 = some (.ireturn, 1, 22) := by decide +kernel
theorem fX6_sumByPages_0 : zf mX6_sumByPages 0 = some (.iconst 0, 1, 1) := by decide +kernel
theorem fX6_sumByPages_1 : zf mX6_sumByPages 1 = some (.istore 4, 2, 3) := by decide +kernel
theorem fX6_sumByPages_3 : zf mX6_sumByPages 3 = some (.iconst 0, 1, 4) := by decide +kernel
theorem fX6_sumByPages_4 : zf mX6_sumByPages 4 = some (.istore 5, 2, 6) := by decide +kernel
theorem fX6_sumByPages_6 : zf mX6_sumByPages 6 = some (.iload 5, 2, 8) := by decide +kernel
theorem fX6_sumByPages_8 : zf mX6_sumByPages 8 = some (.bipush 31, 2, 10) := by decide +kernel
theorem fX6_sumByPages_10 : zf mX6_sumByPages 10 = some (.if_icmp .ge 62, 3, 13) := by decide +kernel
theorem fX6_sumByPages_13 : zf mX6_sumByPages 13 = some (.iload 5, 2, 15) := by decide +kernel
theorem fX6_sumByPages_15 : zf mX6_sumByPages 15 = some (.ifCond .le 21, 3, 18) := by decide +kernel
theorem fX6_sumByPages_18 : zf mX6_sumByPages 18 = some (.iload 5, 2, 20) := by decide +kernel
theorem fX6_sumByPages_20 : zf mX6_sumByPages 20 = some (.iconst 1, 1, 21) := by decide +kernel
theorem fX6_sumByPages_21 : zf mX6_sumByPages 21 = some (.isub, 1, 22) := by decide +kernel
theorem fX6_sumByPages_22 : zf mX6_sumByPages 22 = some (.iconst 2, 1, 23) := by decide +kernel
theorem fX6_sumByPages_23 : zf mX6_sumByPages 23 = some (.idiv, 1, 24) := by decide +kernel
theorem fX6_sumByPages_24 : zf mX6_sumByPages 24 = some (.iload_n 2, 1, 25) := by decide +kernel
theorem fX6_sumByPages_25 : zf mX6_sumByPages 25 = some (.iload_n 3, 1, 26) := by decide +kernel
theorem fX6_sumByPages_26 : zf mX6_sumByPages 26 = some (.invokestatic 59, 3, 29) := by decide +kernel
theorem fX6_sumByPages_29 : zf mX6_sumByPages 29 = some (.ifCond .eq 7, 3, 32) := by decide +kernel
theorem fX6_sumByPages_32 : zf mX6_sumByPages 32 = some (.iconst 1, 1, 33) := by decide +kernel
theorem fX6_sumByPages_33 : zf mX6_sumByPages 33 = some (.goto 4, 3, 36) := by decide +kernel
theorem fX6_sumByPages_36 : zf mX6_sumByPages 36 = some (.iconst 0, 1, 37) := by decide +kernel
theorem fX6_sumByPages_37 : zf mX6_sumByPages 37 = some (.istore 6, 2, 39) := by decide +kernel
theorem fX6_sumByPages_39 : zf mX6_sumByPages 39 = some (.iload 6, 2, 41) := by decide +kernel
theorem fX6_sumByPages_41 : zf mX6_sumByPages 41 = some (.ifCond .ne 25, 3, 44) := by decide +kernel
theorem fX6_sumByPages_44 : zf mX6_sumByPages 44 = some (.iload 5, 2, 46) := by decide +kernel
theorem fX6_sumByPages_46 : zf mX6_sumByPages 46 = some (.iload_n 2, 1, 47) := by decide +kernel
theorem fX6_sumByPages_47 : zf mX6_sumByPages 47 = some (.iload_n 3, 1, 48) := by decide +kernel
theorem fX6_sumByPages_48 : zf mX6_sumByPages 48 = some (.invokestatic 59, 3, 51) := by decide +kernel
theorem fX6_sumByPages_51 : zf mX6_sumByPages 51 = some (.ifCond .eq 15, 3, 54) := by decide +kernel
theorem fX6_sumByPages_54 : zf mX6_sumByPages 54 = some (.iload 4, 2, 56) := by decide +kernel
theorem fX6_sumByPages_56 : zf mX6_sumByPages 56 = some (.aload_n 0, 1, 57) := by decide +kernel
theorem fX6_sumByPages_57 : zf mX6_sumByPages 57 = some (.iload_n 1, 1, 58) := by decide +kernel
theorem fX6_sumByPages_58 : zf mX6_sumByPages 58 = some (.iload 5, 2, 60) := by decide +kernel
theorem fX6_sumByPages_60 : zf mX6_sumByPages 60 = some (.invokevirtual 41, 3, 63) := by decide +kernel
theorem fX6_sumByPages_63 : zf mX6_sumByPages 63 = some (.iadd, 1, 64) := by decide +kernel
theorem fX6_sumByPages_64 : zf mX6_sumByPages 64 = some (.istore 4, 2, 66) := by decide +kernel
theorem fX6_sumByPages_66 : zf mX6_sumByPages 66 = some (.iinc 5 1, 3, 69) := by decide +kernel
theorem fX6_sumByPages_69 : zf mX6_sumByPages 69 = some (.goto (-63), 3, 72) := by decide +kernel
theorem fX6_sumByPages_72 : zf mX6_sumByPages 72 = some (.iload 4, 2, 74) := by decide +kernel
theorem fX6_sumByPages_74 : zf mX6_sumByPages 74 = some (.ireturn, 1, 75) := by decide +kernel
theorem fX6_sumByLines_0 : zf mX6_sumByLines 0 = some (.iconst 0, 1, 1) := by decide +kernel
theorem fX6_sumByLines_1 : zf mX6_sumByLines 1 = some (.istore 4, 2, 3) := by decide +kernel
theorem fX6_sumByLines_3 : zf mX6_sumByLines 3 = some (.iconst 0, 1, 4) := by decide +kernel
theorem fX6_sumByLines_4 : zf mX6_sumByLines 4 = some (.istore 5, 2, 6) := by decide +kernel
theorem fX6_sumByLines_6 : zf mX6_sumByLines 6 = some (.iload 5, 2, 8) := by decide +kernel
theorem fX6_sumByLines_8 : zf mX6_sumByLines 8 = some (.bipush 16, 2, 10) := by decide +kernel
theorem fX6_sumByLines_10 : zf mX6_sumByLines 10 = some (.if_icmp .ge 33, 3, 13) := by decide +kernel
theorem fX6_sumByLines_13 : zf mX6_sumByLines 13 = some (.iload 5, 2, 15) := by decide +kernel
theorem fX6_sumByLines_15 : zf mX6_sumByLines 15 = some (.iload_n 2, 1, 16) := by decide +kernel
theorem fX6_sumByLines_16 : zf mX6_sumByLines 16 = some (.if_icmp .lt 21, 3, 19) := by decide +kernel
theorem fX6_sumByLines_19 : zf mX6_sumByLines 19 = some (.iload 5, 2, 21) := by decide +kernel
theorem fX6_sumByLines_21 : zf mX6_sumByLines 21 = some (.iload_n 3, 1, 22) := by decide +kernel
theorem fX6_sumByLines_22 : zf mX6_sumByLines 22 = some (.if_icmp .gt 15, 3, 25) := by decide +kernel
theorem fX6_sumByLines_25 : zf mX6_sumByLines 25 = some (.iload 4, 2, 27) := by decide +kernel
theorem fX6_sumByLines_27 : zf mX6_sumByLines 27 = some (.aload_n 0, 1, 28) := by decide +kernel
theorem fX6_sumByLines_28 : zf mX6_sumByLines 28 = some (.iload_n 1, 1, 29) := by decide +kernel
theorem fX6_sumByLines_29 : zf mX6_sumByLines 29 = some (.iload 5, 2, 31) := by decide +kernel
theorem fX6_sumByLines_31 : zf mX6_sumByLines 31 = some (.invokevirtual 69, 3, 34) := by decide +kernel
theorem fX6_sumByLines_34 : zf mX6_sumByLines 34 = some (.iadd, 1, 35) := by decide +kernel
theorem fX6_sumByLines_35 : zf mX6_sumByLines 35 = some (.istore 4, 2, 37) := by decide +kernel
theorem fX6_sumByLines_37 : zf mX6_sumByLines 37 = some (.iinc 5 1, 3, 40) := by decide +kernel
theorem fX6_sumByLines_40 : zf mX6_sumByLines 40 = some (.goto (-34), 3, 43) := by decide +kernel
theorem fX6_sumByLines_43 : zf mX6_sumByLines 43 = some (.iload 4, 2, 45) := by decide +kernel
theorem fX6_sumByLines_45 : zf mX6_sumByLines 45 = some (.ireturn, 1, 46) := by decide +kernel
theorem fX6_lineWithMost_0 : zf mX6_lineWithMost 0 = some (.iload_n 2, 1, 1) := by decide +kernel
theorem fX6_lineWithMost_1 : zf mX6_lineWithMost 1 = some (.istore 4, 2, 3) := by decide +kernel
theorem fX6_lineWithMost_3 : zf mX6_lineWithMost 3 = some (.iconst 0, 1, 4) := by decide +kernel
theorem fX6_lineWithMost_4 : zf mX6_lineWithMost 4 = some (.istore 5, 2, 6) := by decide +kernel
theorem fX6_lineWithMost_6 : zf mX6_lineWithMost 6 = some (.iload 5, 2, 8) := by decide +kernel
theorem fX6_lineWithMost_8 : zf mX6_lineWithMost 8 = some (.bipush 16, 2, 10) := by decide +kernel
theorem fX6_lineWithMost_10 : zf mX6_lineWithMost 10 = some (.if_icmp .ge 42, 3, 13) := by decide +kernel
theorem fX6_lineWithMost_13 : zf mX6_lineWithMost 13 = some (.iload 5, 2, 15) := by decide +kernel
theorem fX6_lineWithMost_15 : zf mX6_lineWithMost 15 = some (.iload_n 2, 1, 16) := by decide +kernel
theorem fX6_lineWithMost_16 : zf mX6_lineWithMost 16 = some (.if_icmp .le 30, 3, 19) := by decide +kernel
theorem fX6_lineWithMost_19 : zf mX6_lineWithMost 19 = some (.iload 5, 2, 21) := by decide +kernel
theorem fX6_lineWithMost_21 : zf mX6_lineWithMost 21 = some (.iload_n 3, 1, 22) := by decide +kernel
theorem fX6_lineWithMost_22 : zf mX6_lineWithMost 22 = some (.if_icmp .gt 24, 3, 25) := by decide +kernel
theorem fX6_lineWithMost_25 : zf mX6_lineWithMost 25 = some (.aload_n 0, 1, 26) := by decide +kernel
theorem fX6_lineWithMost_26 : zf mX6_lineWithMost 26 = some (.iload_n 1, 1, 27) := by decide +kernel
theorem fX6_lineWithMost_27 : zf mX6_lineWithMost 27 = some (.iload 5, 2, 29) := by decide +kernel
theorem fX6_lineWithMost_29 : zf mX6_lineWithMost 29 = some (.invokevirtual 69, 3, 32) := by decide +kernel
theorem fX6_lineWithMost_32 : zf mX6_lineWithMost 32 = some (.aload_n 0, 1, 33) := by decide +kernel
theorem fX6_lineWithMost_33 : zf mX6_lineWithMost 33 = some (.iload_n 1, 1, 34) := by decide +kernel
theorem fX6_lineWithMost_34 : zf mX6_lineWithMost 34 = some (.iload 4, 2, 36) := by decide +kernel
theorem fX6_lineWithMost_36 : zf mX6_lineWithMost 36 = some (.invokevirtual 69, 3, 39) := by decide +kernel
theorem fX6_lineWithMost_39 : zf mX6_lineWithMost 39 = some (.if_icmp .le 7, 3, 42) := by decide +kernel
theorem fX6_lineWithMost_42 : zf mX6_lineWithMost 42 = some (.iload 5, 2, 44) := by decide +kernel
theorem fX6_lineWithMost_44 : zf mX6_lineWithMost 44 = some (.istore 4, 2, 46) := by decide +kernel
theorem fX6_lineWithMost_46 : zf mX6_lineWithMost 46 = some (.iinc 5 1, 3, 49) := by decide +kernel
theorem fX6_lineWithMost_49 : zf mX6_lineWithMost 49 = some (.goto (-43), 3, 52) := by decide +kernel
theorem fX6_lineWithMost_52 : zf mX6_lineWithMost 52 = some (.iload 4, 2, 54) := by decide +kernel
theorem fX6_lineWithMost_54 : zf mX6_lineWithMost 54 = some (.ireturn, 1, 55) := by decide +kernel
theorem fX6_lineReaching_0 : zf mX6_lineReaching 0 = some (.iconst 0, 1, 1) := by decide +kernel
theorem fX6_lineReaching_1 : zf mX6_lineReaching 1 = some (.istore_n 3, 1, 2) := by decide +kernel
theorem fX6_lineReaching_2 : zf mX6_lineReaching 2 = some (.iconst 0, 1, 3) := by decide +kernel
theorem fX6_lineReaching_3 : zf mX6_lineReaching 3 = some (.istore 4, 2, 5) := by decide +kernel
theorem fX6_lineReaching_5 : zf mX6_lineReaching 5 = some (.iload 4, 2, 7) := by decide +kernel
theorem fX6_lineReaching_7 : zf mX6_lineReaching 7 = some (.bipush 16, 2, 9) := by decide +kernel
theorem fX6_lineReaching_9 : zf mX6_lineReaching 9 = some (.if_icmp .ge 27, 3, 12) := by decide +kernel
theorem fX6_lineReaching_12 : zf mX6_lineReaching 12 = some (.iload_n 3, 1, 13) := by decide +kernel
theorem fX6_lineReaching_13 : zf mX6_lineReaching 13 = some (.aload_n 0, 1, 14) := by decide +kernel
theorem fX6_lineReaching_14 : zf mX6_lineReaching 14 = some (.iload_n 1, 1, 15) := by decide +kernel
theorem fX6_lineReaching_15 : zf mX6_lineReaching 15 = some (.iload 4, 2, 17) := by decide +kernel
theorem fX6_lineReaching_17 : zf mX6_lineReaching 17 = some (.invokevirtual 69, 3, 20) := by decide +kernel
theorem fX6_lineReaching_20 : zf mX6_lineReaching 20 = some (.iadd, 1, 21) := by decide +kernel
theorem fX6_lineReaching_21 : zf mX6_lineReaching 21 = some (.istore_n 3, 1, 22) := by decide +kernel
theorem fX6_lineReaching_22 : zf mX6_lineReaching 22 = some (.iload_n 3, 1, 23) := by decide +kernel
theorem fX6_lineReaching_23 : zf mX6_lineReaching 23 = some (.iload_n 2, 1, 24) := by decide +kernel
theorem fX6_lineReaching_24 : zf mX6_lineReaching 24 = some (.if_icmp .lt 6, 3, 27) := by decide +kernel
theorem fX6_lineReaching_27 : zf mX6_lineReaching 27 = some (.iload 4, 2, 29) := by decide +kernel
theorem fX6_lineReaching_29 : zf mX6_lineReaching 29 = some (.ireturn, 1, 30) := by decide +kernel
theorem fX6_lineReaching_30 : zf mX6_lineReaching 30 = some (.iinc 4 1, 3, 33) := by decide +kernel
theorem fX6_lineReaching_33 : zf mX6_lineReaching 33 = some (.goto (-28), 3, 36) := by decide +kernel
theorem fX6_lineReaching_36 : zf mX6_lineReaching 36 = some (.iconst (-1), 1, 37) := by decide +kernel
theorem fX6_lineReaching_37 : zf mX6_lineReaching 37 = some (.ireturn, 1, 38) := by decide +kernel
theorem fX6_earlier_0 : zf mX6_earlier 0 = some (.iload_n 1, 1, 1) := by decide +kernel
theorem fX6_earlier_1 : zf mX6_earlier 1 = some (.istore_n 3, 1, 2) := by decide +kernel
theorem fX6_earlier_2 : zf mX6_earlier 2 = some (.iconst 0, 1, 3) := by decide +kernel
theorem fX6_earlier_3 : zf mX6_earlier 3 = some (.istore 4, 2, 5) := by decide +kernel
theorem fX6_earlier_5 : zf mX6_earlier 5 = some (.iload 4, 2, 7) := by decide +kernel
theorem fX6_earlier_7 : zf mX6_earlier 7 = some (.iload_n 2, 1, 8) := by decide +kernel
theorem fX6_earlier_8 : zf mX6_earlier 8 = some (.if_icmp .ge 20, 3, 11) := by decide +kernel
theorem fX6_earlier_11 : zf mX6_earlier 11 = some (.iload_n 3, 1, 12) := by decide +kernel
theorem fX6_earlier_12 : zf mX6_earlier 12 = some (.iconst (-1), 1, 13) := by decide +kernel
theorem fX6_earlier_13 : zf mX6_earlier 13 = some (.if_icmp .eq 15, 3, 16) := by decide +kernel
theorem fX6_earlier_16 : zf mX6_earlier 16 = some (.aload_n 0, 1, 17) := by decide +kernel
theorem fX6_earlier_17 : zf mX6_earlier 17 = some (.iload_n 3, 1, 18) := by decide +kernel
theorem fX6_earlier_18 : zf mX6_earlier 18 = some (.invokevirtual 72, 3, 21) := by decide +kernel
theorem fX6_earlier_21 : zf mX6_earlier 21 = some (.istore_n 3, 1, 22) := by decide +kernel
theorem fX6_earlier_22 : zf mX6_earlier 22 = some (.iinc 4 1, 3, 25) := by decide +kernel
theorem fX6_earlier_25 : zf mX6_earlier 25 = some (.goto (-20), 3, 28) := by decide +kernel
theorem fX6_earlier_28 : zf mX6_earlier 28 = some (.iload_n 3, 1, 29) := by decide +kernel
theorem fX6_earlier_29 : zf mX6_earlier 29 = some (.ireturn, 1, 30) := by decide +kernel
theorem fX6_ancestorsOf_0 : zf mX6_ancestorsOf 0 = some (.iconst 0, 1, 1) := by decide +kernel
theorem fX6_ancestorsOf_1 : zf mX6_ancestorsOf 1 = some (.istore_n 2, 1, 2) := by decide +kernel
theorem fX6_ancestorsOf_2 : zf mX6_ancestorsOf 2 = some (.aload_n 0, 1, 3) := by decide +kernel
theorem fX6_ancestorsOf_3 : zf mX6_ancestorsOf 3 = some (.iload_n 1, 1, 4) := by decide +kernel
theorem fX6_ancestorsOf_4 : zf mX6_ancestorsOf 4 = some (.invokevirtual 72, 3, 7) := by decide +kernel
theorem fX6_ancestorsOf_7 : zf mX6_ancestorsOf 7 = some (.istore_n 3, 1, 8) := by decide +kernel
theorem fX6_ancestorsOf_8 : zf mX6_ancestorsOf 8 = some (.iload_n 2, 1, 9) := by decide +kernel
theorem fX6_ancestorsOf_9 : zf mX6_ancestorsOf 9 = some (.bipush 40, 2, 11) := by decide +kernel
theorem fX6_ancestorsOf_11 : zf mX6_ancestorsOf 11 = some (.if_icmp .ge 20, 3, 14) := by decide +kernel
theorem fX6_ancestorsOf_14 : zf mX6_ancestorsOf 14 = some (.iload_n 3, 1, 15) := by decide +kernel
theorem fX6_ancestorsOf_15 : zf mX6_ancestorsOf 15 = some (.iconst (-1), 1, 16) := by decide +kernel
theorem fX6_ancestorsOf_16 : zf mX6_ancestorsOf 16 = some (.if_icmp .eq 15, 3, 19) := by decide +kernel
theorem fX6_ancestorsOf_19 : zf mX6_ancestorsOf 19 = some (.iinc 2 1, 3, 22) := by decide +kernel
theorem fX6_ancestorsOf_22 : zf mX6_ancestorsOf 22 = some (.aload_n 0, 1, 23) := by decide +kernel
theorem fX6_ancestorsOf_23 : zf mX6_ancestorsOf 23 = some (.iload_n 3, 1, 24) := by decide +kernel
theorem fX6_ancestorsOf_24 : zf mX6_ancestorsOf 24 = some (.invokevirtual 72, 3, 27) := by decide +kernel
theorem fX6_ancestorsOf_27 : zf mX6_ancestorsOf 27 = some (.istore_n 3, 1, 28) := by decide +kernel
theorem fX6_ancestorsOf_28 : zf mX6_ancestorsOf 28 = some (.goto (-20), 3, 31) := by decide +kernel
theorem fX6_ancestorsOf_31 : zf mX6_ancestorsOf 31 = some (.iload_n 2, 1, 32) := by decide +kernel
theorem fX6_ancestorsOf_32 : zf mX6_ancestorsOf 32 = some (.ireturn, 1, 33) := by decide +kernel
theorem fX6_childrenOf_0 : zf mX6_childrenOf 0 = some (.iconst 0, 1, 1) := by decide +kernel
theorem fX6_childrenOf_1 : zf mX6_childrenOf 1 = some (.istore_n 2, 1, 2) := by decide +kernel
theorem fX6_childrenOf_2 : zf mX6_childrenOf 2 = some (.iconst 1, 1, 3) := by decide +kernel
theorem fX6_childrenOf_3 : zf mX6_childrenOf 3 = some (.istore_n 3, 1, 4) := by decide +kernel
theorem fX6_childrenOf_4 : zf mX6_childrenOf 4 = some (.iload_n 3, 1, 5) := by decide +kernel
theorem fX6_childrenOf_5 : zf mX6_childrenOf 5 = some (.aload_n 0, 1, 6) := by decide +kernel
theorem fX6_childrenOf_6 : zf mX6_childrenOf 6 = some (.getfield 9, 3, 9) := by decide +kernel
theorem fX6_childrenOf_9 : zf mX6_childrenOf 9 = some (.if_icmp .ge 21, 3, 12) := by decide +kernel
theorem fX6_childrenOf_12 : zf mX6_childrenOf 12 = some (.aload_n 0, 1, 13) := by decide +kernel
theorem fX6_childrenOf_13 : zf mX6_childrenOf 13 = some (.iload_n 3, 1, 14) := by decide +kernel
theorem fX6_childrenOf_14 : zf mX6_childrenOf 14 = some (.invokevirtual 72, 3, 17) := by decide +kernel
theorem fX6_childrenOf_17 : zf mX6_childrenOf 17 = some (.iload_n 1, 1, 18) := by decide +kernel
theorem fX6_childrenOf_18 : zf mX6_childrenOf 18 = some (.if_icmp .ne 6, 3, 21) := by decide +kernel
theorem fX6_childrenOf_21 : zf mX6_childrenOf 21 = some (.iinc 2 1, 3, 24) := by decide +kernel
theorem fX6_childrenOf_24 : zf mX6_childrenOf 24 = some (.iinc 3 1, 3, 27) := by decide +kernel
theorem fX6_childrenOf_27 : zf mX6_childrenOf 27 = some (.goto (-23), 3, 30) := by decide +kernel
theorem fX6_childrenOf_30 : zf mX6_childrenOf 30 = some (.iload_n 2, 1, 31) := by decide +kernel
theorem fX6_childrenOf_31 : zf mX6_childrenOf 31 = some (.ireturn, 1, 32) := by decide +kernel
theorem fX6_withoutChildren_0 : zf mX6_withoutChildren 0 = some (.iconst 0, 1, 1) := by decide +kernel
theorem fX6_withoutChildren_1 : zf mX6_withoutChildren 1 = some (.istore_n 1, 1, 2) := by decide +kernel
theorem fX6_withoutChildren_2 : zf mX6_withoutChildren 2 = some (.iconst 0, 1, 3) := by decide +kernel
theorem fX6_withoutChildren_3 : zf mX6_withoutChildren 3 = some (.istore_n 2, 1, 4) := by decide +kernel
theorem fX6_withoutChildren_4 : zf mX6_withoutChildren 4 = some (.iload_n 2, 1, 5) := by decide +kernel
theorem fX6_withoutChildren_5 : zf mX6_withoutChildren 5 = some (.aload_n 0, 1, 6) := by decide +kernel
theorem fX6_withoutChildren_6 : zf mX6_withoutChildren 6 = some (.getfield 9, 3, 9) := by decide +kernel
theorem fX6_withoutChildren_9 : zf mX6_withoutChildren 9 = some (.if_icmp .ge 20, 3, 12) := by decide +kernel
theorem fX6_withoutChildren_12 : zf mX6_withoutChildren 12 = some (.aload_n 0, 1, 13) := by decide +kernel
theorem fX6_withoutChildren_13 : zf mX6_withoutChildren 13 = some (.iload_n 2, 1, 14) := by decide +kernel
theorem fX6_withoutChildren_14 : zf mX6_withoutChildren 14 = some (.invokevirtual 76, 3, 17) := by decide +kernel
theorem fX6_withoutChildren_17 : zf mX6_withoutChildren 17 = some (.ifCond .ne 6, 3, 20) := by decide +kernel
theorem fX6_withoutChildren_20 : zf mX6_withoutChildren 20 = some (.iinc 1 1, 3, 23) := by decide +kernel
theorem fX6_withoutChildren_23 : zf mX6_withoutChildren 23 = some (.iinc 2 1, 3, 26) := by decide +kernel
theorem fX6_withoutChildren_26 : zf mX6_withoutChildren 26 = some (.goto (-22), 3, 29) := by decide +kernel
theorem fX6_withoutChildren_29 : zf mX6_withoutChildren 29 = some (.iload_n 1, 1, 30) := by decide +kernel
theorem fX6_withoutChildren_30 : zf mX6_withoutChildren 30 = some (.ireturn, 1, 31) := by decide +kernel
theorem fX6_pagesMadeBy_0 : zf mX6_pagesMadeBy 0 = some (.iconst 0, 1, 1) := by decide +kernel
theorem fX6_pagesMadeBy_1 : zf mX6_pagesMadeBy 1 = some (.istore_n 2, 1, 2) := by decide +kernel
theorem fX6_pagesMadeBy_2 : zf mX6_pagesMadeBy 2 = some (.iconst 0, 1, 3) := by decide +kernel
theorem fX6_pagesMadeBy_3 : zf mX6_pagesMadeBy 3 = some (.istore_n 3, 1, 4) := by decide +kernel
theorem fX6_pagesMadeBy_4 : zf mX6_pagesMadeBy 4 = some (.iload_n 3, 1, 5) := by decide +kernel
theorem fX6_pagesMadeBy_5 : zf mX6_pagesMadeBy 5 = some (.bipush 31, 2, 7) := by decide +kernel
theorem fX6_pagesMadeBy_7 : zf mX6_pagesMadeBy 7 = some (.if_icmp .ge 22, 3, 10) := by decide +kernel
theorem fX6_pagesMadeBy_10 : zf mX6_pagesMadeBy 10 = some (.aload_n 0, 1, 11) := by decide +kernel
theorem fX6_pagesMadeBy_11 : zf mX6_pagesMadeBy 11 = some (.iload_n 1, 1, 12) := by decide +kernel
theorem fX6_pagesMadeBy_12 : zf mX6_pagesMadeBy 12 = some (.iload_n 3, 1, 13) := by decide +kernel
theorem fX6_pagesMadeBy_13 : zf mX6_pagesMadeBy 13 = some (.invokevirtual 79, 3, 16) := by decide +kernel
theorem fX6_pagesMadeBy_16 : zf mX6_pagesMadeBy 16 = some (.iload_n 1, 1, 17) := by decide +kernel
theorem fX6_pagesMadeBy_17 : zf mX6_pagesMadeBy 17 = some (.if_icmp .ne 6, 3, 20) := by decide +kernel
theorem fX6_pagesMadeBy_20 : zf mX6_pagesMadeBy 20 = some (.iinc 2 1, 3, 23) := by decide +kernel
theorem fX6_pagesMadeBy_23 : zf mX6_pagesMadeBy 23 = some (.iinc 3 1, 3, 26) := by decide +kernel
theorem fX6_pagesMadeBy_26 : zf mX6_pagesMadeBy 26 = some (.goto (-22), 3, 29) := by decide +kernel
theorem fX6_pagesMadeBy_29 : zf mX6_pagesMadeBy 29 = some (.iload_n 2, 1, 30) := by decide +kernel
theorem fX6_pagesMadeBy_30 : zf mX6_pagesMadeBy 30 = some (.ireturn, 1, 31) := by decide +kernel
theorem fX6_pagesMade_0 : zf mX6_pagesMade 0 = some (.iconst 0, 1, 1) := by decide +kernel
theorem fX6_pagesMade_1 : zf mX6_pagesMade 1 = some (.istore_n 1, 1, 2) := by decide +kernel
theorem fX6_pagesMade_2 : zf mX6_pagesMade 2 = some (.iconst 0, 1, 3) := by decide +kernel
theorem fX6_pagesMade_3 : zf mX6_pagesMade 3 = some (.istore_n 2, 1, 4) := by decide +kernel
theorem fX6_pagesMade_4 : zf mX6_pagesMade 4 = some (.iload_n 2, 1, 5) := by decide +kernel
theorem fX6_pagesMade_5 : zf mX6_pagesMade 5 = some (.aload_n 0, 1, 6) := by decide +kernel
theorem fX6_pagesMade_6 : zf mX6_pagesMade 6 = some (.getfield 9, 3, 9) := by decide +kernel
theorem fX6_pagesMade_9 : zf mX6_pagesMade 9 = some (.if_icmp .ge 17, 3, 12) := by decide +kernel
theorem fX6_pagesMade_12 : zf mX6_pagesMade 12 = some (.iload_n 1, 1, 13) := by decide +kernel
theorem fX6_pagesMade_13 : zf mX6_pagesMade 13 = some (.aload_n 0, 1, 14) := by decide +kernel
theorem fX6_pagesMade_14 : zf mX6_pagesMade 14 = some (.iload_n 2, 1, 15) := by decide +kernel
theorem fX6_pagesMade_15 : zf mX6_pagesMade 15 = some (.invokevirtual 82, 3, 18) := by decide +kernel
theorem fX6_pagesMade_18 : zf mX6_pagesMade 18 = some (.iadd, 1, 19) := by decide +kernel
theorem fX6_pagesMade_19 : zf mX6_pagesMade 19 = some (.istore_n 1, 1, 20) := by decide +kernel
theorem fX6_pagesMade_20 : zf mX6_pagesMade 20 = some (.iinc 2 1, 3, 23) := by decide +kernel
theorem fX6_pagesMade_23 : zf mX6_pagesMade 23 = some (.goto (-19), 3, 26) := by decide +kernel
theorem fX6_pagesMade_26 : zf mX6_pagesMade 26 = some (.iload_n 1, 1, 27) := by decide +kernel
theorem fX6_pagesMade_27 : zf mX6_pagesMade 27 = some (.ireturn, 1, 28) := by decide +kernel
theorem fX6_linesNewIn_0 : zf mX6_linesNewIn 0 = some (.aload_n 0, 1, 1) := by decide +kernel
theorem fX6_linesNewIn_1 : zf mX6_linesNewIn 1 = some (.iload_n 1, 1, 2) := by decide +kernel
theorem fX6_linesNewIn_2 : zf mX6_linesNewIn 2 = some (.invokevirtual 72, 3, 5) := by decide +kernel
theorem fX6_linesNewIn_5 : zf mX6_linesNewIn 5 = some (.istore_n 2, 1, 6) := by decide +kernel
theorem fX6_linesNewIn_6 : zf mX6_linesNewIn 6 = some (.iload_n 2, 1, 7) := by decide +kernel
theorem fX6_linesNewIn_7 : zf mX6_linesNewIn 7 = some (.iconst (-1), 1, 8) := by decide +kernel
theorem fX6_linesNewIn_8 : zf mX6_linesNewIn 8 = some (.if_icmp .ne 7, 3, 11) := by decide +kernel
theorem fX6_linesNewIn_11 : zf mX6_linesNewIn 11 = some (.iconst 0, 1, 12) := by decide +kernel
theorem fX6_linesNewIn_12 : zf mX6_linesNewIn 12 = some (.goto 12, 3, 15) := by decide +kernel
theorem fX6_linesNewIn_15 : zf mX6_linesNewIn 15 = some (.aload_n 0, 1, 16) := by decide +kernel
theorem fX6_linesNewIn_16 : zf mX6_linesNewIn 16 = some (.iload_n 1, 1, 17) := by decide +kernel
theorem fX6_linesNewIn_17 : zf mX6_linesNewIn 17 = some (.iload_n 2, 1, 18) := by decide +kernel
theorem fX6_linesNewIn_18 : zf mX6_linesNewIn 18 = some (.iconst 0, 1, 19) := by decide +kernel
theorem fX6_linesNewIn_19 : zf mX6_linesNewIn 19 = some (.bipush 15, 2, 21) := by decide +kernel
theorem fX6_linesNewIn_21 : zf mX6_linesNewIn 21 = some (.invokevirtual 85, 3, 24) := by decide +kernel
theorem fX6_linesNewIn_24 : zf mX6_linesNewIn 24 = some (.ireturn, 1, 25) := by decide +kernel
theorem fX6_linesApart_0 : zf mX6_linesApart 0 = some (.iconst 0, 1, 1) := by decide +kernel
theorem fX6_linesApart_1 : zf mX6_linesApart 1 = some (.istore 5, 2, 3) := by decide +kernel
theorem fX6_linesApart_3 : zf mX6_linesApart 3 = some (.iconst 0, 1, 4) := by decide +kernel
theorem fX6_linesApart_4 : zf mX6_linesApart 4 = some (.istore 6, 2, 6) := by decide +kernel
theorem fX6_linesApart_6 : zf mX6_linesApart 6 = some (.iload 6, 2, 8) := by decide +kernel
theorem fX6_linesApart_8 : zf mX6_linesApart 8 = some (.bipush 16, 2, 10) := by decide +kernel
theorem fX6_linesApart_10 : zf mX6_linesApart 10 = some (.if_icmp .ge 42, 3, 13) := by decide +kernel
theorem fX6_linesApart_13 : zf mX6_linesApart 13 = some (.iload 6, 2, 15) := by decide +kernel
theorem fX6_linesApart_15 : zf mX6_linesApart 15 = some (.iload_n 3, 1, 16) := by decide +kernel
theorem fX6_linesApart_16 : zf mX6_linesApart 16 = some (.if_icmp .lt 30, 3, 19) := by decide +kernel
theorem fX6_linesApart_19 : zf mX6_linesApart 19 = some (.iload 6, 2, 21) := by decide +kernel
theorem fX6_linesApart_21 : zf mX6_linesApart 21 = some (.iload 4, 2, 23) := by decide +kernel
theorem fX6_linesApart_23 : zf mX6_linesApart 23 = some (.if_icmp .gt 23, 3, 26) := by decide +kernel
theorem fX6_linesApart_26 : zf mX6_linesApart 26 = some (.aload_n 0, 1, 27) := by decide +kernel
theorem fX6_linesApart_27 : zf mX6_linesApart 27 = some (.iload_n 1, 1, 28) := by decide +kernel
theorem fX6_linesApart_28 : zf mX6_linesApart 28 = some (.iload 6, 2, 30) := by decide +kernel
theorem fX6_linesApart_30 : zf mX6_linesApart 30 = some (.invokevirtual 69, 3, 33) := by decide +kernel
theorem fX6_linesApart_33 : zf mX6_linesApart 33 = some (.aload_n 0, 1, 34) := by decide +kernel
theorem fX6_linesApart_34 : zf mX6_linesApart 34 = some (.iload_n 2, 1, 35) := by decide +kernel
theorem fX6_linesApart_35 : zf mX6_linesApart 35 = some (.iload 6, 2, 37) := by decide +kernel
theorem fX6_linesApart_37 : zf mX6_linesApart 37 = some (.invokevirtual 69, 3, 40) := by decide +kernel
theorem fX6_linesApart_40 : zf mX6_linesApart 40 = some (.if_icmp .eq 6, 3, 43) := by decide +kernel
theorem fX6_linesApart_43 : zf mX6_linesApart 43 = some (.iinc 5 1, 3, 46) := by decide +kernel
theorem fX6_linesApart_46 : zf mX6_linesApart 46 = some (.iinc 6 1, 3, 49) := by decide +kernel
theorem fX6_linesApart_49 : zf mX6_linesApart 49 = some (.goto (-43), 3, 52) := by decide +kernel
theorem fX6_linesApart_52 : zf mX6_linesApart 52 = some (.iload 5, 2, 54) := by decide +kernel
theorem fX6_linesApart_54 : zf mX6_linesApart 54 = some (.ireturn, 1, 55) := by decide +kernel
theorem fX6_othersAlike_0 : zf mX6_othersAlike 0 = some (.iconst 0, 1, 1) := by decide +kernel
theorem fX6_othersAlike_1 : zf mX6_othersAlike 1 = some (.istore_n 2, 1, 2) := by decide +kernel
theorem fX6_othersAlike_2 : zf mX6_othersAlike 2 = some (.iconst 0, 1, 3) := by decide +kernel
theorem fX6_othersAlike_3 : zf mX6_othersAlike 3 = some (.istore_n 3, 1, 4) := by decide +kernel
theorem fX6_othersAlike_4 : zf mX6_othersAlike 4 = some (.iload_n 3, 1, 5) := by decide +kernel
theorem fX6_othersAlike_5 : zf mX6_othersAlike 5 = some (.aload_n 0, 1, 6) := by decide +kernel
theorem fX6_othersAlike_6 : zf mX6_othersAlike 6 = some (.getfield 9, 3, 9) := by decide +kernel
theorem fX6_othersAlike_9 : zf mX6_othersAlike 9 = some (.if_icmp .ge 29, 3, 12) := by decide +kernel
theorem fX6_othersAlike_12 : zf mX6_othersAlike 12 = some (.iload_n 3, 1, 13) := by decide +kernel
theorem fX6_othersAlike_13 : zf mX6_othersAlike 13 = some (.iload_n 1, 1, 14) := by decide +kernel
theorem fX6_othersAlike_14 : zf mX6_othersAlike 14 = some (.if_icmp .eq 18, 3, 17) := by decide +kernel
theorem fX6_othersAlike_17 : zf mX6_othersAlike 17 = some (.aload_n 0, 1, 18) := by decide +kernel
theorem fX6_othersAlike_18 : zf mX6_othersAlike 18 = some (.iload_n 1, 1, 19) := by decide +kernel
theorem fX6_othersAlike_19 : zf mX6_othersAlike 19 = some (.iload_n 3, 1, 20) := by decide +kernel
theorem fX6_othersAlike_20 : zf mX6_othersAlike 20 = some (.iconst 0, 1, 21) := by decide +kernel
theorem fX6_othersAlike_21 : zf mX6_othersAlike 21 = some (.bipush 15, 2, 23) := by decide +kernel
theorem fX6_othersAlike_23 : zf mX6_othersAlike 23 = some (.invokevirtual 85, 3, 26) := by decide +kernel
theorem fX6_othersAlike_26 : zf mX6_othersAlike 26 = some (.ifCond .ne 6, 3, 29) := by decide +kernel
theorem fX6_othersAlike_29 : zf mX6_othersAlike 29 = some (.iinc 2 1, 3, 32) := by decide +kernel
theorem fX6_othersAlike_32 : zf mX6_othersAlike 32 = some (.iinc 3 1, 3, 35) := by decide +kernel
theorem fX6_othersAlike_35 : zf mX6_othersAlike 35 = some (.goto (-31), 3, 38) := by decide +kernel
theorem fX6_othersAlike_38 : zf mX6_othersAlike 38 = some (.iload_n 2, 1, 39) := by decide +kernel
theorem fX6_othersAlike_39 : zf mX6_othersAlike 39 = some (.ireturn, 1, 40) := by decide +kernel
theorem fX6_latestByYear_0 : zf mX6_latestByYear 0 = some (.iload_n 1, 1, 1) := by decide +kernel
theorem fX6_latestByYear_1 : zf mX6_latestByYear 1 = some (.istore_n 3, 1, 2) := by decide +kernel
theorem fX6_latestByYear_2 : zf mX6_latestByYear 2 = some (.iconst 0, 1, 3) := by decide +kernel
theorem fX6_latestByYear_3 : zf mX6_latestByYear 3 = some (.istore 4, 2, 5) := by decide +kernel
theorem fX6_latestByYear_5 : zf mX6_latestByYear 5 = some (.iload 4, 2, 7) := by decide +kernel
theorem fX6_latestByYear_7 : zf mX6_latestByYear 7 = some (.bipush 40, 2, 9) := by decide +kernel
theorem fX6_latestByYear_9 : zf mX6_latestByYear 9 = some (.if_icmp .ge 28, 3, 12) := by decide +kernel
theorem fX6_latestByYear_12 : zf mX6_latestByYear 12 = some (.iload_n 3, 1, 13) := by decide +kernel
theorem fX6_latestByYear_13 : zf mX6_latestByYear 13 = some (.ifCond .le 24, 3, 16) := by decide +kernel
theorem fX6_latestByYear_16 : zf mX6_latestByYear 16 = some (.aload_n 0, 1, 17) := by decide +kernel
theorem fX6_latestByYear_17 : zf mX6_latestByYear 17 = some (.iload_n 3, 1, 18) := by decide +kernel
theorem fX6_latestByYear_18 : zf mX6_latestByYear 18 = some (.invokevirtual 89, 3, 21) := by decide +kernel
theorem fX6_latestByYear_21 : zf mX6_latestByYear 21 = some (.iload_n 2, 1, 22) := by decide +kernel
theorem fX6_latestByYear_22 : zf mX6_latestByYear 22 = some (.if_icmp .le 15, 3, 25) := by decide +kernel
theorem fX6_latestByYear_25 : zf mX6_latestByYear 25 = some (.aload_n 0, 1, 26) := by decide +kernel
theorem fX6_latestByYear_26 : zf mX6_latestByYear 26 = some (.iload_n 3, 1, 27) := by decide +kernel
theorem fX6_latestByYear_27 : zf mX6_latestByYear 27 = some (.invokevirtual 72, 3, 30) := by decide +kernel
theorem fX6_latestByYear_30 : zf mX6_latestByYear 30 = some (.istore_n 3, 1, 31) := by decide +kernel
theorem fX6_latestByYear_31 : zf mX6_latestByYear 31 = some (.iinc 4 1, 3, 34) := by decide +kernel
theorem fX6_latestByYear_34 : zf mX6_latestByYear 34 = some (.goto (-29), 3, 37) := by decide +kernel
theorem fX6_latestByYear_37 : zf mX6_latestByYear 37 = some (.iload_n 3, 1, 38) := by decide +kernel
theorem fX6_latestByYear_38 : zf mX6_latestByYear 38 = some (.ireturn, 1, 39) := by decide +kernel
theorem fX6_earliestWithAmountOf_0 : zf mX6_earliestWithAmountOf 0 = some (.aload_n 0, 1, 1) := by decide +kernel
theorem fX6_earliestWithAmountOf_1 : zf mX6_earliestWithAmountOf 1 = some (.iload_n 1, 1, 2) := by decide +kernel
theorem fX6_earliestWithAmountOf_2 : zf mX6_earliestWithAmountOf 2 = some (.iload_n 2, 1, 3) := by decide +kernel
theorem fX6_earliestWithAmountOf_3 : zf mX6_earliestWithAmountOf 3 = some (.invokevirtual 69, 3, 6) := by decide +kernel
theorem fX6_earliestWithAmountOf_6 : zf mX6_earliestWithAmountOf 6 = some (.istore_n 3, 1, 7) := by decide +kernel
theorem fX6_earliestWithAmountOf_7 : zf mX6_earliestWithAmountOf 7 = some (.iload_n 1, 1, 8) := by decide +kernel
theorem fX6_earliestWithAmountOf_8 : zf mX6_earliestWithAmountOf 8 = some (.istore 4, 2, 10) := by decide +kernel
theorem fX6_earliestWithAmountOf_10 : zf mX6_earliestWithAmountOf 10 = some (.aload_n 0, 1, 11) := by decide +kernel
theorem fX6_earliestWithAmountOf_11 : zf mX6_earliestWithAmountOf 11 = some (.iload_n 1, 1, 12) := by decide +kernel
theorem fX6_earliestWithAmountOf_12 : zf mX6_earliestWithAmountOf 12 = some (.invokevirtual 72, 3, 15) := by decide +kernel
theorem fX6_earliestWithAmountOf_15 : zf mX6_earliestWithAmountOf 15 = some (.istore 5, 2, 17) := by decide +kernel
theorem fX6_earliestWithAmountOf_17 : zf mX6_earliestWithAmountOf 17 = some (.iconst 0, 1, 18) := by decide +kernel
theorem fX6_earliestWithAmountOf_18 : zf mX6_earliestWithAmountOf 18 = some (.istore 6, 2, 20) := by decide +kernel
theorem fX6_earliestWithAmountOf_20 : zf mX6_earliestWithAmountOf 20 = some (.iload 6, 2, 22) := by decide +kernel
theorem fX6_earliestWithAmountOf_22 : zf mX6_earliestWithAmountOf 22 = some (.bipush 40, 2, 24) := by decide +kernel
theorem fX6_earliestWithAmountOf_24 : zf mX6_earliestWithAmountOf 24 = some (.if_icmp .ge 38, 3, 27) := by decide +kernel
theorem fX6_earliestWithAmountOf_27 : zf mX6_earliestWithAmountOf 27 = some (.iload 5, 2, 29) := by decide +kernel
theorem fX6_earliestWithAmountOf_29 : zf mX6_earliestWithAmountOf 29 = some (.iconst (-1), 1, 30) := by decide +kernel
theorem fX6_earliestWithAmountOf_30 : zf mX6_earliestWithAmountOf 30 = some (.if_icmp .eq 32, 3, 33) := by decide +kernel
theorem fX6_earliestWithAmountOf_33 : zf mX6_earliestWithAmountOf 33 = some (.aload_n 0, 1, 34) := by decide +kernel
theorem fX6_earliestWithAmountOf_34 : zf mX6_earliestWithAmountOf 34 = some (.iload 5, 2, 36) := by decide +kernel
theorem fX6_earliestWithAmountOf_36 : zf mX6_earliestWithAmountOf 36 = some (.iload_n 2, 1, 37) := by decide +kernel
theorem fX6_earliestWithAmountOf_37 : zf mX6_earliestWithAmountOf 37 = some (.invokevirtual 69, 3, 40) := by decide +kernel
theorem fX6_earliestWithAmountOf_40 : zf mX6_earliestWithAmountOf 40 = some (.iload_n 3, 1, 41) := by decide +kernel
theorem fX6_earliestWithAmountOf_41 : zf mX6_earliestWithAmountOf 41 = some (.if_icmp .ne 21, 3, 44) := by decide +kernel
theorem fX6_earliestWithAmountOf_44 : zf mX6_earliestWithAmountOf 44 = some (.iload 5, 2, 46) := by decide +kernel
theorem fX6_earliestWithAmountOf_46 : zf mX6_earliestWithAmountOf 46 = some (.istore 4, 2, 48) := by decide +kernel
theorem fX6_earliestWithAmountOf_48 : zf mX6_earliestWithAmountOf 48 = some (.aload_n 0, 1, 49) := by decide +kernel
theorem fX6_earliestWithAmountOf_49 : zf mX6_earliestWithAmountOf 49 = some (.iload 5, 2, 51) := by decide +kernel
theorem fX6_earliestWithAmountOf_51 : zf mX6_earliestWithAmountOf 51 = some (.invokevirtual 72, 3, 54) := by decide +kernel
theorem fX6_earliestWithAmountOf_54 : zf mX6_earliestWithAmountOf 54 = some (.istore 5, 2, 56) := by decide +kernel
theorem fX6_earliestWithAmountOf_56 : zf mX6_earliestWithAmountOf 56 = some (.iinc 6 1, 3, 59) := by decide +kernel
theorem fX6_earliestWithAmountOf_59 : zf mX6_earliestWithAmountOf 59 = some (.goto (-39), 3, 62) := by decide +kernel
theorem fX6_earliestWithAmountOf_62 : zf mX6_earliestWithAmountOf 62 = some (.iload 4, 2, 64) := by decide +kernel
theorem fX6_earliestWithAmountOf_64 : zf mX6_earliestWithAmountOf 64 = some (.ireturn, 1, 65) := by decide +kernel
theorem fX6_latestCommon_0 : zf mX6_latestCommon 0 = some (.iload_n 1, 1, 1) := by decide +kernel
theorem fX6_latestCommon_1 : zf mX6_latestCommon 1 = some (.istore_n 3, 1, 2) := by decide +kernel
theorem fX6_latestCommon_2 : zf mX6_latestCommon 2 = some (.iload_n 2, 1, 3) := by decide +kernel
theorem fX6_latestCommon_3 : zf mX6_latestCommon 3 = some (.istore 4, 2, 5) := by decide +kernel
theorem fX6_latestCommon_5 : zf mX6_latestCommon 5 = some (.iconst 0, 1, 6) := by decide +kernel
theorem fX6_latestCommon_6 : zf mX6_latestCommon 6 = some (.istore 5, 2, 8) := by decide +kernel
theorem fX6_latestCommon_8 : zf mX6_latestCommon 8 = some (.iload 5, 2, 10) := by decide +kernel
theorem fX6_latestCommon_10 : zf mX6_latestCommon 10 = some (.bipush 80, 2, 12) := by decide +kernel
theorem fX6_latestCommon_12 : zf mX6_latestCommon 12 = some (.if_icmp .ge 38, 3, 15) := by decide +kernel
theorem fX6_latestCommon_15 : zf mX6_latestCommon 15 = some (.iload_n 3, 1, 16) := by decide +kernel
theorem fX6_latestCommon_16 : zf mX6_latestCommon 16 = some (.iload 4, 2, 18) := by decide +kernel
theorem fX6_latestCommon_18 : zf mX6_latestCommon 18 = some (.if_icmp .eq 32, 3, 21) := by decide +kernel
theorem fX6_latestCommon_21 : zf mX6_latestCommon 21 = some (.iload_n 3, 1, 22) := by decide +kernel
theorem fX6_latestCommon_22 : zf mX6_latestCommon 22 = some (.iload 4, 2, 24) := by decide +kernel
theorem fX6_latestCommon_24 : zf mX6_latestCommon 24 = some (.if_icmp .le 12, 3, 27) := by decide +kernel
theorem fX6_latestCommon_27 : zf mX6_latestCommon 27 = some (.aload_n 0, 1, 28) := by decide +kernel
theorem fX6_latestCommon_28 : zf mX6_latestCommon 28 = some (.iload_n 3, 1, 29) := by decide +kernel
theorem fX6_latestCommon_29 : zf mX6_latestCommon 29 = some (.invokevirtual 72, 3, 32) := by decide +kernel
theorem fX6_latestCommon_32 : zf mX6_latestCommon 32 = some (.istore_n 3, 1, 33) := by decide +kernel
theorem fX6_latestCommon_33 : zf mX6_latestCommon 33 = some (.goto 11, 3, 36) := by decide +kernel
theorem fX6_latestCommon_36 : zf mX6_latestCommon 36 = some (.aload_n 0, 1, 37) := by decide +kernel
theorem fX6_latestCommon_37 : zf mX6_latestCommon 37 = some (.iload 4, 2, 39) := by decide +kernel
theorem fX6_latestCommon_39 : zf mX6_latestCommon 39 = some (.invokevirtual 72, 3, 42) := by decide +kernel
theorem fX6_latestCommon_42 : zf mX6_latestCommon 42 = some (.istore 4, 2, 44) := by decide +kernel
theorem fX6_latestCommon_44 : zf mX6_latestCommon 44 = some (.iinc 5 1, 3, 47) := by decide +kernel
theorem fX6_latestCommon_47 : zf mX6_latestCommon 47 = some (.goto (-39), 3, 50) := by decide +kernel
theorem fX6_latestCommon_50 : zf mX6_latestCommon 50 = some (.iload_n 3, 1, 51) := by decide +kernel
theorem fX6_latestCommon_51 : zf mX6_latestCommon 51 = some (.ireturn, 1, 52) := by decide +kernel
theorem fX6_pagesInBoth_0 : zf mX6_pagesInBoth 0 = some (.iconst 0, 1, 1) := by decide +kernel
theorem fX6_pagesInBoth_1 : zf mX6_pagesInBoth 1 = some (.istore_n 3, 1, 2) := by decide +kernel
theorem fX6_pagesInBoth_2 : zf mX6_pagesInBoth 2 = some (.iconst 0, 1, 3) := by decide +kernel
theorem fX6_pagesInBoth_3 : zf mX6_pagesInBoth 3 = some (.istore 4, 2, 5) := by decide +kernel
theorem fX6_pagesInBoth_5 : zf mX6_pagesInBoth 5 = some (.iload 4, 2, 7) := by decide +kernel
theorem fX6_pagesInBoth_7 : zf mX6_pagesInBoth 7 = some (.bipush 31, 2, 9) := by decide +kernel
theorem fX6_pagesInBoth_9 : zf mX6_pagesInBoth 9 = some (.if_icmp .ge 29, 3, 12) := by decide +kernel
theorem fX6_pagesInBoth_12 : zf mX6_pagesInBoth 12 = some (.aload_n 0, 1, 13) := by decide +kernel
theorem fX6_pagesInBoth_13 : zf mX6_pagesInBoth 13 = some (.iload_n 1, 1, 14) := by decide +kernel
theorem fX6_pagesInBoth_14 : zf mX6_pagesInBoth 14 = some (.iload 4, 2, 16) := by decide +kernel
theorem fX6_pagesInBoth_16 : zf mX6_pagesInBoth 16 = some (.invokevirtual 79, 3, 19) := by decide +kernel
theorem fX6_pagesInBoth_19 : zf mX6_pagesInBoth 19 = some (.aload_n 0, 1, 20) := by decide +kernel
theorem fX6_pagesInBoth_20 : zf mX6_pagesInBoth 20 = some (.iload_n 2, 1, 21) := by decide +kernel
theorem fX6_pagesInBoth_21 : zf mX6_pagesInBoth 21 = some (.iload 4, 2, 23) := by decide +kernel
theorem fX6_pagesInBoth_23 : zf mX6_pagesInBoth 23 = some (.invokevirtual 79, 3, 26) := by decide +kernel
theorem fX6_pagesInBoth_26 : zf mX6_pagesInBoth 26 = some (.if_icmp .ne 6, 3, 29) := by decide +kernel
theorem fX6_pagesInBoth_29 : zf mX6_pagesInBoth 29 = some (.iinc 3 1, 3, 32) := by decide +kernel
theorem fX6_pagesInBoth_32 : zf mX6_pagesInBoth 32 = some (.iinc 4 1, 3, 35) := by decide +kernel
theorem fX6_pagesInBoth_35 : zf mX6_pagesInBoth 35 = some (.goto (-30), 3, 38) := by decide +kernel
theorem fX6_pagesInBoth_38 : zf mX6_pagesInBoth 38 = some (.iload_n 3, 1, 39) := by decide +kernel
theorem fX6_pagesInBoth_39 : zf mX6_pagesInBoth 39 = some (.ireturn, 1, 40) := by decide +kernel
theorem fX6_usersOf_0 : zf mX6_usersOf 0 = some (.iconst 0, 1, 1) := by decide +kernel
theorem fX6_usersOf_1 : zf mX6_usersOf 1 = some (.istore_n 3, 1, 2) := by decide +kernel
theorem fX6_usersOf_2 : zf mX6_usersOf 2 = some (.iconst 0, 1, 3) := by decide +kernel
theorem fX6_usersOf_3 : zf mX6_usersOf 3 = some (.istore 4, 2, 5) := by decide +kernel
theorem fX6_usersOf_5 : zf mX6_usersOf 5 = some (.iload 4, 2, 7) := by decide +kernel
theorem fX6_usersOf_7 : zf mX6_usersOf 7 = some (.aload_n 0, 1, 8) := by decide +kernel
theorem fX6_usersOf_8 : zf mX6_usersOf 8 = some (.getfield 9, 3, 11) := by decide +kernel
theorem fX6_usersOf_11 : zf mX6_usersOf 11 = some (.if_icmp .ge 23, 3, 14) := by decide +kernel
theorem fX6_usersOf_14 : zf mX6_usersOf 14 = some (.aload_n 0, 1, 15) := by decide +kernel
theorem fX6_usersOf_15 : zf mX6_usersOf 15 = some (.iload 4, 2, 17) := by decide +kernel
theorem fX6_usersOf_17 : zf mX6_usersOf 17 = some (.iload_n 2, 1, 18) := by decide +kernel
theorem fX6_usersOf_18 : zf mX6_usersOf 18 = some (.invokevirtual 79, 3, 21) := by decide +kernel
theorem fX6_usersOf_21 : zf mX6_usersOf 21 = some (.iload_n 1, 1, 22) := by decide +kernel
theorem fX6_usersOf_22 : zf mX6_usersOf 22 = some (.if_icmp .ne 6, 3, 25) := by decide +kernel
theorem fX6_usersOf_25 : zf mX6_usersOf 25 = some (.iinc 3 1, 3, 28) := by decide +kernel
theorem fX6_usersOf_28 : zf mX6_usersOf 28 = some (.iinc 4 1, 3, 31) := by decide +kernel
theorem fX6_usersOf_31 : zf mX6_usersOf 31 = some (.goto (-26), 3, 34) := by decide +kernel
theorem fX6_usersOf_34 : zf mX6_usersOf 34 = some (.iload_n 3, 1, 35) := by decide +kernel
theorem fX6_usersOf_35 : zf mX6_usersOf 35 = some (.ireturn, 1, 36) := by decide +kernel
theorem fX6_atPlace_0 : zf mX6_atPlace 0 = some (.iconst 0, 1, 1) := by decide +kernel
theorem fX6_atPlace_1 : zf mX6_atPlace 1 = some (.istore_n 2, 1, 2) := by decide +kernel
theorem fX6_atPlace_2 : zf mX6_atPlace 2 = some (.iload_n 2, 1, 3) := by decide +kernel
theorem fX6_atPlace_3 : zf mX6_atPlace 3 = some (.aload_n 0, 1, 4) := by decide +kernel
theorem fX6_atPlace_4 : zf mX6_atPlace 4 = some (.getfield 9, 3, 7) := by decide +kernel
theorem fX6_atPlace_7 : zf mX6_atPlace 7 = some (.if_icmp .ge 20, 3, 10) := by decide +kernel
theorem fX6_atPlace_10 : zf mX6_atPlace 10 = some (.aload_n 0, 1, 11) := by decide +kernel
theorem fX6_atPlace_11 : zf mX6_atPlace 11 = some (.iload_n 2, 1, 12) := by decide +kernel
theorem fX6_atPlace_12 : zf mX6_atPlace 12 = some (.invokevirtual 92, 3, 15) := by decide +kernel
theorem fX6_atPlace_15 : zf mX6_atPlace 15 = some (.iload_n 1, 1, 16) := by decide +kernel
theorem fX6_atPlace_16 : zf mX6_atPlace 16 = some (.if_icmp .ne 5, 3, 19) := by decide +kernel
theorem fX6_atPlace_19 : zf mX6_atPlace 19 = some (.iload_n 2, 1, 20) := by decide +kernel
theorem fX6_atPlace_20 : zf mX6_atPlace 20 = some (.ireturn, 1, 21) := by decide +kernel
theorem fX6_atPlace_21 : zf mX6_atPlace 21 = some (.iinc 2 1, 3, 24) := by decide +kernel
theorem fX6_atPlace_24 : zf mX6_atPlace 24 = some (.goto (-22), 3, 27) := by decide +kernel
theorem fX6_atPlace_27 : zf mX6_atPlace 27 = some (.iconst (-1), 1, 28) := by decide +kernel
theorem fX6_atPlace_28 : zf mX6_atPlace 28 = some (.ireturn, 1, 29) := by decide +kernel
theorem fX6_versionsAheadOf_0 : zf mX6_versionsAheadOf 0 = some (.aload_n 0, 1, 1) := by decide +kernel
theorem fX6_versionsAheadOf_1 : zf mX6_versionsAheadOf 1 = some (.iload_n 1, 1, 2) := by decide +kernel
theorem fX6_versionsAheadOf_2 : zf mX6_versionsAheadOf 2 = some (.iconst 0, 1, 3) := by decide +kernel
theorem fX6_versionsAheadOf_3 : zf mX6_versionsAheadOf 3 = some (.invokevirtual 41, 3, 6) := by decide +kernel
theorem fX6_versionsAheadOf_6 : zf mX6_versionsAheadOf 6 = some (.istore_n 2, 1, 7) := by decide +kernel
theorem fX6_versionsAheadOf_7 : zf mX6_versionsAheadOf 7 = some (.iconst 0, 1, 8) := by decide +kernel
theorem fX6_versionsAheadOf_8 : zf mX6_versionsAheadOf 8 = some (.istore_n 3, 1, 9) := by decide +kernel
theorem fX6_versionsAheadOf_9 : zf mX6_versionsAheadOf 9 = some (.iconst 0, 1, 10) := by decide +kernel
theorem fX6_versionsAheadOf_10 : zf mX6_versionsAheadOf 10 = some (.istore 4, 2, 12) := by decide +kernel
theorem fX6_versionsAheadOf_12 : zf mX6_versionsAheadOf 12 = some (.iload 4, 2, 14) := by decide +kernel
theorem fX6_versionsAheadOf_14 : zf mX6_versionsAheadOf 14 = some (.aload_n 0, 1, 15) := by decide +kernel
theorem fX6_versionsAheadOf_15 : zf mX6_versionsAheadOf 15 = some (.getfield 9, 3, 18) := by decide +kernel
theorem fX6_versionsAheadOf_18 : zf mX6_versionsAheadOf 18 = some (.if_icmp .ge 39, 3, 21) := by decide +kernel
theorem fX6_versionsAheadOf_21 : zf mX6_versionsAheadOf 21 = some (.aload_n 0, 1, 22) := by decide +kernel
theorem fX6_versionsAheadOf_22 : zf mX6_versionsAheadOf 22 = some (.iload 4, 2, 24) := by decide +kernel
theorem fX6_versionsAheadOf_24 : zf mX6_versionsAheadOf 24 = some (.iconst 0, 1, 25) := by decide +kernel
theorem fX6_versionsAheadOf_25 : zf mX6_versionsAheadOf 25 = some (.invokevirtual 41, 3, 28) := by decide +kernel
theorem fX6_versionsAheadOf_28 : zf mX6_versionsAheadOf 28 = some (.istore 5, 2, 30) := by decide +kernel
theorem fX6_versionsAheadOf_30 : zf mX6_versionsAheadOf 30 = some (.iload 5, 2, 32) := by decide +kernel
theorem fX6_versionsAheadOf_32 : zf mX6_versionsAheadOf 32 = some (.iload_n 2, 1, 33) := by decide +kernel
theorem fX6_versionsAheadOf_33 : zf mX6_versionsAheadOf 33 = some (.if_icmp .gt 15, 3, 36) := by decide +kernel
theorem fX6_versionsAheadOf_36 : zf mX6_versionsAheadOf 36 = some (.iload 5, 2, 38) := by decide +kernel
theorem fX6_versionsAheadOf_38 : zf mX6_versionsAheadOf 38 = some (.iload_n 2, 1, 39) := by decide +kernel
theorem fX6_versionsAheadOf_39 : zf mX6_versionsAheadOf 39 = some (.if_icmp .ne 12, 3, 42) := by decide +kernel
theorem fX6_versionsAheadOf_42 : zf mX6_versionsAheadOf 42 = some (.iload 4, 2, 44) := by decide +kernel
theorem fX6_versionsAheadOf_44 : zf mX6_versionsAheadOf 44 = some (.iload_n 1, 1, 45) := by decide +kernel
theorem fX6_versionsAheadOf_45 : zf mX6_versionsAheadOf 45 = some (.if_icmp .le 6, 3, 48) := by decide +kernel
theorem fX6_versionsAheadOf_48 : zf mX6_versionsAheadOf 48 = some (.iinc 3 1, 3, 51) := by decide +kernel
theorem fX6_versionsAheadOf_51 : zf mX6_versionsAheadOf 51 = some (.iinc 4 1, 3, 54) := by decide +kernel
theorem fX6_versionsAheadOf_54 : zf mX6_versionsAheadOf 54 = some (.goto (-42), 3, 57) := by decide +kernel
theorem fX6_versionsAheadOf_57 : zf mX6_versionsAheadOf 57 = some (.iload_n 3, 1, 58) := by decide +kernel
theorem fX6_versionsAheadOf_58 : zf mX6_versionsAheadOf 58 = some (.ireturn, 1, 59) := by decide +kernel
theorem fX6_withMostPagesOfOthers_0 : zf mX6_withMostPagesOfOthers 0 = some (.iconst 1, 1, 1) := by decide +kernel
theorem fX6_withMostPagesOfOthers_1 : zf mX6_withMostPagesOfOthers 1 = some (.istore_n 1, 1, 2) := by decide +kernel
theorem fX6_withMostPagesOfOthers_2 : zf mX6_withMostPagesOfOthers 2 = some (.iconst 0, 1, 3) := by decide +kernel
theorem fX6_withMostPagesOfOthers_3 : zf mX6_withMostPagesOfOthers 3 = some (.istore_n 2, 1, 4) := by decide +kernel
theorem fX6_withMostPagesOfOthers_4 : zf mX6_withMostPagesOfOthers 4 = some (.iconst 1, 1, 5) := by decide +kernel
theorem fX6_withMostPagesOfOthers_5 : zf mX6_withMostPagesOfOthers 5 = some (.istore_n 3, 1, 6) := by decide +kernel
theorem fX6_withMostPagesOfOthers_6 : zf mX6_withMostPagesOfOthers 6 = some (.iload_n 3, 1, 7) := by decide +kernel
theorem fX6_withMostPagesOfOthers_7 : zf mX6_withMostPagesOfOthers 7 = some (.aload_n 0, 1, 8) := by decide +kernel
theorem fX6_withMostPagesOfOthers_8 : zf mX6_withMostPagesOfOthers 8 = some (.getfield 9, 3, 11) := by decide +kernel
theorem fX6_withMostPagesOfOthers_11 : zf mX6_withMostPagesOfOthers 11 = some (.if_icmp .ge 27, 3, 14) := by decide +kernel
theorem fX6_withMostPagesOfOthers_14 : zf mX6_withMostPagesOfOthers 14 = some (.aload_n 0, 1, 15) := by decide +kernel
theorem fX6_withMostPagesOfOthers_15 : zf mX6_withMostPagesOfOthers 15 = some (.iload_n 3, 1, 16) := by decide +kernel
theorem fX6_withMostPagesOfOthers_16 : zf mX6_withMostPagesOfOthers 16 = some (.invokevirtual 95, 3, 19) := by decide +kernel
theorem fX6_withMostPagesOfOthers_19 : zf mX6_withMostPagesOfOthers 19 = some (.istore 4, 2, 21) := by decide +kernel
theorem fX6_withMostPagesOfOthers_21 : zf mX6_withMostPagesOfOthers 21 = some (.iload 4, 2, 23) := by decide +kernel
theorem fX6_withMostPagesOfOthers_23 : zf mX6_withMostPagesOfOthers 23 = some (.iload_n 2, 1, 24) := by decide +kernel
theorem fX6_withMostPagesOfOthers_24 : zf mX6_withMostPagesOfOthers 24 = some (.if_icmp .le 8, 3, 27) := by decide +kernel
theorem fX6_withMostPagesOfOthers_27 : zf mX6_withMostPagesOfOthers 27 = some (.iload_n 3, 1, 28) := by decide +kernel
theorem fX6_withMostPagesOfOthers_28 : zf mX6_withMostPagesOfOthers 28 = some (.istore_n 1, 1, 29) := by decide +kernel
theorem fX6_withMostPagesOfOthers_29 : zf mX6_withMostPagesOfOthers 29 = some (.iload 4, 2, 31) := by decide +kernel
theorem fX6_withMostPagesOfOthers_31 : zf mX6_withMostPagesOfOthers 31 = some (.istore_n 2, 1, 32) := by decide +kernel
theorem fX6_withMostPagesOfOthers_32 : zf mX6_withMostPagesOfOthers 32 = some (.iinc 3 1, 3, 35) := by decide +kernel
theorem fX6_withMostPagesOfOthers_35 : zf mX6_withMostPagesOfOthers 35 = some (.goto (-29), 3, 38) := by decide +kernel
theorem fX6_withMostPagesOfOthers_38 : zf mX6_withMostPagesOfOthers 38 = some (.iload_n 1, 1, 39) := by decide +kernel
theorem fX6_withMostPagesOfOthers_39 : zf mX6_withMostPagesOfOthers 39 = some (.ireturn, 1, 40) := by decide +kernel
theorem fX6_pagesOfOthersMadeBy_0 : zf mX6_pagesOfOthersMadeBy 0 = some (.iconst 0, 1, 1) := by decide +kernel
theorem fX6_pagesOfOthersMadeBy_1 : zf mX6_pagesOfOthersMadeBy 1 = some (.istore_n 2, 1, 2) := by decide +kernel
theorem fX6_pagesOfOthersMadeBy_2 : zf mX6_pagesOfOthersMadeBy 2 = some (.iconst 0, 1, 3) := by decide +kernel
theorem fX6_pagesOfOthersMadeBy_3 : zf mX6_pagesOfOthersMadeBy 3 = some (.istore_n 3, 1, 4) := by decide +kernel
theorem fX6_pagesOfOthersMadeBy_4 : zf mX6_pagesOfOthersMadeBy 4 = some (.iload_n 3, 1, 5) := by decide +kernel
theorem fX6_pagesOfOthersMadeBy_5 : zf mX6_pagesOfOthersMadeBy 5 = some (.bipush 31, 2, 7) := by decide +kernel
theorem fX6_pagesOfOthersMadeBy_7 : zf mX6_pagesOfOthersMadeBy 7 = some (.if_icmp .ge 32, 3, 10) := by decide +kernel
theorem fX6_pagesOfOthersMadeBy_10 : zf mX6_pagesOfOthersMadeBy 10 = some (.aload_n 0, 1, 11) := by decide +kernel
theorem fX6_pagesOfOthersMadeBy_11 : zf mX6_pagesOfOthersMadeBy 11 = some (.iload_n 1, 1, 12) := by decide +kernel
theorem fX6_pagesOfOthersMadeBy_12 : zf mX6_pagesOfOthersMadeBy 12 = some (.iload_n 3, 1, 13) := by decide +kernel
theorem fX6_pagesOfOthersMadeBy_13 : zf mX6_pagesOfOthersMadeBy 13 = some (.invokevirtual 79, 3, 16) := by decide +kernel
theorem fX6_pagesOfOthersMadeBy_16 : zf mX6_pagesOfOthersMadeBy 16 = some (.iload_n 1, 1, 17) := by decide +kernel
theorem fX6_pagesOfOthersMadeBy_17 : zf mX6_pagesOfOthersMadeBy 17 = some (.if_icmp .ne 16, 3, 20) := by decide +kernel
theorem fX6_pagesOfOthersMadeBy_20 : zf mX6_pagesOfOthersMadeBy 20 = some (.aload_n 0, 1, 21) := by decide +kernel
theorem fX6_pagesOfOthersMadeBy_21 : zf mX6_pagesOfOthersMadeBy 21 = some (.iload_n 1, 1, 22) := by decide +kernel
theorem fX6_pagesOfOthersMadeBy_22 : zf mX6_pagesOfOthersMadeBy 22 = some (.iload_n 3, 1, 23) := by decide +kernel
theorem fX6_pagesOfOthersMadeBy_23 : zf mX6_pagesOfOthersMadeBy 23 = some (.invokevirtual 98, 3, 26) := by decide +kernel
theorem fX6_pagesOfOthersMadeBy_26 : zf mX6_pagesOfOthersMadeBy 26 = some (.iconst 1, 1, 27) := by decide +kernel
theorem fX6_pagesOfOthersMadeBy_27 : zf mX6_pagesOfOthersMadeBy 27 = some (.if_icmp .le 6, 3, 30) := by decide +kernel
theorem fX6_pagesOfOthersMadeBy_30 : zf mX6_pagesOfOthersMadeBy 30 = some (.iinc 2 1, 3, 33) := by decide +kernel
theorem fX6_pagesOfOthersMadeBy_33 : zf mX6_pagesOfOthersMadeBy 33 = some (.iinc 3 1, 3, 36) := by decide +kernel
theorem fX6_pagesOfOthersMadeBy_36 : zf mX6_pagesOfOthersMadeBy 36 = some (.goto (-32), 3, 39) := by decide +kernel
theorem fX6_pagesOfOthersMadeBy_39 : zf mX6_pagesOfOthersMadeBy 39 = some (.iload_n 2, 1, 40) := by decide +kernel
theorem fX6_pagesOfOthersMadeBy_40 : zf mX6_pagesOfOthersMadeBy 40 = some (.ireturn, 1, 41) := by decide +kernel
theorem fX7_init_0 : zf mX7_init 0 = some (.aload_n 0, 1, 1) := by decide +kernel
theorem fX7_init_1 : zf mX7_init 1 = some (.invokespecial 1, 3, 4) := by decide +kernel
theorem fX7_init_4 : zf mX7_init 4 = some (.aload_n 0, 1, 5) := by decide +kernel
theorem fX7_init_5 : zf mX7_init 5 = some (.new 7, 3, 8) := by decide +kernel
theorem fX7_init_8 : zf mX7_init 8 = some (.dup, 1, 9) := by decide +kernel
theorem fX7_init_9 : zf mX7_init 9 = some (.invokespecial 9, 3, 12) := by decide +kernel
theorem fX7_init_12 : zf mX7_init 12 = some (.putfield 10, 3, 15) := by decide +kernel
theorem fX7_init_15 : zf mX7_init 15 = some (.aload_n 0, 1, 16) := by decide +kernel
theorem fX7_init_16 : zf mX7_init 16 = some (.aload_n 0, 1, 17) := by decide +kernel
theorem fX7_init_17 : zf mX7_init 17 = some (.getfield 10, 3, 20) := by decide +kernel
theorem fX7_init_20 : zf mX7_init 20 = some (.getfield 16, 3, 23) := by decide +kernel
theorem fX7_init_23 : zf mX7_init 23 = some (.putfield 20, 3, 26) := by decide +kernel
theorem fX7_init_26 : zf mX7_init 26 = some (.aload_n 0, 1, 27) := by decide +kernel
theorem fX7_init_27 : zf mX7_init 27 = some (.aload_n 0, 1, 28) := by decide +kernel
theorem fX7_init_28 : zf mX7_init 28 = some (.getfield 10, 3, 31) := by decide +kernel
theorem fX7_init_31 : zf mX7_init 31 = some (.getfield 21, 3, 34) := by decide +kernel
theorem fX7_init_34 : zf mX7_init 34 = some (.putfield 25, 3, 37) := by decide +kernel
theorem fX7_init_37 : zf mX7_init 37 = some (.aload_n 0, 1, 38) := by decide +kernel
theorem fX7_init_38 : zf mX7_init 38 = some (.aload_n 0, 1, 39) := by decide +kernel
theorem fX7_init_39 : zf mX7_init 39 = some (.getfield 25, 3, 42) := by decide +kernel
theorem fX7_init_42 : zf mX7_init 42 = some (.getfield 26, 3, 45) := by decide +kernel
theorem fX7_init_45 : zf mX7_init 45 = some (.putfield 32, 3, 48) := by decide +kernel
theorem fX7_init_48 : zf mX7_init 48 = some (.aload_n 0, 1, 49) := by decide +kernel
theorem fX7_init_49 : zf mX7_init 49 = some (.new 27, 3, 52) := by decide +kernel
theorem fX7_init_52 : zf mX7_init 52 = some (.dup, 1, 53) := by decide +kernel
theorem fX7_init_53 : zf mX7_init 53 = some (.invokespecial 33, 3, 56) := by decide +kernel
theorem fX7_init_56 : zf mX7_init 56 = some (.putfield 34, 3, 59) := by decide +kernel
theorem fX7_init_59 : zf mX7_init 59 = some (.aload_n 0, 1, 60) := by decide +kernel
theorem fX7_init_60 : zf mX7_init 60 = some (.iconst 0, 1, 61) := by decide +kernel
theorem fX7_init_61 : zf mX7_init 61 = some (.putfield 37, 3, 64) := by decide +kernel
theorem fX7_init_64 : zf mX7_init 64 = some (.aload_n 0, 1, 65) := by decide +kernel
theorem fX7_init_65 : zf mX7_init 65 = some (.new 41, 3, 68) := by decide +kernel
theorem fX7_init_68 : zf mX7_init 68 = some (.dup, 1, 69) := by decide +kernel
theorem fX7_init_69 : zf mX7_init 69 = some (.invokespecial 43, 3, 72) := by decide +kernel
theorem fX7_init_72 : zf mX7_init 72 = some (.putfield 44, 3, 75) := by decide +kernel
theorem fX7_init_75 : zf mX7_init 75 = some (.aload_n 0, 1, 76) := by decide +kernel
theorem fX7_init_76 : zf mX7_init 76 = some (.new 48, 3, 79) := by decide +kernel
theorem fX7_init_79 : zf mX7_init 79 = some (.dup, 1, 80) := by decide +kernel
theorem fX7_init_80 : zf mX7_init 80 = some (.invokespecial 50, 3, 83) := by decide +kernel
theorem fX7_init_83 : zf mX7_init 83 = some (.putfield 51, 3, 86) := by decide +kernel
theorem fX7_init_86 : zf mX7_init 86 = some (.aload_n 0, 1, 87) := by decide +kernel
theorem fX7_init_87 : zf mX7_init 87 = some (.iconst (-1), 1, 88) := by decide +kernel
theorem fX7_init_88 : zf mX7_init 88 = some (.putfield 55, 3, 91) := by decide +kernel
theorem fX7_init_91 : zf mX7_init 91 = some (.aload_n 0, 1, 92) := by decide +kernel
theorem fX7_init_92 : zf mX7_init 92 = some (.new 59, 3, 95) := by decide +kernel
theorem fX7_init_95 : zf mX7_init 95 = some (.dup, 1, 96) := by decide +kernel
theorem fX7_init_96 : zf mX7_init 96 = some (.invokespecial 61, 3, 99) := by decide +kernel
theorem fX7_init_99 : zf mX7_init 99 = some (.putfield 62, 3, 102) := by decide +kernel
theorem fX7_init_102 : zf mX7_init 102 = some (.return_, 1, 103) := by decide +kernel
theorem fX7_write_0 : zf mX7_write 0 = some (.aload_n 0, 1, 1) := by decide +kernel
theorem fX7_write_1 : zf mX7_write 1 = some (.getfield 44, 3, 4) := by decide +kernel
theorem fX7_write_4 : zf mX7_write 4 = some (.aload_n 0, 1, 5) := by decide +kernel
theorem fX7_write_5 : zf mX7_write 5 = some (.getfield 25, 3, 8) := by decide +kernel
theorem fX7_write_8 : zf mX7_write 8 = some (.invokevirtual 66, 3, 11) := by decide +kernel
theorem fX7_write_11 : zf mX7_write 11 = some (.aload_n 0, 1, 12) := by decide +kernel
theorem fX7_write_12 : zf mX7_write 12 = some (.aload_n 0, 1, 13) := by decide +kernel
theorem fX7_write_13 : zf mX7_write 13 = some (.getfield 10, 3, 16) := by decide +kernel
theorem fX7_write_16 : zf mX7_write 16 = some (.iload_n 1, 1, 17) := by decide +kernel
theorem fX7_write_17 : zf mX7_write 17 = some (.iload_n 2, 1, 18) := by decide +kernel
theorem fX7_write_18 : zf mX7_write 18 = some (.iload_n 3, 1, 19) := by decide +kernel
theorem fX7_write_19 : zf mX7_write 19 = some (.invokevirtual 70, 3, 22) := by decide +kernel
theorem fX7_write_22 : zf mX7_write 22 = some (.invokevirtual 74, 3, 25) := by decide +kernel
theorem fX7_write_25 : zf mX7_write 25 = some (.ireturn, 1, 26) := by decide +kernel
theorem fX7_graft_0 : zf mX7_graft 0 = some (.aload_n 0, 1, 1) := by decide +kernel
theorem fX7_graft_1 : zf mX7_graft 1 = some (.getfield 44, 3, 4) := by decide +kernel
theorem fX7_graft_4 : zf mX7_graft 4 = some (.aload_n 0, 1, 5) := by decide +kernel
theorem fX7_graft_5 : zf mX7_graft 5 = some (.getfield 25, 3, 8) := by decide +kernel
theorem fX7_graft_8 : zf mX7_graft 8 = some (.invokevirtual 66, 3, 11) := by decide +kernel
theorem fX7_graft_11 : zf mX7_graft 11 = some (.aload_n 0, 1, 12) := by decide +kernel
theorem fX7_graft_12 : zf mX7_graft 12 = some (.aload_n 0, 1, 13) := by decide +kernel
theorem fX7_graft_13 : zf mX7_graft 13 = some (.getfield 10, 3, 16) := by decide +kernel
theorem fX7_graft_16 : zf mX7_graft 16 = some (.iload_n 1, 1, 17) := by decide +kernel
theorem fX7_graft_17 : zf mX7_graft 17 = some (.iload_n 2, 1, 18) := by decide +kernel
theorem fX7_graft_18 : zf mX7_graft 18 = some (.iload_n 3, 1, 19) := by decide +kernel
theorem fX7_graft_19 : zf mX7_graft 19 = some (.iload 4, 2, 21) := by decide +kernel
theorem fX7_graft_21 : zf mX7_graft 21 = some (.invokevirtual 78, 3, 24) := by decide +kernel
theorem fX7_graft_24 : zf mX7_graft 24 = some (.invokevirtual 74, 3, 27) := by decide +kernel
theorem fX7_graft_27 : zf mX7_graft 27 = some (.ireturn, 1, 28) := by decide +kernel
theorem fX7_fork_0 : zf mX7_fork 0 = some (.aload_n 0, 1, 1) := by decide +kernel
theorem fX7_fork_1 : zf mX7_fork 1 = some (.getfield 44, 3, 4) := by decide +kernel
theorem fX7_fork_4 : zf mX7_fork 4 = some (.aload_n 0, 1, 5) := by decide +kernel
theorem fX7_fork_5 : zf mX7_fork 5 = some (.getfield 25, 3, 8) := by decide +kernel
theorem fX7_fork_8 : zf mX7_fork 8 = some (.invokevirtual 66, 3, 11) := by decide +kernel
theorem fX7_fork_11 : zf mX7_fork 11 = some (.aload_n 0, 1, 12) := by decide +kernel
theorem fX7_fork_12 : zf mX7_fork 12 = some (.aload_n 0, 1, 13) := by decide +kernel
theorem fX7_fork_13 : zf mX7_fork 13 = some (.getfield 10, 3, 16) := by decide +kernel
theorem fX7_fork_16 : zf mX7_fork 16 = some (.iload_n 1, 1, 17) := by decide +kernel
theorem fX7_fork_17 : zf mX7_fork 17 = some (.iload_n 2, 1, 18) := by decide +kernel
theorem fX7_fork_18 : zf mX7_fork 18 = some (.invokevirtual 82, 3, 21) := by decide +kernel
theorem fX7_fork_21 : zf mX7_fork 21 = some (.invokevirtual 74, 3, 24) := by decide +kernel
theorem fX7_fork_24 : zf mX7_fork 24 = some (.ireturn, 1, 25) := by decide +kernel
theorem fX7_back_0 : zf mX7_back 0 = some (.aload_n 0, 1, 1) := by decide +kernel
theorem fX7_back_1 : zf mX7_back 1 = some (.getfield 44, 3, 4) := by decide +kernel
theorem fX7_back_4 : zf mX7_back 4 = some (.aload_n 0, 1, 5) := by decide +kernel
theorem fX7_back_5 : zf mX7_back 5 = some (.getfield 25, 3, 8) := by decide +kernel
theorem fX7_back_8 : zf mX7_back 8 = some (.invokevirtual 66, 3, 11) := by decide +kernel
theorem fX7_back_11 : zf mX7_back 11 = some (.aload_n 0, 1, 12) := by decide +kernel
theorem fX7_back_12 : zf mX7_back 12 = some (.aload_n 0, 1, 13) := by decide +kernel
theorem fX7_back_13 : zf mX7_back 13 = some (.getfield 10, 3, 16) := by decide +kernel
theorem fX7_back_16 : zf mX7_back 16 = some (.iload_n 1, 1, 17) := by decide +kernel
theorem fX7_back_17 : zf mX7_back 17 = some (.iload_n 2, 1, 18) := by decide +kernel
theorem fX7_back_18 : zf mX7_back 18 = some (.invokevirtual 86, 3, 21) := by decide +kernel
theorem fX7_back_21 : zf mX7_back 21 = some (.invokevirtual 74, 3, 24) := by decide +kernel
theorem fX7_back_24 : zf mX7_back 24 = some (.ireturn, 1, 25) := by decide +kernel
theorem fX7_pass_0 : zf mX7_pass 0 = some (.aload_n 0, 1, 1) := by decide +kernel
theorem fX7_pass_1 : zf mX7_pass 1 = some (.getfield 44, 3, 4) := by decide +kernel
theorem fX7_pass_4 : zf mX7_pass 4 = some (.aload_n 0, 1, 5) := by decide +kernel
theorem fX7_pass_5 : zf mX7_pass 5 = some (.getfield 25, 3, 8) := by decide +kernel
theorem fX7_pass_8 : zf mX7_pass 8 = some (.invokevirtual 66, 3, 11) := by decide +kernel
theorem fX7_pass_11 : zf mX7_pass 11 = some (.aload_n 0, 1, 12) := by decide +kernel
theorem fX7_pass_12 : zf mX7_pass 12 = some (.aload_n 0, 1, 13) := by decide +kernel
theorem fX7_pass_13 : zf mX7_pass 13 = some (.getfield 10, 3, 16) := by decide +kernel
theorem fX7_pass_16 : zf mX7_pass 16 = some (.iload_n 1, 1, 17) := by decide +kernel
theorem fX7_pass_17 : zf mX7_pass 17 = some (.invokevirtual 89, 3, 20) := by decide +kernel
theorem fX7_pass_20 : zf mX7_pass 20 = some (.invokevirtual 74, 3, 23) := by decide +kernel
theorem fX7_pass_23 : zf mX7_pass 23 = some (.ireturn, 1, 24) := by decide +kernel
theorem fX7_ledger_0 : zf mX7_ledger 0 = some (.iload_n 1, 1, 1) := by decide +kernel
theorem fX7_ledger_1 : zf mX7_ledger 1 = some (.invokestatic 92, 3, 4) := by decide +kernel
theorem fX7_ledger_4 : zf mX7_ledger 4 = some (.aload_n 0, 1, 5) := by decide +kernel
theorem fX7_ledger_5 : zf mX7_ledger 5 = some (.getfield 25, 3, 8) := by decide +kernel
theorem fX7_ledger_8 : zf mX7_ledger 8 = some (.iload_n 1, 1, 9) := by decide +kernel
theorem fX7_ledger_9 : zf mX7_ledger 9 = some (.invokevirtual 96, 3, 12) := by decide +kernel
theorem fX7_ledger_12 : zf mX7_ledger 12 = some (.ireturn, 1, 13) := by decide +kernel
theorem fX7_amount_0 : zf mX7_amount 0 = some (.aload_n 0, 1, 1) := by decide +kernel
theorem fX7_amount_1 : zf mX7_amount 1 = some (.iload_n 1, 1, 2) := by decide +kernel
theorem fX7_amount_2 : zf mX7_amount 2 = some (.invokevirtual 99, 3, 5) := by decide +kernel
theorem fX7_amount_5 : zf mX7_amount 5 = some (.iload_n 2, 1, 6) := by decide +kernel
theorem fX7_amount_6 : zf mX7_amount 6 = some (.iload_n 2, 1, 7) := by decide +kernel
theorem fX7_amount_7 : zf mX7_amount 7 = some (.invokestatic 102, 3, 10) := by decide +kernel
theorem fX7_amount_10 : zf mX7_amount 10 = some (.aload_n 0, 1, 11) := by decide +kernel
theorem fX7_amount_11 : zf mX7_amount 11 = some (.getfield 32, 3, 14) := by decide +kernel
theorem fX7_amount_14 : zf mX7_amount 14 = some (.iload_n 1, 1, 15) := by decide +kernel
theorem fX7_amount_15 : zf mX7_amount 15 = some (.iload_n 2, 1, 16) := by decide +kernel
theorem fX7_amount_16 : zf mX7_amount 16 = some (.invokevirtual 106, 3, 19) := by decide +kernel
theorem fX7_amount_19 : zf mX7_amount 19 = some (.ireturn, 1, 20) := by decide +kernel
theorem fX7_sum_0 : zf mX7_sum 0 = some (.aload_n 0, 1, 1) := by decide +kernel
theorem fX7_sum_1 : zf mX7_sum 1 = some (.iload_n 1, 1, 2) := by decide +kernel
theorem fX7_sum_2 : zf mX7_sum 2 = some (.invokevirtual 99, 3, 5) := by decide +kernel
theorem fX7_sum_5 : zf mX7_sum 5 = some (.iload_n 2, 1, 6) := by decide +kernel
theorem fX7_sum_6 : zf mX7_sum 6 = some (.iload_n 3, 1, 7) := by decide +kernel
theorem fX7_sum_7 : zf mX7_sum 7 = some (.invokestatic 102, 3, 10) := by decide +kernel
theorem fX7_sum_10 : zf mX7_sum 10 = some (.aload_n 0, 1, 11) := by decide +kernel
theorem fX7_sum_11 : zf mX7_sum 11 = some (.getfield 32, 3, 14) := by decide +kernel
theorem fX7_sum_14 : zf mX7_sum 14 = some (.iload_n 1, 1, 15) := by decide +kernel
theorem fX7_sum_15 : zf mX7_sum 15 = some (.iload_n 2, 1, 16) := by decide +kernel
theorem fX7_sum_16 : zf mX7_sum 16 = some (.iload_n 3, 1, 17) := by decide +kernel
theorem fX7_sum_17 : zf mX7_sum 17 = some (.invokevirtual 111, 3, 20) := by decide +kernel
theorem fX7_sum_20 : zf mX7_sum 20 = some (.ireturn, 1, 21) := by decide +kernel
theorem fX7_sumAgain_0 : zf mX7_sumAgain 0 = some (.aload_n 0, 1, 1) := by decide +kernel
theorem fX7_sumAgain_1 : zf mX7_sumAgain 1 = some (.iload_n 1, 1, 2) := by decide +kernel
theorem fX7_sumAgain_2 : zf mX7_sumAgain 2 = some (.invokevirtual 99, 3, 5) := by decide +kernel
theorem fX7_sumAgain_5 : zf mX7_sumAgain 5 = some (.iload_n 2, 1, 6) := by decide +kernel
theorem fX7_sumAgain_6 : zf mX7_sumAgain 6 = some (.iload_n 3, 1, 7) := by decide +kernel
theorem fX7_sumAgain_7 : zf mX7_sumAgain 7 = some (.invokestatic 102, 3, 10) := by decide +kernel
theorem fX7_sumAgain_10 : zf mX7_sumAgain 10 = some (.aload_n 0, 1, 11) := by decide +kernel
theorem fX7_sumAgain_11 : zf mX7_sumAgain 11 = some (.getfield 32, 3, 14) := by decide +kernel
theorem fX7_sumAgain_14 : zf mX7_sumAgain 14 = some (.iload_n 1, 1, 15) := by decide +kernel
theorem fX7_sumAgain_15 : zf mX7_sumAgain 15 = some (.iload_n 2, 1, 16) := by decide +kernel
theorem fX7_sumAgain_16 : zf mX7_sumAgain 16 = some (.iload_n 3, 1, 17) := by decide +kernel
theorem fX7_sumAgain_17 : zf mX7_sumAgain 17 = some (.invokevirtual 114, 3, 20) := by decide +kernel
theorem fX7_sumAgain_20 : zf mX7_sumAgain 20 = some (.ireturn, 1, 21) := by decide +kernel
theorem fX7_most_0 : zf mX7_most 0 = some (.aload_n 0, 1, 1) := by decide +kernel
theorem fX7_most_1 : zf mX7_most 1 = some (.iload_n 1, 1, 2) := by decide +kernel
theorem fX7_most_2 : zf mX7_most 2 = some (.invokevirtual 99, 3, 5) := by decide +kernel
theorem fX7_most_5 : zf mX7_most 5 = some (.iload_n 2, 1, 6) := by decide +kernel
theorem fX7_most_6 : zf mX7_most 6 = some (.iload_n 3, 1, 7) := by decide +kernel
theorem fX7_most_7 : zf mX7_most 7 = some (.invokestatic 102, 3, 10) := by decide +kernel
theorem fX7_most_10 : zf mX7_most 10 = some (.aload_n 0, 1, 11) := by decide +kernel
theorem fX7_most_11 : zf mX7_most 11 = some (.getfield 32, 3, 14) := by decide +kernel
theorem fX7_most_14 : zf mX7_most 14 = some (.iload_n 1, 1, 15) := by decide +kernel
theorem fX7_most_15 : zf mX7_most 15 = some (.iload_n 2, 1, 16) := by decide +kernel
theorem fX7_most_16 : zf mX7_most 16 = some (.iload_n 3, 1, 17) := by decide +kernel
theorem fX7_most_17 : zf mX7_most 17 = some (.invokevirtual 117, 3, 20) := by decide +kernel
theorem fX7_most_20 : zf mX7_most 20 = some (.ireturn, 1, 21) := by decide +kernel
theorem fX7_reached_0 : zf mX7_reached 0 = some (.aload_n 0, 1, 1) := by decide +kernel
theorem fX7_reached_1 : zf mX7_reached 1 = some (.iload_n 1, 1, 2) := by decide +kernel
theorem fX7_reached_2 : zf mX7_reached 2 = some (.invokevirtual 99, 3, 5) := by decide +kernel
theorem fX7_reached_5 : zf mX7_reached 5 = some (.aload_n 0, 1, 6) := by decide +kernel
theorem fX7_reached_6 : zf mX7_reached 6 = some (.getfield 32, 3, 9) := by decide +kernel
theorem fX7_reached_9 : zf mX7_reached 9 = some (.iload_n 1, 1, 10) := by decide +kernel
theorem fX7_reached_10 : zf mX7_reached 10 = some (.iload_n 2, 1, 11) := by decide +kernel
theorem fX7_reached_11 : zf mX7_reached 11 = some (.invokevirtual 120, 3, 14) := by decide +kernel
theorem fX7_reached_14 : zf mX7_reached 14 = some (.istore_n 3, 1, 15) := by decide +kernel
theorem fX7_reached_15 : zf mX7_reached 15 = some (.iload_n 3, 1, 16) := by decide +kernel
theorem fX7_reached_16 : zf mX7_reached 16 = some (.iconst (-1), 1, 17) := by decide +kernel
theorem fX7_reached_17 : zf mX7_reached 17 = some (.if_icmp .ne 13, 3, 20) := by decide +kernel
theorem fX7_reached_20 : zf mX7_reached 20 = some (.new 123, 3, 23) := by decide +kernel
theorem fX7_reached_23 : zf mX7_reached 23 = some (.dup, 1, 24) := by decide +kernel
theorem fX7_reached_24 : zf mX7_reached 24 = some (.ldc 125, 2, 26) := by decide +kernel
theorem fX7_reached_26 : zf mX7_reached 26 = some (.invokespecial 127, 3, 29) := by decide +kernel
theorem fX7_reached_29 : zf mX7_reached 29 = some (.athrow, 1, 30) := by decide +kernel
theorem fX7_reached_30 : zf mX7_reached 30 = some (.iload_n 3, 1, 31) := by decide +kernel
theorem fX7_reached_31 : zf mX7_reached 31 = some (.ireturn, 1, 32) := by decide +kernel
theorem fX7_versionOf_0 : zf mX7_versionOf 0 = some (.aload_n 0, 1, 1) := by decide +kernel
theorem fX7_versionOf_1 : zf mX7_versionOf 1 = some (.iload_n 1, 1, 2) := by decide +kernel
theorem fX7_versionOf_2 : zf mX7_versionOf 2 = some (.invokevirtual 99, 3, 5) := by decide +kernel
theorem fX7_versionOf_5 : zf mX7_versionOf 5 = some (.iload_n 2, 1, 6) := by decide +kernel
theorem fX7_versionOf_6 : zf mX7_versionOf 6 = some (.tableswitch 105 0 6 #[42, 51, 60, 69, 78, 87, 96], 42, 48) := by decide +kernel
theorem fX7_versionOf_48 : zf mX7_versionOf 48 = some (.aload_n 0, 1, 49) := by decide +kernel
theorem fX7_versionOf_49 : zf mX7_versionOf 49 = some (.getfield 32, 3, 52) := by decide +kernel
theorem fX7_versionOf_52 : zf mX7_versionOf 52 = some (.iload_n 1, 1, 53) := by decide +kernel
theorem fX7_versionOf_53 : zf mX7_versionOf 53 = some (.invokevirtual 130, 3, 56) := by decide +kernel
theorem fX7_versionOf_56 : zf mX7_versionOf 56 = some (.ireturn, 1, 57) := by decide +kernel
theorem fX7_versionOf_57 : zf mX7_versionOf 57 = some (.aload_n 0, 1, 58) := by decide +kernel
theorem fX7_versionOf_58 : zf mX7_versionOf 58 = some (.getfield 32, 3, 61) := by decide +kernel
theorem fX7_versionOf_61 : zf mX7_versionOf 61 = some (.iload_n 1, 1, 62) := by decide +kernel
theorem fX7_versionOf_62 : zf mX7_versionOf 62 = some (.invokevirtual 133, 3, 65) := by decide +kernel
theorem fX7_versionOf_65 : zf mX7_versionOf 65 = some (.ireturn, 1, 66) := by decide +kernel
theorem fX7_versionOf_66 : zf mX7_versionOf 66 = some (.aload_n 0, 1, 67) := by decide +kernel
theorem fX7_versionOf_67 : zf mX7_versionOf 67 = some (.getfield 32, 3, 70) := by decide +kernel
theorem fX7_versionOf_70 : zf mX7_versionOf 70 = some (.iload_n 1, 1, 71) := by decide +kernel
theorem fX7_versionOf_71 : zf mX7_versionOf 71 = some (.invokevirtual 136, 3, 74) := by decide +kernel
theorem fX7_versionOf_74 : zf mX7_versionOf 74 = some (.ireturn, 1, 75) := by decide +kernel
theorem fX7_versionOf_75 : zf mX7_versionOf 75 = some (.aload_n 0, 1, 76) := by decide +kernel
theorem fX7_versionOf_76 : zf mX7_versionOf 76 = some (.getfield 32, 3, 79) := by decide +kernel
theorem fX7_versionOf_79 : zf mX7_versionOf 79 = some (.iload_n 1, 1, 80) := by decide +kernel
theorem fX7_versionOf_80 : zf mX7_versionOf 80 = some (.invokevirtual 139, 3, 83) := by decide +kernel
theorem fX7_versionOf_83 : zf mX7_versionOf 83 = some (.ireturn, 1, 84) := by decide +kernel
theorem fX7_versionOf_84 : zf mX7_versionOf 84 = some (.aload_n 0, 1, 85) := by decide +kernel
theorem fX7_versionOf_85 : zf mX7_versionOf 85 = some (.getfield 32, 3, 88) := by decide +kernel
theorem fX7_versionOf_88 : zf mX7_versionOf 88 = some (.iload_n 1, 1, 89) := by decide +kernel
theorem fX7_versionOf_89 : zf mX7_versionOf 89 = some (.invokevirtual 142, 3, 92) := by decide +kernel
theorem fX7_versionOf_92 : zf mX7_versionOf 92 = some (.ireturn, 1, 93) := by decide +kernel
theorem fX7_versionOf_93 : zf mX7_versionOf 93 = some (.aload_n 0, 1, 94) := by decide +kernel
theorem fX7_versionOf_94 : zf mX7_versionOf 94 = some (.getfield 32, 3, 97) := by decide +kernel
theorem fX7_versionOf_97 : zf mX7_versionOf 97 = some (.iload_n 1, 1, 98) := by decide +kernel
theorem fX7_versionOf_98 : zf mX7_versionOf 98 = some (.invokevirtual 145, 3, 101) := by decide +kernel
theorem fX7_versionOf_101 : zf mX7_versionOf 101 = some (.ireturn, 1, 102) := by decide +kernel
theorem fX7_versionOf_102 : zf mX7_versionOf 102 = some (.aload_n 0, 1, 103) := by decide +kernel
theorem fX7_versionOf_103 : zf mX7_versionOf 103 = some (.getfield 25, 3, 106) := by decide +kernel
theorem fX7_versionOf_106 : zf mX7_versionOf 106 = some (.iload_n 1, 1, 107) := by decide +kernel
theorem fX7_versionOf_107 : zf mX7_versionOf 107 = some (.invokevirtual 148, 3, 110) := by decide +kernel
theorem fX7_versionOf_110 : zf mX7_versionOf 110 = some (.ireturn, 1, 111) := by decide +kernel
theorem fX7_versionOf_111 : zf mX7_versionOf 111 = some (.new 151, 3, 114) := by decide +kernel
theorem fX7_versionOf_114 : zf mX7_versionOf 114 = some (.dup, 1, 115) := by decide +kernel
theorem fX7_versionOf_115 : zf mX7_versionOf 115 = some (.ldc 153, 2, 117) := by decide +kernel
theorem fX7_versionOf_117 : zf mX7_versionOf 117 = some (.invokespecial 155, 3, 120) := by decide +kernel
theorem fX7_versionOf_120 : zf mX7_versionOf 120 = some (.athrow, 1, 121) := by decide +kernel
theorem fX7_maker_0 : zf mX7_maker 0 = some (.aload_n 0, 1, 1) := by decide +kernel
theorem fX7_maker_1 : zf mX7_maker 1 = some (.iload_n 1, 1, 2) := by decide +kernel
theorem fX7_maker_2 : zf mX7_maker 2 = some (.invokevirtual 99, 3, 5) := by decide +kernel
theorem fX7_maker_5 : zf mX7_maker 5 = some (.iload_n 2, 1, 6) := by decide +kernel
theorem fX7_maker_6 : zf mX7_maker 6 = some (.invokestatic 156, 3, 9) := by decide +kernel
theorem fX7_maker_9 : zf mX7_maker 9 = some (.aload_n 0, 1, 10) := by decide +kernel
theorem fX7_maker_10 : zf mX7_maker 10 = some (.getfield 32, 3, 13) := by decide +kernel
theorem fX7_maker_13 : zf mX7_maker 13 = some (.iload_n 1, 1, 14) := by decide +kernel
theorem fX7_maker_14 : zf mX7_maker 14 = some (.iload_n 2, 1, 15) := by decide +kernel
theorem fX7_maker_15 : zf mX7_maker 15 = some (.invokevirtual 159, 3, 18) := by decide +kernel
theorem fX7_maker_18 : zf mX7_maker 18 = some (.ireturn, 1, 19) := by decide +kernel
theorem fX7_had_0 : zf mX7_had 0 = some (.iload_n 1, 1, 1) := by decide +kernel
theorem fX7_had_1 : zf mX7_had 1 = some (.invokestatic 92, 3, 4) := by decide +kernel
theorem fX7_had_4 : zf mX7_had 4 = some (.iload_n 2, 1, 5) := by decide +kernel
theorem fX7_had_5 : zf mX7_had 5 = some (.ifCond .lt 9, 3, 8) := by decide +kernel
theorem fX7_had_8 : zf mX7_had 8 = some (.iload_n 2, 1, 9) := by decide +kernel
theorem fX7_had_9 : zf mX7_had 9 = some (.bipush 99, 2, 11) := by decide +kernel
theorem fX7_had_11 : zf mX7_had 11 = some (.if_icmp .le 13, 3, 14) := by decide +kernel
theorem fX7_had_14 : zf mX7_had 14 = some (.new 151, 3, 17) := by decide +kernel
theorem fX7_had_17 : zf mX7_had 17 = some (.dup, 1, 18) := by decide +kernel
theorem fX7_had_18 : zf mX7_had 18 = some (.ldc 162, 2, 20) := by decide +kernel
theorem fX7_had_20 : zf mX7_had 20 = some (.invokespecial 155, 3, 23) := by decide +kernel
theorem fX7_had_23 : zf mX7_had 23 = some (.athrow, 1, 24) := by decide +kernel
theorem fX7_had_24 : zf mX7_had 24 = some (.aload_n 0, 1, 25) := by decide +kernel
theorem fX7_had_25 : zf mX7_had 25 = some (.getfield 32, 3, 28) := by decide +kernel
theorem fX7_had_28 : zf mX7_had 28 = some (.aload_n 0, 1, 29) := by decide +kernel
theorem fX7_had_29 : zf mX7_had 29 = some (.getfield 25, 3, 32) := by decide +kernel
theorem fX7_had_32 : zf mX7_had 32 = some (.iload_n 1, 1, 33) := by decide +kernel
theorem fX7_had_33 : zf mX7_had 33 = some (.invokevirtual 96, 3, 36) := by decide +kernel
theorem fX7_had_36 : zf mX7_had 36 = some (.iload_n 2, 1, 37) := by decide +kernel
theorem fX7_had_37 : zf mX7_had 37 = some (.invokevirtual 164, 3, 40) := by decide +kernel
theorem fX7_had_40 : zf mX7_had 40 = some (.ireturn, 1, 41) := by decide +kernel
theorem fX7_since_0 : zf mX7_since 0 = some (.aload_n 0, 1, 1) := by decide +kernel
theorem fX7_since_1 : zf mX7_since 1 = some (.iload_n 1, 1, 2) := by decide +kernel
theorem fX7_since_2 : zf mX7_since 2 = some (.invokevirtual 99, 3, 5) := by decide +kernel
theorem fX7_since_5 : zf mX7_since 5 = some (.iload_n 2, 1, 6) := by decide +kernel
theorem fX7_since_6 : zf mX7_since 6 = some (.iload_n 2, 1, 7) := by decide +kernel
theorem fX7_since_7 : zf mX7_since 7 = some (.invokestatic 102, 3, 10) := by decide +kernel
theorem fX7_since_10 : zf mX7_since 10 = some (.aload_n 0, 1, 11) := by decide +kernel
theorem fX7_since_11 : zf mX7_since 11 = some (.getfield 32, 3, 14) := by decide +kernel
theorem fX7_since_14 : zf mX7_since 14 = some (.iload_n 1, 1, 15) := by decide +kernel
theorem fX7_since_15 : zf mX7_since 15 = some (.iload_n 2, 1, 16) := by decide +kernel
theorem fX7_since_16 : zf mX7_since 16 = some (.invokevirtual 167, 3, 19) := by decide +kernel
theorem fX7_since_19 : zf mX7_since 19 = some (.ireturn, 1, 20) := by decide +kernel
theorem fX7_common_0 : zf mX7_common 0 = some (.aload_n 0, 1, 1) := by decide +kernel
theorem fX7_common_1 : zf mX7_common 1 = some (.iload_n 1, 1, 2) := by decide +kernel
theorem fX7_common_2 : zf mX7_common 2 = some (.invokevirtual 99, 3, 5) := by decide +kernel
theorem fX7_common_5 : zf mX7_common 5 = some (.aload_n 0, 1, 6) := by decide +kernel
theorem fX7_common_6 : zf mX7_common 6 = some (.iload_n 2, 1, 7) := by decide +kernel
theorem fX7_common_7 : zf mX7_common 7 = some (.invokevirtual 99, 3, 10) := by decide +kernel
theorem fX7_common_10 : zf mX7_common 10 = some (.aload_n 0, 1, 11) := by decide +kernel
theorem fX7_common_11 : zf mX7_common 11 = some (.getfield 32, 3, 14) := by decide +kernel
theorem fX7_common_14 : zf mX7_common 14 = some (.iload_n 1, 1, 15) := by decide +kernel
theorem fX7_common_15 : zf mX7_common 15 = some (.iload_n 2, 1, 16) := by decide +kernel
theorem fX7_common_16 : zf mX7_common 16 = some (.invokevirtual 170, 3, 19) := by decide +kernel
theorem fX7_common_19 : zf mX7_common 19 = some (.ireturn, 1, 20) := by decide +kernel
theorem fX7_apart_0 : zf mX7_apart 0 = some (.aload_n 0, 1, 1) := by decide +kernel
theorem fX7_apart_1 : zf mX7_apart 1 = some (.iload_n 1, 1, 2) := by decide +kernel
theorem fX7_apart_2 : zf mX7_apart 2 = some (.invokevirtual 99, 3, 5) := by decide +kernel
theorem fX7_apart_5 : zf mX7_apart 5 = some (.aload_n 0, 1, 6) := by decide +kernel
theorem fX7_apart_6 : zf mX7_apart 6 = some (.iload_n 2, 1, 7) := by decide +kernel
theorem fX7_apart_7 : zf mX7_apart 7 = some (.invokevirtual 99, 3, 10) := by decide +kernel
theorem fX7_apart_10 : zf mX7_apart 10 = some (.aload_n 0, 1, 11) := by decide +kernel
theorem fX7_apart_11 : zf mX7_apart 11 = some (.getfield 32, 3, 14) := by decide +kernel
theorem fX7_apart_14 : zf mX7_apart 14 = some (.iload_n 1, 1, 15) := by decide +kernel
theorem fX7_apart_15 : zf mX7_apart 15 = some (.iload_n 2, 1, 16) := by decide +kernel
theorem fX7_apart_16 : zf mX7_apart 16 = some (.iconst 0, 1, 17) := by decide +kernel
theorem fX7_apart_17 : zf mX7_apart 17 = some (.bipush 15, 2, 19) := by decide +kernel
theorem fX7_apart_19 : zf mX7_apart 19 = some (.invokevirtual 173, 3, 22) := by decide +kernel
theorem fX7_apart_22 : zf mX7_apart 22 = some (.ireturn, 1, 23) := by decide +kernel
theorem fX7_shared_0 : zf mX7_shared 0 = some (.aload_n 0, 1, 1) := by decide +kernel
theorem fX7_shared_1 : zf mX7_shared 1 = some (.iload_n 1, 1, 2) := by decide +kernel
theorem fX7_shared_2 : zf mX7_shared 2 = some (.invokevirtual 99, 3, 5) := by decide +kernel
theorem fX7_shared_5 : zf mX7_shared 5 = some (.aload_n 0, 1, 6) := by decide +kernel
theorem fX7_shared_6 : zf mX7_shared 6 = some (.iload_n 2, 1, 7) := by decide +kernel
theorem fX7_shared_7 : zf mX7_shared 7 = some (.invokevirtual 99, 3, 10) := by decide +kernel
theorem fX7_shared_10 : zf mX7_shared 10 = some (.aload_n 0, 1, 11) := by decide +kernel
theorem fX7_shared_11 : zf mX7_shared 11 = some (.getfield 32, 3, 14) := by decide +kernel
theorem fX7_shared_14 : zf mX7_shared 14 = some (.iload_n 1, 1, 15) := by decide +kernel
theorem fX7_shared_15 : zf mX7_shared 15 = some (.iload_n 2, 1, 16) := by decide +kernel
theorem fX7_shared_16 : zf mX7_shared 16 = some (.invokevirtual 176, 3, 19) := by decide +kernel
theorem fX7_shared_19 : zf mX7_shared 19 = some (.ireturn, 1, 20) := by decide +kernel
theorem fX7_isOf_0 : zf mX7_isOf 0 = some (.aload_n 0, 1, 1) := by decide +kernel
theorem fX7_isOf_1 : zf mX7_isOf 1 = some (.iload_n 1, 1, 2) := by decide +kernel
theorem fX7_isOf_2 : zf mX7_isOf 2 = some (.invokevirtual 99, 3, 5) := by decide +kernel
theorem fX7_isOf_5 : zf mX7_isOf 5 = some (.aload_n 0, 1, 6) := by decide +kernel
theorem fX7_isOf_6 : zf mX7_isOf 6 = some (.iload_n 2, 1, 7) := by decide +kernel
theorem fX7_isOf_7 : zf mX7_isOf 7 = some (.invokevirtual 99, 3, 10) := by decide +kernel
theorem fX7_isOf_10 : zf mX7_isOf 10 = some (.aload_n 0, 1, 11) := by decide +kernel
theorem fX7_isOf_11 : zf mX7_isOf 11 = some (.getfield 32, 3, 14) := by decide +kernel
theorem fX7_isOf_14 : zf mX7_isOf 14 = some (.iload_n 1, 1, 15) := by decide +kernel
theorem fX7_isOf_15 : zf mX7_isOf 15 = some (.iload_n 2, 1, 16) := by decide +kernel
theorem fX7_isOf_16 : zf mX7_isOf 16 = some (.invokevirtual 170, 3, 19) := by decide +kernel
theorem fX7_isOf_19 : zf mX7_isOf 19 = some (.iload_n 1, 1, 20) := by decide +kernel
theorem fX7_isOf_20 : zf mX7_isOf 20 = some (.if_icmp .ne 7, 3, 23) := by decide +kernel
theorem fX7_isOf_23 : zf mX7_isOf 23 = some (.iconst 1, 1, 24) := by decide +kernel
theorem fX7_isOf_24 : zf mX7_isOf 24 = some (.goto 4, 3, 27) := by decide +kernel
theorem fX7_isOf_27 : zf mX7_isOf 27 = some (.iconst 0, 1, 28) := by decide +kernel
theorem fX7_isOf_28 : zf mX7_isOf 28 = some (.ireturn, 1, 29) := by decide +kernel
theorem fX7_users_0 : zf mX7_users 0 = some (.aload_n 0, 1, 1) := by decide +kernel
theorem fX7_users_1 : zf mX7_users 1 = some (.iload_n 1, 1, 2) := by decide +kernel
theorem fX7_users_2 : zf mX7_users 2 = some (.invokevirtual 99, 3, 5) := by decide +kernel
theorem fX7_users_5 : zf mX7_users 5 = some (.iload_n 2, 1, 6) := by decide +kernel
theorem fX7_users_6 : zf mX7_users 6 = some (.invokestatic 156, 3, 9) := by decide +kernel
theorem fX7_users_9 : zf mX7_users 9 = some (.aload_n 0, 1, 10) := by decide +kernel
theorem fX7_users_10 : zf mX7_users 10 = some (.getfield 32, 3, 13) := by decide +kernel
theorem fX7_users_13 : zf mX7_users 13 = some (.aload_n 0, 1, 14) := by decide +kernel
theorem fX7_users_14 : zf mX7_users 14 = some (.getfield 32, 3, 17) := by decide +kernel
theorem fX7_users_17 : zf mX7_users 17 = some (.iload_n 1, 1, 18) := by decide +kernel
theorem fX7_users_18 : zf mX7_users 18 = some (.iload_n 2, 1, 19) := by decide +kernel
theorem fX7_users_19 : zf mX7_users 19 = some (.invokevirtual 159, 3, 22) := by decide +kernel
theorem fX7_users_22 : zf mX7_users 22 = some (.iload_n 2, 1, 23) := by decide +kernel
theorem fX7_users_23 : zf mX7_users 23 = some (.invokevirtual 179, 3, 26) := by decide +kernel
theorem fX7_users_26 : zf mX7_users 26 = some (.ireturn, 1, 27) := by decide +kernel
theorem fX7_wouldMake_0 : zf mX7_wouldMake 0 = some (.iload_n 1, 1, 1) := by decide +kernel
theorem fX7_wouldMake_1 : zf mX7_wouldMake 1 = some (.iload_n 2, 1, 2) := by decide +kernel
theorem fX7_wouldMake_2 : zf mX7_wouldMake 2 = some (.invokestatic 102, 3, 5) := by decide +kernel
theorem fX7_wouldMake_5 : zf mX7_wouldMake 5 = some (.iconst 0, 1, 6) := by decide +kernel
theorem fX7_wouldMake_6 : zf mX7_wouldMake 6 = some (.istore_n 3, 1, 7) := by decide +kernel
theorem fX7_wouldMake_7 : zf mX7_wouldMake 7 = some (.iconst 0, 1, 8) := by decide +kernel
theorem fX7_wouldMake_8 : zf mX7_wouldMake 8 = some (.istore 4, 2, 10) := by decide +kernel
theorem fX7_wouldMake_10 : zf mX7_wouldMake 10 = some (.iload 4, 2, 12) := by decide +kernel
theorem fX7_wouldMake_12 : zf mX7_wouldMake 12 = some (.bipush 31, 2, 14) := by decide +kernel
theorem fX7_wouldMake_14 : zf mX7_wouldMake 14 = some (.if_icmp .ge 22, 3, 17) := by decide +kernel
theorem fX7_wouldMake_17 : zf mX7_wouldMake 17 = some (.iload 4, 2, 19) := by decide +kernel
theorem fX7_wouldMake_19 : zf mX7_wouldMake 19 = some (.iload_n 1, 1, 20) := by decide +kernel
theorem fX7_wouldMake_20 : zf mX7_wouldMake 20 = some (.iload_n 2, 1, 21) := by decide +kernel
theorem fX7_wouldMake_21 : zf mX7_wouldMake 21 = some (.invokestatic 182, 3, 24) := by decide +kernel
theorem fX7_wouldMake_24 : zf mX7_wouldMake 24 = some (.ifCond .eq 6, 3, 27) := by decide +kernel
theorem fX7_wouldMake_27 : zf mX7_wouldMake 27 = some (.iinc 3 1, 3, 30) := by decide +kernel
theorem fX7_wouldMake_30 : zf mX7_wouldMake 30 = some (.iinc 4 1, 3, 33) := by decide +kernel
theorem fX7_wouldMake_33 : zf mX7_wouldMake 33 = some (.goto (-23), 3, 36) := by decide +kernel
theorem fX7_wouldMake_36 : zf mX7_wouldMake 36 = some (.iload_n 3, 1, 37) := by decide +kernel
theorem fX7_wouldMake_37 : zf mX7_wouldMake 37 = some (.ireturn, 1, 38) := by decide +kernel
theorem fX7_alike_0 : zf mX7_alike 0 = some (.aload_n 0, 1, 1) := by decide +kernel
theorem fX7_alike_1 : zf mX7_alike 1 = some (.iload_n 1, 1, 2) := by decide +kernel
theorem fX7_alike_2 : zf mX7_alike 2 = some (.invokevirtual 99, 3, 5) := by decide +kernel
theorem fX7_alike_5 : zf mX7_alike 5 = some (.aload_n 0, 1, 6) := by decide +kernel
theorem fX7_alike_6 : zf mX7_alike 6 = some (.getfield 32, 3, 9) := by decide +kernel
theorem fX7_alike_9 : zf mX7_alike 9 = some (.iload_n 1, 1, 10) := by decide +kernel
theorem fX7_alike_10 : zf mX7_alike 10 = some (.invokevirtual 186, 3, 13) := by decide +kernel
theorem fX7_alike_13 : zf mX7_alike 13 = some (.ireturn, 1, 14) := by decide +kernel
theorem fX7_richest_0 : zf mX7_richest 0 = some (.aload_n 0, 1, 1) := by decide +kernel
theorem fX7_richest_1 : zf mX7_richest 1 = some (.getfield 32, 3, 4) := by decide +kernel
theorem fX7_richest_4 : zf mX7_richest 4 = some (.iload_n 1, 1, 5) := by decide +kernel
theorem fX7_richest_5 : zf mX7_richest 5 = some (.invokevirtual 189, 3, 8) := by decide +kernel
theorem fX7_richest_8 : zf mX7_richest 8 = some (.istore_n 2, 1, 9) := by decide +kernel
theorem fX7_richest_9 : zf mX7_richest 9 = some (.iload_n 2, 1, 10) := by decide +kernel
theorem fX7_richest_10 : zf mX7_richest 10 = some (.iconst (-1), 1, 11) := by decide +kernel
theorem fX7_richest_11 : zf mX7_richest 11 = some (.if_icmp .ne 13, 3, 14) := by decide +kernel
theorem fX7_richest_14 : zf mX7_richest 14 = some (.new 123, 3, 17) := by decide +kernel
theorem fX7_richest_17 : zf mX7_richest 17 = some (.dup, 1, 18) := by decide +kernel
theorem fX7_richest_18 : zf mX7_richest 18 = some (.ldc 192, 2, 20) := by decide +kernel
theorem fX7_richest_20 : zf mX7_richest 20 = some (.invokespecial 127, 3, 23) := by decide +kernel
theorem fX7_richest_23 : zf mX7_richest 23 = some (.athrow, 1, 24) := by decide +kernel
theorem fX7_richest_24 : zf mX7_richest 24 = some (.iload_n 2, 1, 25) := by decide +kernel
theorem fX7_richest_25 : zf mX7_richest 25 = some (.ireturn, 1, 26) := by decide +kernel
theorem fX7_busiest_0 : zf mX7_busiest 0 = some (.aload_n 0, 1, 1) := by decide +kernel
theorem fX7_busiest_1 : zf mX7_busiest 1 = some (.getfield 32, 3, 4) := by decide +kernel
theorem fX7_busiest_4 : zf mX7_busiest 4 = some (.invokevirtual 194, 3, 7) := by decide +kernel
theorem fX7_busiest_7 : zf mX7_busiest 7 = some (.iconst 2, 1, 8) := by decide +kernel
theorem fX7_busiest_8 : zf mX7_busiest 8 = some (.if_icmp .ge 13, 3, 11) := by decide +kernel
theorem fX7_busiest_11 : zf mX7_busiest 11 = some (.new 123, 3, 14) := by decide +kernel
theorem fX7_busiest_14 : zf mX7_busiest 14 = some (.dup, 1, 15) := by decide +kernel
theorem fX7_busiest_15 : zf mX7_busiest 15 = some (.ldc 198, 2, 17) := by decide +kernel
theorem fX7_busiest_17 : zf mX7_busiest 17 = some (.invokespecial 127, 3, 20) := by decide +kernel
theorem fX7_busiest_20 : zf mX7_busiest 20 = some (.athrow, 1, 21) := by decide +kernel
theorem fX7_busiest_21 : zf mX7_busiest 21 = some (.aload_n 0, 1, 22) := by decide +kernel
theorem fX7_busiest_22 : zf mX7_busiest 22 = some (.getfield 32, 3, 25) := by decide +kernel
theorem fX7_busiest_25 : zf mX7_busiest 25 = some (.invokevirtual 200, 3, 28) := by decide +kernel
theorem fX7_busiest_28 : zf mX7_busiest 28 = some (.ireturn, 1, 29) := by decide +kernel
theorem fX7_append_0 : zf mX7_append 0 = some (.aload_n 0, 1, 1) := by decide +kernel
theorem fX7_append_1 : zf mX7_append 1 = some (.getfield 51, 3, 4) := by decide +kernel
theorem fX7_append_4 : zf mX7_append 4 = some (.invokevirtual 203, 3, 7) := by decide +kernel
theorem fX7_append_7 : zf mX7_append 7 = some (.ifCond .eq 13, 3, 10) := by decide +kernel
theorem fX7_append_10 : zf mX7_append 10 = some (.new 207, 3, 13) := by decide +kernel
theorem fX7_append_13 : zf mX7_append 13 = some (.dup, 1, 14) := by decide +kernel
theorem fX7_append_14 : zf mX7_append 14 = some (.ldc 209, 2, 16) := by decide +kernel
theorem fX7_append_16 : zf mX7_append 16 = some (.invokespecial 211, 3, 19) := by decide +kernel
theorem fX7_append_19 : zf mX7_append 19 = some (.athrow, 1, 20) := by decide +kernel
theorem fX7_append_20 : zf mX7_append 20 = some (.aload_n 0, 1, 21) := by decide +kernel
theorem fX7_append_21 : zf mX7_append 21 = some (.getfield 51, 3, 24) := by decide +kernel
theorem fX7_append_24 : zf mX7_append 24 = some (.iload_n 1, 1, 25) := by decide +kernel
theorem fX7_append_25 : zf mX7_append 25 = some (.invokevirtual 212, 3, 28) := by decide +kernel
theorem fX7_append_28 : zf mX7_append 28 = some (.aload_n 0, 1, 29) := by decide +kernel
theorem fX7_append_29 : zf mX7_append 29 = some (.getfield 51, 3, 32) := by decide +kernel
theorem fX7_append_32 : zf mX7_append 32 = some (.invokevirtual 216, 3, 35) := by decide +kernel
theorem fX7_append_35 : zf mX7_append 35 = some (.ireturn, 1, 36) := by decide +kernel
theorem fX7_commands_0 : zf mX7_commands 0 = some (.aload_n 0, 1, 1) := by decide +kernel
theorem fX7_commands_1 : zf mX7_commands 1 = some (.aload_n 0, 1, 2) := by decide +kernel
theorem fX7_commands_2 : zf mX7_commands 2 = some (.getfield 51, 3, 5) := by decide +kernel
theorem fX7_commands_5 : zf mX7_commands 5 = some (.invokevirtual 217, 3, 8) := by decide +kernel
theorem fX7_commands_8 : zf mX7_commands 8 = some (.putfield 55, 3, 11) := by decide +kernel
theorem fX7_commands_11 : zf mX7_commands 11 = some (.aload_n 0, 1, 12) := by decide +kernel
theorem fX7_commands_12 : zf mX7_commands 12 = some (.getfield 55, 3, 15) := by decide +kernel
theorem fX7_commands_15 : zf mX7_commands 15 = some (.iconst (-1), 1, 16) := by decide +kernel
theorem fX7_commands_16 : zf mX7_commands 16 = some (.if_icmp .eq 20, 3, 19) := by decide +kernel
theorem fX7_commands_19 : zf mX7_commands 19 = some (.aload_n 0, 1, 20) := by decide +kernel
theorem fX7_commands_20 : zf mX7_commands 20 = some (.getfield 51, 3, 23) := by decide +kernel
theorem fX7_commands_23 : zf mX7_commands 23 = some (.invokevirtual 220, 3, 26) := by decide +kernel
theorem fX7_commands_26 : zf mX7_commands 26 = some (.new 151, 3, 29) := by decide +kernel
theorem fX7_commands_29 : zf mX7_commands 29 = some (.dup, 1, 30) := by decide +kernel
theorem fX7_commands_30 : zf mX7_commands 30 = some (.ldc 223, 2, 32) := by decide +kernel
theorem fX7_commands_32 : zf mX7_commands 32 = some (.invokespecial 155, 3, 35) := by decide +kernel
theorem fX7_commands_35 : zf mX7_commands 35 = some (.athrow, 1, 36) := by decide +kernel
theorem fX7_commands_36 : zf mX7_commands 36 = some (.aload_n 0, 1, 37) := by decide +kernel
theorem fX7_commands_37 : zf mX7_commands 37 = some (.getfield 44, 3, 40) := by decide +kernel
theorem fX7_commands_40 : zf mX7_commands 40 = some (.aload_n 0, 1, 41) := by decide +kernel
theorem fX7_commands_41 : zf mX7_commands 41 = some (.getfield 25, 3, 44) := by decide +kernel
theorem fX7_commands_44 : zf mX7_commands 44 = some (.invokevirtual 66, 3, 47) := by decide +kernel
theorem fX7_commands_47 : zf mX7_commands 47 = some (.aload_n 0, 1, 48) := by decide +kernel
theorem fX7_commands_48 : zf mX7_commands 48 = some (.getfield 51, 3, 51) := by decide +kernel
theorem fX7_commands_51 : zf mX7_commands 51 = some (.invokevirtual 225, 3, 54) := by decide +kernel
theorem fX7_commands_54 : zf mX7_commands 54 = some (.iconst 0, 1, 55) := by decide +kernel
theorem fX7_commands_55 : zf mX7_commands 55 = some (.istore_n 1, 1, 56) := by decide +kernel
theorem fX7_commands_56 : zf mX7_commands 56 = some (.iconst 0, 1, 57) := by decide +kernel
theorem fX7_commands_57 : zf mX7_commands 57 = some (.istore_n 2, 1, 58) := by decide +kernel
theorem fX7_commands_58 : zf mX7_commands 58 = some (.iload_n 2, 1, 59) := by decide +kernel
theorem fX7_commands_59 : zf mX7_commands 59 = some (.ifCond .ne 68, 3, 62) := by decide +kernel
theorem fX7_commands_62 : zf mX7_commands 62 = some (.iload_n 1, 1, 63) := by decide +kernel
theorem fX7_commands_63 : zf mX7_commands 63 = some (.bipush 60, 2, 65) := by decide +kernel
theorem fX7_commands_65 : zf mX7_commands 65 = some (.if_icmp .ge 62, 3, 68) := by decide +kernel
theorem fX7_commands_68 : zf mX7_commands 68 = some (.aload_n 0, 1, 69) := by decide +kernel
theorem fX7_commands_69 : zf mX7_commands 69 = some (.getfield 51, 3, 72) := by decide +kernel
theorem fX7_commands_72 : zf mX7_commands 72 = some (.invokevirtual 228, 3, 75) := by decide +kernel
theorem fX7_commands_75 : zf mX7_commands 75 = some (.ifCond .eq 52, 3, 78) := by decide +kernel
theorem fX7_commands_78 : zf mX7_commands 78 = some (.aload_n 0, 1, 79) := by decide +kernel
theorem fX7_commands_79 : zf mX7_commands 79 = some (.getfield 10, 3, 82) := by decide +kernel
theorem fX7_commands_82 : zf mX7_commands 82 = some (.aload_n 0, 1, 83) := by decide +kernel
theorem fX7_commands_83 : zf mX7_commands 83 = some (.getfield 51, 3, 86) := by decide +kernel
theorem fX7_commands_86 : zf mX7_commands 86 = some (.invokevirtual 231, 3, 89) := by decide +kernel
theorem fX7_commands_89 : zf mX7_commands 89 = some (.iconst (-1), 1, 90) := by decide +kernel
theorem fX7_commands_90 : zf mX7_commands 90 = some (.if_icmp .ne 7, 3, 93) := by decide +kernel
theorem fX7_commands_93 : zf mX7_commands 93 = some (.iconst 1, 1, 94) := by decide +kernel
theorem fX7_commands_94 : zf mX7_commands 94 = some (.goto 4, 3, 97) := by decide +kernel
theorem fX7_commands_97 : zf mX7_commands 97 = some (.iconst 0, 1, 98) := by decide +kernel
theorem fX7_commands_98 : zf mX7_commands 98 = some (.istore_n 2, 1, 99) := by decide +kernel
theorem fX7_commands_99 : zf mX7_commands 99 = some (.iload_n 2, 1, 100) := by decide +kernel
theorem fX7_commands_100 : zf mX7_commands 100 = some (.ifCond .eq 11, 3, 103) := by decide +kernel
theorem fX7_commands_103 : zf mX7_commands 103 = some (.aload_n 0, 1, 104) := by decide +kernel
theorem fX7_commands_104 : zf mX7_commands 104 = some (.getfield 20, 3, 107) := by decide +kernel
theorem fX7_commands_107 : zf mX7_commands 107 = some (.iload_n 1, 1, 108) := by decide +kernel
theorem fX7_commands_108 : zf mX7_commands 108 = some (.putfield 235, 3, 111) := by decide +kernel
theorem fX7_commands_111 : zf mX7_commands 111 = some (.aload_n 0, 1, 112) := by decide +kernel
theorem fX7_commands_112 : zf mX7_commands 112 = some (.getfield 51, 3, 115) := by decide +kernel
theorem fX7_commands_115 : zf mX7_commands 115 = some (.bipush 59, 2, 117) := by decide +kernel
theorem fX7_commands_117 : zf mX7_commands 117 = some (.invokevirtual 240, 3, 120) := by decide +kernel
theorem fX7_commands_120 : zf mX7_commands 120 = some (.pop, 1, 121) := by decide +kernel
theorem fX7_commands_121 : zf mX7_commands 121 = some (.iinc 1 1, 3, 124) := by decide +kernel
theorem fX7_commands_124 : zf mX7_commands 124 = some (.goto (-66), 3, 127) := by decide +kernel
theorem fX7_commands_127 : zf mX7_commands 127 = some (.aload_n 0, 1, 128) := by decide +kernel
theorem fX7_commands_128 : zf mX7_commands 128 = some (.getfield 51, 3, 131) := by decide +kernel
theorem fX7_commands_131 : zf mX7_commands 131 = some (.invokevirtual 220, 3, 134) := by decide +kernel
theorem fX7_commands_134 : zf mX7_commands 134 = some (.aload_n 0, 1, 135) := by decide +kernel
theorem fX7_commands_135 : zf mX7_commands 135 = some (.iload_n 2, 1, 136) := by decide +kernel
theorem fX7_commands_136 : zf mX7_commands 136 = some (.ifCond .eq 7, 3, 139) := by decide +kernel
theorem fX7_commands_139 : zf mX7_commands 139 = some (.iconst (-1), 1, 140) := by decide +kernel
theorem fX7_commands_140 : zf mX7_commands 140 = some (.goto 4, 3, 143) := by decide +kernel
theorem fX7_commands_143 : zf mX7_commands 143 = some (.iload_n 1, 1, 144) := by decide +kernel
theorem fX7_commands_144 : zf mX7_commands 144 = some (.invokevirtual 74, 3, 147) := by decide +kernel
theorem fX7_commands_147 : zf mX7_commands 147 = some (.ireturn, 1, 148) := by decide +kernel
theorem fX7_faultPosition_0 : zf mX7_faultPosition 0 = some (.aload_n 0, 1, 1) := by decide +kernel
theorem fX7_faultPosition_1 : zf mX7_faultPosition 1 = some (.getfield 55, 3, 4) := by decide +kernel
theorem fX7_faultPosition_4 : zf mX7_faultPosition 4 = some (.ireturn, 1, 5) := by decide +kernel
theorem fX7_reason_0 : zf mX7_reason 0 = some (.iload_n 1, 1, 1) := by decide +kernel
theorem fX7_reason_1 : zf mX7_reason 1 = some (.ifCond .lt 8, 3, 4) := by decide +kernel
theorem fX7_reason_4 : zf mX7_reason 4 = some (.iload_n 1, 1, 5) := by decide +kernel
theorem fX7_reason_5 : zf mX7_reason 5 = some (.iconst 2, 1, 6) := by decide +kernel
theorem fX7_reason_6 : zf mX7_reason 6 = some (.if_icmp .le 13, 3, 9) := by decide +kernel
theorem fX7_reason_9 : zf mX7_reason 9 = some (.new 151, 3, 12) := by decide +kernel
theorem fX7_reason_12 : zf mX7_reason 12 = some (.dup, 1, 13) := by decide +kernel
theorem fX7_reason_13 : zf mX7_reason 13 = some (.ldc 244, 2, 15) := by decide +kernel
theorem fX7_reason_15 : zf mX7_reason 15 = some (.invokespecial 155, 3, 18) := by decide +kernel
theorem fX7_reason_18 : zf mX7_reason 18 = some (.athrow, 1, 19) := by decide +kernel
theorem fX7_reason_19 : zf mX7_reason 19 = some (.aload_n 0, 1, 20) := by decide +kernel
theorem fX7_reason_20 : zf mX7_reason 20 = some (.getfield 20, 3, 23) := by decide +kernel
theorem fX7_reason_23 : zf mX7_reason 23 = some (.getfield 246, 3, 26) := by decide +kernel
theorem fX7_reason_26 : zf mX7_reason 26 = some (.ifCond .ne 13, 3, 29) := by decide +kernel
theorem fX7_reason_29 : zf mX7_reason 29 = some (.new 123, 3, 32) := by decide +kernel
theorem fX7_reason_32 : zf mX7_reason 32 = some (.dup, 1, 33) := by decide +kernel
theorem fX7_reason_33 : zf mX7_reason 33 = some (.ldc 249, 2, 35) := by decide +kernel
theorem fX7_reason_35 : zf mX7_reason 35 = some (.invokespecial 127, 3, 38) := by decide +kernel
theorem fX7_reason_38 : zf mX7_reason 38 = some (.athrow, 1, 39) := by decide +kernel
theorem fX7_reason_39 : zf mX7_reason 39 = some (.iload_n 1, 1, 40) := by decide +kernel
theorem fX7_reason_40 : zf mX7_reason 40 = some (.ifCond .ne 11, 3, 43) := by decide +kernel
theorem fX7_reason_43 : zf mX7_reason 43 = some (.aload_n 0, 1, 44) := by decide +kernel
theorem fX7_reason_44 : zf mX7_reason 44 = some (.getfield 20, 3, 47) := by decide +kernel
theorem fX7_reason_47 : zf mX7_reason 47 = some (.getfield 246, 3, 50) := by decide +kernel
theorem fX7_reason_50 : zf mX7_reason 50 = some (.ireturn, 1, 51) := by decide +kernel
theorem fX7_reason_51 : zf mX7_reason 51 = some (.iload_n 1, 1, 52) := by decide +kernel
theorem fX7_reason_52 : zf mX7_reason 52 = some (.iconst 1, 1, 53) := by decide +kernel
theorem fX7_reason_53 : zf mX7_reason 53 = some (.if_icmp .ne 13, 3, 56) := by decide +kernel
theorem fX7_reason_56 : zf mX7_reason 56 = some (.aload_n 0, 1, 57) := by decide +kernel
theorem fX7_reason_57 : zf mX7_reason 57 = some (.getfield 20, 3, 60) := by decide +kernel
theorem fX7_reason_60 : zf mX7_reason 60 = some (.getfield 251, 3, 63) := by decide +kernel
theorem fX7_reason_63 : zf mX7_reason 63 = some (.goto 10, 3, 66) := by decide +kernel
theorem fX7_reason_66 : zf mX7_reason 66 = some (.aload_n 0, 1, 67) := by decide +kernel
theorem fX7_reason_67 : zf mX7_reason 67 = some (.getfield 20, 3, 70) := by decide +kernel
theorem fX7_reason_70 : zf mX7_reason 70 = some (.getfield 235, 3, 73) := by decide +kernel
theorem fX7_reason_73 : zf mX7_reason 73 = some (.ireturn, 1, 74) := by decide +kernel
theorem fX7_line_0 : zf mX7_line 0 = some (.aload_n 0, 1, 1) := by decide +kernel
theorem fX7_line_1 : zf mX7_line 1 = some (.iload_n 1, 1, 2) := by decide +kernel
theorem fX7_line_2 : zf mX7_line 2 = some (.invokevirtual 99, 3, 5) := by decide +kernel
theorem fX7_line_5 : zf mX7_line 5 = some (.aload_n 0, 1, 6) := by decide +kernel
theorem fX7_line_6 : zf mX7_line 6 = some (.getfield 62, 3, 9) := by decide +kernel
theorem fX7_line_9 : zf mX7_line 9 = some (.invokevirtual 254, 3, 12) := by decide +kernel
theorem fX7_line_12 : zf mX7_line 12 = some (.iconst 0, 1, 13) := by decide +kernel
theorem fX7_line_13 : zf mX7_line 13 = some (.istore_n 2, 1, 14) := by decide +kernel
theorem fX7_line_14 : zf mX7_line 14 = some (.iload_n 2, 1, 15) := by decide +kernel
theorem fX7_line_15 : zf mX7_line 15 = some (.bipush 16, 2, 17) := by decide +kernel
theorem fX7_line_17 : zf mX7_line 17 = some (.if_icmp .ge 57, 3, 20) := by decide +kernel
theorem fX7_line_20 : zf mX7_line 20 = some (.aload_n 0, 1, 21) := by decide +kernel
theorem fX7_line_21 : zf mX7_line 21 = some (.getfield 32, 3, 24) := by decide +kernel
theorem fX7_line_24 : zf mX7_line 24 = some (.iload_n 1, 1, 25) := by decide +kernel
theorem fX7_line_25 : zf mX7_line 25 = some (.iload_n 2, 1, 26) := by decide +kernel
theorem fX7_line_26 : zf mX7_line 26 = some (.invokevirtual 106, 3, 29) := by decide +kernel
theorem fX7_line_29 : zf mX7_line 29 = some (.istore_n 3, 1, 30) := by decide +kernel
theorem fX7_line_30 : zf mX7_line 30 = some (.iload_n 3, 1, 31) := by decide +kernel
theorem fX7_line_31 : zf mX7_line 31 = some (.ifCond .eq 37, 3, 34) := by decide +kernel
theorem fX7_line_34 : zf mX7_line 34 = some (.aload_n 0, 1, 35) := by decide +kernel
theorem fX7_line_35 : zf mX7_line 35 = some (.getfield 62, 3, 38) := by decide +kernel
theorem fX7_line_38 : zf mX7_line 38 = some (.bipush 44, 2, 40) := by decide +kernel
theorem fX7_line_40 : zf mX7_line 40 = some (.invokevirtual 255, 3, 43) := by decide +kernel
theorem fX7_line_43 : zf mX7_line 43 = some (.aload_n 0, 1, 44) := by decide +kernel
theorem fX7_line_44 : zf mX7_line 44 = some (.getfield 62, 3, 47) := by decide +kernel
theorem fX7_line_47 : zf mX7_line 47 = some (.iload_n 2, 1, 48) := by decide +kernel
theorem fX7_line_48 : zf mX7_line 48 = some (.invokevirtual 258, 3, 51) := by decide +kernel
theorem fX7_line_51 : zf mX7_line 51 = some (.aload_n 0, 1, 52) := by decide +kernel
theorem fX7_line_52 : zf mX7_line 52 = some (.getfield 62, 3, 55) := by decide +kernel
theorem fX7_line_55 : zf mX7_line 55 = some (.bipush 61, 2, 57) := by decide +kernel
theorem fX7_line_57 : zf mX7_line 57 = some (.invokevirtual 261, 3, 60) := by decide +kernel
theorem fX7_line_60 : zf mX7_line 60 = some (.aload_n 0, 1, 61) := by decide +kernel
theorem fX7_line_61 : zf mX7_line 61 = some (.getfield 62, 3, 64) := by decide +kernel
theorem fX7_line_64 : zf mX7_line 64 = some (.iload_n 3, 1, 65) := by decide +kernel
theorem fX7_line_65 : zf mX7_line 65 = some (.invokevirtual 258, 3, 68) := by decide +kernel
theorem fX7_line_68 : zf mX7_line 68 = some (.iinc 2 1, 3, 71) := by decide +kernel
theorem fX7_line_71 : zf mX7_line 71 = some (.goto (-57), 3, 74) := by decide +kernel
theorem fX7_line_74 : zf mX7_line 74 = some (.aload_n 0, 1, 75) := by decide +kernel
theorem fX7_line_75 : zf mX7_line 75 = some (.getfield 62, 3, 78) := by decide +kernel
theorem fX7_line_78 : zf mX7_line 78 = some (.invokevirtual 262, 3, 81) := by decide +kernel
theorem fX7_line_81 : zf mX7_line 81 = some (.ireturn, 1, 82) := by decide +kernel
theorem fX7_lineage_0 : zf mX7_lineage 0 = some (.aload_n 0, 1, 1) := by decide +kernel
theorem fX7_lineage_1 : zf mX7_lineage 1 = some (.iload_n 1, 1, 2) := by decide +kernel
theorem fX7_lineage_2 : zf mX7_lineage 2 = some (.invokevirtual 99, 3, 5) := by decide +kernel
theorem fX7_lineage_5 : zf mX7_lineage 5 = some (.aload_n 0, 1, 6) := by decide +kernel
theorem fX7_lineage_6 : zf mX7_lineage 6 = some (.getfield 62, 3, 9) := by decide +kernel
theorem fX7_lineage_9 : zf mX7_lineage 9 = some (.invokevirtual 254, 3, 12) := by decide +kernel
theorem fX7_lineage_12 : zf mX7_lineage 12 = some (.iload_n 1, 1, 13) := by decide +kernel
theorem fX7_lineage_13 : zf mX7_lineage 13 = some (.istore_n 2, 1, 14) := by decide +kernel
theorem fX7_lineage_14 : zf mX7_lineage 14 = some (.iconst 0, 1, 15) := by decide +kernel
theorem fX7_lineage_15 : zf mX7_lineage 15 = some (.istore_n 3, 1, 16) := by decide +kernel
theorem fX7_lineage_16 : zf mX7_lineage 16 = some (.iload_n 3, 1, 17) := by decide +kernel
theorem fX7_lineage_17 : zf mX7_lineage 17 = some (.bipush 40, 2, 19) := by decide +kernel
theorem fX7_lineage_19 : zf mX7_lineage 19 = some (.if_icmp .ge 40, 3, 22) := by decide +kernel
theorem fX7_lineage_22 : zf mX7_lineage 22 = some (.iload_n 2, 1, 23) := by decide +kernel
theorem fX7_lineage_23 : zf mX7_lineage 23 = some (.iconst (-1), 1, 24) := by decide +kernel
theorem fX7_lineage_24 : zf mX7_lineage 24 = some (.if_icmp .eq 35, 3, 27) := by decide +kernel
theorem fX7_lineage_27 : zf mX7_lineage 27 = some (.aload_n 0, 1, 28) := by decide +kernel
theorem fX7_lineage_28 : zf mX7_lineage 28 = some (.getfield 62, 3, 31) := by decide +kernel
theorem fX7_lineage_31 : zf mX7_lineage 31 = some (.bipush 60, 2, 33) := by decide +kernel
theorem fX7_lineage_33 : zf mX7_lineage 33 = some (.invokevirtual 255, 3, 36) := by decide +kernel
theorem fX7_lineage_36 : zf mX7_lineage 36 = some (.aload_n 0, 1, 37) := by decide +kernel
theorem fX7_lineage_37 : zf mX7_lineage 37 = some (.getfield 62, 3, 40) := by decide +kernel
theorem fX7_lineage_40 : zf mX7_lineage 40 = some (.iload_n 2, 1, 41) := by decide +kernel
theorem fX7_lineage_41 : zf mX7_lineage 41 = some (.invokevirtual 258, 3, 44) := by decide +kernel
theorem fX7_lineage_44 : zf mX7_lineage 44 = some (.aload_n 0, 1, 45) := by decide +kernel
theorem fX7_lineage_45 : zf mX7_lineage 45 = some (.getfield 32, 3, 48) := by decide +kernel
theorem fX7_lineage_48 : zf mX7_lineage 48 = some (.iload_n 2, 1, 49) := by decide +kernel
theorem fX7_lineage_49 : zf mX7_lineage 49 = some (.invokevirtual 130, 3, 52) := by decide +kernel
theorem fX7_lineage_52 : zf mX7_lineage 52 = some (.istore_n 2, 1, 53) := by decide +kernel
theorem fX7_lineage_53 : zf mX7_lineage 53 = some (.iinc 3 1, 3, 56) := by decide +kernel
theorem fX7_lineage_56 : zf mX7_lineage 56 = some (.goto (-40), 3, 59) := by decide +kernel
theorem fX7_lineage_59 : zf mX7_lineage 59 = some (.aload_n 0, 1, 60) := by decide +kernel
theorem fX7_lineage_60 : zf mX7_lineage 60 = some (.getfield 62, 3, 63) := by decide +kernel
theorem fX7_lineage_63 : zf mX7_lineage 63 = some (.invokevirtual 262, 3, 66) := by decide +kernel
theorem fX7_lineage_66 : zf mX7_lineage 66 = some (.ireturn, 1, 67) := by decide +kernel
theorem fX7_character_0 : zf mX7_character 0 = some (.iload_n 1, 1, 1) := by decide +kernel
theorem fX7_character_1 : zf mX7_character 1 = some (.ifCond .lt 14, 3, 4) := by decide +kernel
theorem fX7_character_4 : zf mX7_character 4 = some (.iload_n 1, 1, 5) := by decide +kernel
theorem fX7_character_5 : zf mX7_character 5 = some (.aload_n 0, 1, 6) := by decide +kernel
theorem fX7_character_6 : zf mX7_character 6 = some (.getfield 62, 3, 9) := by decide +kernel
theorem fX7_character_9 : zf mX7_character 9 = some (.invokevirtual 262, 3, 12) := by decide +kernel
theorem fX7_character_12 : zf mX7_character 12 = some (.if_icmp .lt 14, 3, 15) := by decide +kernel
theorem fX7_character_15 : zf mX7_character 15 = some (.new 263, 3, 18) := by decide +kernel
theorem fX7_character_18 : zf mX7_character 18 = some (.dup, 1, 19) := by decide +kernel
theorem fX7_character_19 : zf mX7_character 19 = some (.ldc_w 265, 3, 22) := by decide +kernel
theorem fX7_character_22 : zf mX7_character 22 = some (.invokespecial 267, 3, 25) := by decide +kernel
theorem fX7_character_25 : zf mX7_character 25 = some (.athrow, 1, 26) := by decide +kernel
theorem fX7_character_26 : zf mX7_character 26 = some (.aload_n 0, 1, 27) := by decide +kernel
theorem fX7_character_27 : zf mX7_character 27 = some (.getfield 62, 3, 30) := by decide +kernel
theorem fX7_character_30 : zf mX7_character 30 = some (.iload_n 1, 1, 31) := by decide +kernel
theorem fX7_character_31 : zf mX7_character 31 = some (.invokevirtual 268, 3, 34) := by decide +kernel
theorem fX7_character_34 : zf mX7_character 34 = some (.ireturn, 1, 35) := by decide +kernel
theorem fX7_mean_0 : zf mX7_mean 0 = some (.aload_n 0, 1, 1) := by decide +kernel
theorem fX7_mean_1 : zf mX7_mean 1 = some (.iload_n 1, 1, 2) := by decide +kernel
theorem fX7_mean_2 : zf mX7_mean 2 = some (.invokevirtual 99, 3, 5) := by decide +kernel
theorem fX7_mean_5 : zf mX7_mean 5 = some (.aload_n 0, 1, 6) := by decide +kernel
theorem fX7_mean_6 : zf mX7_mean 6 = some (.getfield 32, 3, 9) := by decide +kernel
theorem fX7_mean_9 : zf mX7_mean 9 = some (.iload_n 1, 1, 10) := by decide +kernel
theorem fX7_mean_10 : zf mX7_mean 10 = some (.iconst 0, 1, 11) := by decide +kernel
theorem fX7_mean_11 : zf mX7_mean 11 = some (.invokevirtual 272, 3, 14) := by decide +kernel
theorem fX7_mean_14 : zf mX7_mean 14 = some (.i2d, 1, 15) := by decide +kernel
theorem fX7_mean_15 : zf mX7_mean 15 = some (.ldc2_w 275, 3, 18) := by decide +kernel
theorem fX7_mean_18 : zf mX7_mean 18 = some (.ddiv, 1, 19) := by decide +kernel
theorem fX7_mean_19 : zf mX7_mean 19 = some (.dreturn, 1, 20) := by decide +kernel
theorem fX7_spared_0 : zf mX7_spared 0 = some (.aload_n 0, 1, 1) := by decide +kernel
theorem fX7_spared_1 : zf mX7_spared 1 = some (.getfield 32, 3, 4) := by decide +kernel
theorem fX7_spared_4 : zf mX7_spared 4 = some (.invokevirtual 194, 3, 7) := by decide +kernel
theorem fX7_spared_7 : zf mX7_spared 7 = some (.bipush 31, 2, 9) := by decide +kernel
theorem fX7_spared_9 : zf mX7_spared 9 = some (.imul, 1, 10) := by decide +kernel
theorem fX7_spared_10 : zf mX7_spared 10 = some (.istore_n 1, 1, 11) := by decide +kernel
theorem fX7_spared_11 : zf mX7_spared 11 = some (.iload_n 1, 1, 12) := by decide +kernel
theorem fX7_spared_12 : zf mX7_spared 12 = some (.ifCond .le 19, 3, 15) := by decide +kernel
theorem fX7_spared_15 : zf mX7_spared 15 = some (.iload_n 1, 1, 16) := by decide +kernel
theorem fX7_spared_16 : zf mX7_spared 16 = some (.aload_n 0, 1, 17) := by decide +kernel
theorem fX7_spared_17 : zf mX7_spared 17 = some (.getfield 32, 3, 20) := by decide +kernel
theorem fX7_spared_20 : zf mX7_spared 20 = some (.invokevirtual 277, 3, 23) := by decide +kernel
theorem fX7_spared_23 : zf mX7_spared 23 = some (.isub, 1, 24) := by decide +kernel
theorem fX7_spared_24 : zf mX7_spared 24 = some (.i2f, 1, 25) := by decide +kernel
theorem fX7_spared_25 : zf mX7_spared 25 = some (.iload_n 1, 1, 26) := by decide +kernel
theorem fX7_spared_26 : zf mX7_spared 26 = some (.i2f, 1, 27) := by decide +kernel
theorem fX7_spared_27 : zf mX7_spared 27 = some (.fdiv, 1, 28) := by decide +kernel
theorem fX7_spared_28 : zf mX7_spared 28 = some (.goto 4, 3, 31) := by decide +kernel
theorem fX7_spared_31 : zf mX7_spared 31 = some (.fconst 0, 1, 32) := by decide +kernel
theorem fX7_spared_32 : zf mX7_spared 32 = some (.freturn, 1, 33) := by decide +kernel
theorem fX7_account_0 : zf mX7_account 0 = some (.iload_n 1, 1, 1) := by decide +kernel
theorem fX7_account_1 : zf mX7_account 1 = some (.tableswitch 123 0 8 #[51, 59, 67, 75, 83, 91, 99, 107, 115], 51, 52) := by decide +kernel
theorem fX7_account_52 : zf mX7_account 52 = some (.aload_n 0, 1, 53) := by decide +kernel
theorem fX7_account_53 : zf mX7_account 53 = some (.getfield 32, 3, 56) := by decide +kernel
theorem fX7_account_56 : zf mX7_account 56 = some (.invokevirtual 194, 3, 59) := by decide +kernel
theorem fX7_account_59 : zf mX7_account 59 = some (.ireturn, 1, 60) := by decide +kernel
theorem fX7_account_60 : zf mX7_account 60 = some (.aload_n 0, 1, 61) := by decide +kernel
theorem fX7_account_61 : zf mX7_account 61 = some (.getfield 25, 3, 64) := by decide +kernel
theorem fX7_account_64 : zf mX7_account 64 = some (.getfield 280, 3, 67) := by decide +kernel
theorem fX7_account_67 : zf mX7_account 67 = some (.ireturn, 1, 68) := by decide +kernel
theorem fX7_account_68 : zf mX7_account 68 = some (.aload_n 0, 1, 69) := by decide +kernel
theorem fX7_account_69 : zf mX7_account 69 = some (.getfield 32, 3, 72) := by decide +kernel
theorem fX7_account_72 : zf mX7_account 72 = some (.invokevirtual 277, 3, 75) := by decide +kernel
theorem fX7_account_75 : zf mX7_account 75 = some (.ireturn, 1, 76) := by decide +kernel
theorem fX7_account_76 : zf mX7_account 76 = some (.aload_n 0, 1, 77) := by decide +kernel
theorem fX7_account_77 : zf mX7_account 77 = some (.getfield 25, 3, 80) := by decide +kernel
theorem fX7_account_80 : zf mX7_account 80 = some (.invokevirtual 283, 3, 83) := by decide +kernel
theorem fX7_account_83 : zf mX7_account 83 = some (.ireturn, 1, 84) := by decide +kernel
theorem fX7_account_84 : zf mX7_account 84 = some (.aload_n 0, 1, 85) := by decide +kernel
theorem fX7_account_85 : zf mX7_account 85 = some (.getfield 32, 3, 88) := by decide +kernel
theorem fX7_account_88 : zf mX7_account 88 = some (.invokevirtual 286, 3, 91) := by decide +kernel
theorem fX7_account_91 : zf mX7_account 91 = some (.ireturn, 1, 92) := by decide +kernel
theorem fX7_account_92 : zf mX7_account 92 = some (.aload_n 0, 1, 93) := by decide +kernel
theorem fX7_account_93 : zf mX7_account 93 = some (.getfield 25, 3, 96) := by decide +kernel
theorem fX7_account_96 : zf mX7_account 96 = some (.getfield 289, 3, 99) := by decide +kernel
theorem fX7_account_99 : zf mX7_account 99 = some (.ireturn, 1, 100) := by decide +kernel
theorem fX7_account_100 : zf mX7_account 100 = some (.aload_n 0, 1, 101) := by decide +kernel
theorem fX7_account_101 : zf mX7_account 101 = some (.getfield 25, 3, 104) := by decide +kernel
theorem fX7_account_104 : zf mX7_account 104 = some (.getfield 292, 3, 107) := by decide +kernel
theorem fX7_account_107 : zf mX7_account 107 = some (.ireturn, 1, 108) := by decide +kernel
theorem fX7_account_108 : zf mX7_account 108 = some (.aload_n 0, 1, 109) := by decide +kernel
theorem fX7_account_109 : zf mX7_account 109 = some (.getfield 44, 3, 112) := by decide +kernel
theorem fX7_account_112 : zf mX7_account 112 = some (.invokevirtual 295, 3, 115) := by decide +kernel
theorem fX7_account_115 : zf mX7_account 115 = some (.ireturn, 1, 116) := by decide +kernel
theorem fX7_account_116 : zf mX7_account 116 = some (.aload_n 0, 1, 117) := by decide +kernel
theorem fX7_account_117 : zf mX7_account 117 = some (.getfield 51, 3, 120) := by decide +kernel
theorem fX7_account_120 : zf mX7_account 120 = some (.invokevirtual 216, 3, 123) := by decide +kernel
theorem fX7_account_123 : zf mX7_account 123 = some (.ireturn, 1, 124) := by decide +kernel
theorem fX7_account_124 : zf mX7_account 124 = some (.new 151, 3, 127) := by decide +kernel
theorem fX7_account_127 : zf mX7_account 127 = some (.dup, 1, 128) := by decide +kernel
theorem fX7_account_128 : zf mX7_account 128 = some (.ldc_w 296, 3, 131) := by decide +kernel
theorem fX7_account_131 : zf mX7_account 131 = some (.invokespecial 155, 3, 134) := by decide +kernel
theorem fX7_account_134 : zf mX7_account 134 = some (.athrow, 1, 135) := by decide +kernel
theorem fX7_undo_0 : zf mX7_undo 0 = some (.aload_n 0, 1, 1) := by decide +kernel
theorem fX7_undo_1 : zf mX7_undo 1 = some (.getfield 44, 3, 4) := by decide +kernel
theorem fX7_undo_4 : zf mX7_undo 4 = some (.invokevirtual 295, 3, 7) := by decide +kernel
theorem fX7_undo_7 : zf mX7_undo 7 = some (.iconst 1, 1, 8) := by decide +kernel
theorem fX7_undo_8 : zf mX7_undo 8 = some (.if_icmp .ge 14, 3, 11) := by decide +kernel
theorem fX7_undo_11 : zf mX7_undo 11 = some (.new 207, 3, 14) := by decide +kernel
theorem fX7_undo_14 : zf mX7_undo 14 = some (.dup, 1, 15) := by decide +kernel
theorem fX7_undo_15 : zf mX7_undo 15 = some (.ldc_w 298, 3, 18) := by decide +kernel
theorem fX7_undo_18 : zf mX7_undo 18 = some (.invokespecial 211, 3, 21) := by decide +kernel
theorem fX7_undo_21 : zf mX7_undo 21 = some (.athrow, 1, 22) := by decide +kernel
theorem fX7_undo_22 : zf mX7_undo 22 = some (.aload_n 0, 1, 23) := by decide +kernel
theorem fX7_undo_23 : zf mX7_undo 23 = some (.getfield 44, 3, 26) := by decide +kernel
theorem fX7_undo_26 : zf mX7_undo 26 = some (.invokevirtual 300, 3, 29) := by decide +kernel
theorem fX7_undo_29 : zf mX7_undo 29 = some (.aload_n 0, 1, 30) := by decide +kernel
theorem fX7_undo_30 : zf mX7_undo 30 = some (.getfield 44, 3, 33) := by decide +kernel
theorem fX7_undo_33 : zf mX7_undo 33 = some (.aload_n 0, 1, 34) := by decide +kernel
theorem fX7_undo_34 : zf mX7_undo 34 = some (.getfield 25, 3, 37) := by decide +kernel
theorem fX7_undo_37 : zf mX7_undo 37 = some (.invokevirtual 303, 3, 40) := by decide +kernel
theorem fX7_undo_40 : zf mX7_undo 40 = some (.aload_n 0, 1, 41) := by decide +kernel
theorem fX7_undo_41 : zf mX7_undo 41 = some (.getfield 44, 3, 44) := by decide +kernel
theorem fX7_undo_44 : zf mX7_undo 44 = some (.invokevirtual 295, 3, 47) := by decide +kernel
theorem fX7_undo_47 : zf mX7_undo 47 = some (.ireturn, 1, 48) := by decide +kernel
theorem fX7_save_0 : zf mX7_save 0 = some (.aload_n 0, 1, 1) := by decide +kernel
theorem fX7_save_1 : zf mX7_save 1 = some (.getfield 34, 3, 4) := by decide +kernel
theorem fX7_save_4 : zf mX7_save 4 = some (.aload_n 0, 1, 5) := by decide +kernel
theorem fX7_save_5 : zf mX7_save 5 = some (.getfield 25, 3, 8) := by decide +kernel
theorem fX7_save_8 : zf mX7_save 8 = some (.invokevirtual 306, 3, 11) := by decide +kernel
theorem fX7_save_11 : zf mX7_save 11 = some (.aload_n 0, 1, 12) := by decide +kernel
theorem fX7_save_12 : zf mX7_save 12 = some (.iconst 1, 1, 13) := by decide +kernel
theorem fX7_save_13 : zf mX7_save 13 = some (.putfield 37, 3, 16) := by decide +kernel
theorem fX7_save_16 : zf mX7_save 16 = some (.aload_n 0, 1, 17) := by decide +kernel
theorem fX7_save_17 : zf mX7_save 17 = some (.getfield 32, 3, 20) := by decide +kernel
theorem fX7_save_20 : zf mX7_save 20 = some (.invokevirtual 194, 3, 23) := by decide +kernel
theorem fX7_save_23 : zf mX7_save 23 = some (.ireturn, 1, 24) := by decide +kernel
theorem fX7_restore_0 : zf mX7_restore 0 = some (.aload_n 0, 1, 1) := by decide +kernel
theorem fX7_restore_1 : zf mX7_restore 1 = some (.getfield 37, 3, 4) := by decide +kernel
theorem fX7_restore_4 : zf mX7_restore 4 = some (.ifCond .ne 14, 3, 7) := by decide +kernel
theorem fX7_restore_7 : zf mX7_restore 7 = some (.new 207, 3, 10) := by decide +kernel
theorem fX7_restore_10 : zf mX7_restore 10 = some (.dup, 1, 11) := by decide +kernel
theorem fX7_restore_11 : zf mX7_restore 11 = some (.ldc_w 309, 3, 14) := by decide +kernel
theorem fX7_restore_14 : zf mX7_restore 14 = some (.invokespecial 211, 3, 17) := by decide +kernel
theorem fX7_restore_17 : zf mX7_restore 17 = some (.athrow, 1, 18) := by decide +kernel
theorem fX7_restore_18 : zf mX7_restore 18 = some (.aload_n 0, 1, 19) := by decide +kernel
theorem fX7_restore_19 : zf mX7_restore 19 = some (.getfield 25, 3, 22) := by decide +kernel
theorem fX7_restore_22 : zf mX7_restore 22 = some (.aload_n 0, 1, 23) := by decide +kernel
theorem fX7_restore_23 : zf mX7_restore 23 = some (.getfield 34, 3, 26) := by decide +kernel
theorem fX7_restore_26 : zf mX7_restore 26 = some (.invokevirtual 306, 3, 29) := by decide +kernel
theorem fX7_restore_29 : zf mX7_restore 29 = some (.aload_n 0, 1, 30) := by decide +kernel
theorem fX7_restore_30 : zf mX7_restore 30 = some (.getfield 44, 3, 33) := by decide +kernel
theorem fX7_restore_33 : zf mX7_restore 33 = some (.invokevirtual 311, 3, 36) := by decide +kernel
theorem fX7_restore_36 : zf mX7_restore 36 = some (.aload_n 0, 1, 37) := by decide +kernel
theorem fX7_restore_37 : zf mX7_restore 37 = some (.getfield 32, 3, 40) := by decide +kernel
theorem fX7_restore_40 : zf mX7_restore 40 = some (.invokevirtual 194, 3, 43) := by decide +kernel
theorem fX7_restore_43 : zf mX7_restore 43 = some (.ireturn, 1, 44) := by decide +kernel
theorem fX7_settled_0 : zf mX7_settled 0 = some (.iload_n 1, 1, 1) := by decide +kernel
theorem fX7_settled_1 : zf mX7_settled 1 = some (.iconst (-1), 1, 2) := by decide +kernel
theorem fX7_settled_2 : zf mX7_settled 2 = some (.if_icmp .ne 25, 3, 5) := by decide +kernel
theorem fX7_settled_5 : zf mX7_settled 5 = some (.aload_n 0, 1, 6) := by decide +kernel
theorem fX7_settled_6 : zf mX7_settled 6 = some (.getfield 44, 3, 9) := by decide +kernel
theorem fX7_settled_9 : zf mX7_settled 9 = some (.aload_n 0, 1, 10) := by decide +kernel
theorem fX7_settled_10 : zf mX7_settled 10 = some (.getfield 25, 3, 13) := by decide +kernel
theorem fX7_settled_13 : zf mX7_settled 13 = some (.invokevirtual 303, 3, 16) := by decide +kernel
theorem fX7_settled_16 : zf mX7_settled 16 = some (.new 314, 3, 19) := by decide +kernel
theorem fX7_settled_19 : zf mX7_settled 19 = some (.dup, 1, 20) := by decide +kernel
theorem fX7_settled_20 : zf mX7_settled 20 = some (.ldc_w 316, 3, 23) := by decide +kernel
theorem fX7_settled_23 : zf mX7_settled 23 = some (.invokespecial 318, 3, 26) := by decide +kernel
theorem fX7_settled_26 : zf mX7_settled 26 = some (.athrow, 1, 27) := by decide +kernel
theorem fX7_settled_27 : zf mX7_settled 27 = some (.aload_n 0, 1, 28) := by decide +kernel
theorem fX7_settled_28 : zf mX7_settled 28 = some (.getfield 44, 3, 31) := by decide +kernel
theorem fX7_settled_31 : zf mX7_settled 31 = some (.invokevirtual 319, 3, 34) := by decide +kernel
theorem fX7_settled_34 : zf mX7_settled 34 = some (.iload_n 1, 1, 35) := by decide +kernel
theorem fX7_settled_35 : zf mX7_settled 35 = some (.ireturn, 1, 36) := by decide +kernel
theorem fX7_checkVersion_0 : zf mX7_checkVersion 0 = some (.aload_n 0, 1, 1) := by decide +kernel
theorem fX7_checkVersion_1 : zf mX7_checkVersion 1 = some (.getfield 32, 3, 4) := by decide +kernel
theorem fX7_checkVersion_4 : zf mX7_checkVersion 4 = some (.iload_n 1, 1, 5) := by decide +kernel
theorem fX7_checkVersion_5 : zf mX7_checkVersion 5 = some (.invokevirtual 322, 3, 8) := by decide +kernel
theorem fX7_checkVersion_8 : zf mX7_checkVersion 8 = some (.ifCond .ne 14, 3, 11) := by decide +kernel
theorem fX7_checkVersion_11 : zf mX7_checkVersion 11 = some (.new 263, 3, 14) := by decide +kernel
theorem fX7_checkVersion_14 : zf mX7_checkVersion 14 = some (.dup, 1, 15) := by decide +kernel
theorem fX7_checkVersion_15 : zf mX7_checkVersion 15 = some (.ldc_w 326, 3, 18) := by decide +kernel
theorem fX7_checkVersion_18 : zf mX7_checkVersion 18 = some (.invokespecial 267, 3, 21) := by decide +kernel
theorem fX7_checkVersion_21 : zf mX7_checkVersion 21 = some (.athrow, 1, 22) := by decide +kernel
theorem fX7_checkVersion_22 : zf mX7_checkVersion 22 = some (.return_, 1, 23) := by decide +kernel
theorem fX7_checkHouse_0 : zf mX7_checkHouse 0 = some (.iload_n 0, 1, 1) := by decide +kernel
theorem fX7_checkHouse_1 : zf mX7_checkHouse 1 = some (.invokestatic 328, 3, 4) := by decide +kernel
theorem fX7_checkHouse_4 : zf mX7_checkHouse 4 = some (.ifCond .ne 14, 3, 7) := by decide +kernel
theorem fX7_checkHouse_7 : zf mX7_checkHouse 7 = some (.new 263, 3, 10) := by decide +kernel
theorem fX7_checkHouse_10 : zf mX7_checkHouse 10 = some (.dup, 1, 11) := by decide +kernel
theorem fX7_checkHouse_11 : zf mX7_checkHouse 11 = some (.ldc_w 331, 3, 14) := by decide +kernel
theorem fX7_checkHouse_14 : zf mX7_checkHouse 14 = some (.invokespecial 267, 3, 17) := by decide +kernel
theorem fX7_checkHouse_17 : zf mX7_checkHouse 17 = some (.athrow, 1, 18) := by decide +kernel
theorem fX7_checkHouse_18 : zf mX7_checkHouse 18 = some (.return_, 1, 19) := by decide +kernel
theorem fX7_checkLines_0 : zf mX7_checkLines 0 = some (.iload_n 0, 1, 1) := by decide +kernel
theorem fX7_checkLines_1 : zf mX7_checkLines 1 = some (.invokestatic 333, 3, 4) := by decide +kernel
theorem fX7_checkLines_4 : zf mX7_checkLines 4 = some (.ifCond .eq 15, 3, 7) := by decide +kernel
theorem fX7_checkLines_7 : zf mX7_checkLines 7 = some (.iload_n 1, 1, 8) := by decide +kernel
theorem fX7_checkLines_8 : zf mX7_checkLines 8 = some (.invokestatic 333, 3, 11) := by decide +kernel
theorem fX7_checkLines_11 : zf mX7_checkLines 11 = some (.ifCond .eq 8, 3, 14) := by decide +kernel
theorem fX7_checkLines_14 : zf mX7_checkLines 14 = some (.iload_n 1, 1, 15) := by decide +kernel
theorem fX7_checkLines_15 : zf mX7_checkLines 15 = some (.iload_n 0, 1, 16) := by decide +kernel
theorem fX7_checkLines_16 : zf mX7_checkLines 16 = some (.if_icmp .ge 14, 3, 19) := by decide +kernel
theorem fX7_checkLines_19 : zf mX7_checkLines 19 = some (.new 151, 3, 22) := by decide +kernel
theorem fX7_checkLines_22 : zf mX7_checkLines 22 = some (.dup, 1, 23) := by decide +kernel
theorem fX7_checkLines_23 : zf mX7_checkLines 23 = some (.ldc_w 336, 3, 26) := by decide +kernel
theorem fX7_checkLines_26 : zf mX7_checkLines 26 = some (.invokespecial 155, 3, 29) := by decide +kernel
theorem fX7_checkLines_29 : zf mX7_checkLines 29 = some (.athrow, 1, 30) := by decide +kernel
theorem fX7_checkLines_30 : zf mX7_checkLines 30 = some (.return_, 1, 31) := by decide +kernel
theorem fX7_checkSpan_0 : zf mX7_checkSpan 0 = some (.iload_n 0, 1, 1) := by decide +kernel
theorem fX7_checkSpan_1 : zf mX7_checkSpan 1 = some (.invokestatic 338, 3, 4) := by decide +kernel
theorem fX7_checkSpan_4 : zf mX7_checkSpan 4 = some (.ifCond .ne 14, 3, 7) := by decide +kernel
theorem fX7_checkSpan_7 : zf mX7_checkSpan 7 = some (.new 151, 3, 10) := by decide +kernel
theorem fX7_checkSpan_10 : zf mX7_checkSpan 10 = some (.dup, 1, 11) := by decide +kernel
theorem fX7_checkSpan_11 : zf mX7_checkSpan 11 = some (.ldc_w 341, 3, 14) := by decide +kernel
theorem fX7_checkSpan_14 : zf mX7_checkSpan 14 = some (.invokespecial 155, 3, 17) := by decide +kernel
theorem fX7_checkSpan_17 : zf mX7_checkSpan 17 = some (.athrow, 1, 18) := by decide +kernel
theorem fX7_checkSpan_18 : zf mX7_checkSpan 18 = some (.return_, 1, 19) := by decide +kernel
theorem fX7_isHouse_0 : zf mX7_isHouse 0 = some (.iload_n 0, 1, 1) := by decide +kernel
theorem fX7_isHouse_1 : zf mX7_isHouse 1 = some (.ifCond .lt 12, 3, 4) := by decide +kernel
theorem fX7_isHouse_4 : zf mX7_isHouse 4 = some (.iload_n 0, 1, 5) := by decide +kernel
theorem fX7_isHouse_5 : zf mX7_isHouse 5 = some (.iconst 4, 1, 6) := by decide +kernel
theorem fX7_isHouse_6 : zf mX7_isHouse 6 = some (.if_icmp .ge 7, 3, 9) := by decide +kernel
theorem fX7_isHouse_9 : zf mX7_isHouse 9 = some (.iconst 1, 1, 10) := by decide +kernel
theorem fX7_isHouse_10 : zf mX7_isHouse 10 = some (.goto 4, 3, 13) := by decide +kernel
theorem fX7_isHouse_13 : zf mX7_isHouse 13 = some (.iconst 0, 1, 14) := by decide +kernel
theorem fX7_isHouse_14 : zf mX7_isHouse 14 = some (.ireturn, 1, 15) := by decide +kernel
theorem fX7_isLine_0 : zf mX7_isLine 0 = some (.iload_n 0, 1, 1) := by decide +kernel
theorem fX7_isLine_1 : zf mX7_isLine 1 = some (.ifCond .lt 13, 3, 4) := by decide +kernel
theorem fX7_isLine_4 : zf mX7_isLine 4 = some (.iload_n 0, 1, 5) := by decide +kernel
theorem fX7_isLine_5 : zf mX7_isLine 5 = some (.bipush 16, 2, 7) := by decide +kernel
theorem fX7_isLine_7 : zf mX7_isLine 7 = some (.if_icmp .ge 7, 3, 10) := by decide +kernel
theorem fX7_isLine_10 : zf mX7_isLine 10 = some (.iconst 1, 1, 11) := by decide +kernel
theorem fX7_isLine_11 : zf mX7_isLine 11 = some (.goto 4, 3, 14) := by decide +kernel
theorem fX7_isLine_14 : zf mX7_isLine 14 = some (.iconst 0, 1, 15) := by decide +kernel
theorem fX7_isLine_15 : zf mX7_isLine 15 = some (.ireturn, 1, 16) := by decide +kernel
theorem fX7_isSpan_0 : zf mX7_isSpan 0 = some (.iload_n 0, 1, 1) := by decide +kernel
theorem fX7_isSpan_1 : zf mX7_isSpan 1 = some (.ifCond .lt 13, 3, 4) := by decide +kernel
theorem fX7_isSpan_4 : zf mX7_isSpan 4 = some (.iload_n 0, 1, 5) := by decide +kernel
theorem fX7_isSpan_5 : zf mX7_isSpan 5 = some (.bipush 31, 2, 7) := by decide +kernel
theorem fX7_isSpan_7 : zf mX7_isSpan 7 = some (.if_icmp .ge 7, 3, 10) := by decide +kernel
theorem fX7_isSpan_10 : zf mX7_isSpan 10 = some (.iconst 1, 1, 11) := by decide +kernel
theorem fX7_isSpan_11 : zf mX7_isSpan 11 = some (.goto 4, 3, 14) := by decide +kernel
theorem fX7_isSpan_14 : zf mX7_isSpan 14 = some (.iconst 0, 1, 15) := by decide +kernel
theorem fX7_isSpan_15 : zf mX7_isSpan 15 = some (.ireturn, 1, 16) := by decide +kernel
theorem fX7_isInside_0 : zf mX7_isInside 0 = some (.iload_n 0, 1, 1) := by decide +kernel
theorem fX7_isInside_1 : zf mX7_isInside 1 = some (.invokestatic 338, 3, 4) := by decide +kernel
theorem fX7_isInside_4 : zf mX7_isInside 4 = some (.ifCond .eq 25, 3, 7) := by decide +kernel
theorem fX7_isInside_7 : zf mX7_isInside 7 = some (.getstatic 343, 3, 10) := by decide +kernel
theorem fX7_isInside_10 : zf mX7_isInside 10 = some (.iload_n 0, 1, 11) := by decide +kernel
theorem fX7_isInside_11 : zf mX7_isInside 11 = some (.iaload, 1, 12) := by decide +kernel
theorem fX7_isInside_12 : zf mX7_isInside 12 = some (.iload_n 1, 1, 13) := by decide +kernel
theorem fX7_isInside_13 : zf mX7_isInside 13 = some (.if_icmp .lt 16, 3, 16) := by decide +kernel
theorem fX7_isInside_16 : zf mX7_isInside 16 = some (.getstatic 347, 3, 19) := by decide +kernel
theorem fX7_isInside_19 : zf mX7_isInside 19 = some (.iload_n 0, 1, 20) := by decide +kernel
theorem fX7_isInside_20 : zf mX7_isInside 20 = some (.iaload, 1, 21) := by decide +kernel
theorem fX7_isInside_21 : zf mX7_isInside 21 = some (.iload_n 2, 1, 22) := by decide +kernel
theorem fX7_isInside_22 : zf mX7_isInside 22 = some (.if_icmp .gt 7, 3, 25) := by decide +kernel
theorem fX7_isInside_25 : zf mX7_isInside 25 = some (.iconst 1, 1, 26) := by decide +kernel
theorem fX7_isInside_26 : zf mX7_isInside 26 = some (.goto 4, 3, 29) := by decide +kernel
theorem fX7_isInside_29 : zf mX7_isInside 29 = some (.iconst 0, 1, 30) := by decide +kernel
theorem fX7_isInside_30 : zf mX7_isInside 30 = some (.ireturn, 1, 31) := by decide +kernel
theorem fX7_isCut_0 : zf mX7_isCut 0 = some (.iload_n 0, 1, 1) := by decide +kernel
theorem fX7_isCut_1 : zf mX7_isCut 1 = some (.invokestatic 338, 3, 4) := by decide +kernel
theorem fX7_isCut_4 : zf mX7_isCut 4 = some (.ifCond .eq 43, 3, 7) := by decide +kernel
theorem fX7_isCut_7 : zf mX7_isCut 7 = some (.getstatic 343, 3, 10) := by decide +kernel
theorem fX7_isCut_10 : zf mX7_isCut 10 = some (.iload_n 0, 1, 11) := by decide +kernel
theorem fX7_isCut_11 : zf mX7_isCut 11 = some (.iaload, 1, 12) := by decide +kernel
theorem fX7_isCut_12 : zf mX7_isCut 12 = some (.iload_n 2, 1, 13) := by decide +kernel
theorem fX7_isCut_13 : zf mX7_isCut 13 = some (.if_icmp .gt 34, 3, 16) := by decide +kernel
theorem fX7_isCut_16 : zf mX7_isCut 16 = some (.getstatic 347, 3, 19) := by decide +kernel
theorem fX7_isCut_19 : zf mX7_isCut 19 = some (.iload_n 0, 1, 20) := by decide +kernel
theorem fX7_isCut_20 : zf mX7_isCut 20 = some (.iaload, 1, 21) := by decide +kernel
theorem fX7_isCut_21 : zf mX7_isCut 21 = some (.iload_n 1, 1, 22) := by decide +kernel
theorem fX7_isCut_22 : zf mX7_isCut 22 = some (.if_icmp .lt 25, 3, 25) := by decide +kernel
theorem fX7_isCut_25 : zf mX7_isCut 25 = some (.getstatic 343, 3, 28) := by decide +kernel
theorem fX7_isCut_28 : zf mX7_isCut 28 = some (.iload_n 0, 1, 29) := by decide +kernel
theorem fX7_isCut_29 : zf mX7_isCut 29 = some (.iaload, 1, 30) := by decide +kernel
theorem fX7_isCut_30 : zf mX7_isCut 30 = some (.iload_n 1, 1, 31) := by decide +kernel
theorem fX7_isCut_31 : zf mX7_isCut 31 = some (.if_icmp .lt 12, 3, 34) := by decide +kernel
theorem fX7_isCut_34 : zf mX7_isCut 34 = some (.getstatic 347, 3, 37) := by decide +kernel
theorem fX7_isCut_37 : zf mX7_isCut 37 = some (.iload_n 0, 1, 38) := by decide +kernel
theorem fX7_isCut_38 : zf mX7_isCut 38 = some (.iaload, 1, 39) := by decide +kernel
theorem fX7_isCut_39 : zf mX7_isCut 39 = some (.iload_n 2, 1, 40) := by decide +kernel
theorem fX7_isCut_40 : zf mX7_isCut 40 = some (.if_icmp .le 7, 3, 43) := by decide +kernel
theorem fX7_isCut_43 : zf mX7_isCut 43 = some (.iconst 1, 1, 44) := by decide +kernel
theorem fX7_isCut_44 : zf mX7_isCut 44 = some (.goto 4, 3, 47) := by decide +kernel
theorem fX7_isCut_47 : zf mX7_isCut 47 = some (.iconst 0, 1, 48) := by decide +kernel
theorem fX7_isCut_48 : zf mX7_isCut 48 = some (.ireturn, 1, 49) := by decide +kernel
theorem fX7_isDigit_0 : zf mX7_isDigit 0 = some (.iload_n 0, 1, 1) := by decide +kernel
theorem fX7_isDigit_1 : zf mX7_isDigit 1 = some (.bipush 48, 2, 3) := by decide +kernel
theorem fX7_isDigit_3 : zf mX7_isDigit 3 = some (.if_icmp .lt 13, 3, 6) := by decide +kernel
theorem fX7_isDigit_6 : zf mX7_isDigit 6 = some (.iload_n 0, 1, 7) := by decide +kernel
theorem fX7_isDigit_7 : zf mX7_isDigit 7 = some (.bipush 57, 2, 9) := by decide +kernel
theorem fX7_isDigit_9 : zf mX7_isDigit 9 = some (.if_icmp .gt 7, 3, 12) := by decide +kernel
theorem fX7_isDigit_12 : zf mX7_isDigit 12 = some (.iconst 1, 1, 13) := by decide +kernel
theorem fX7_isDigit_13 : zf mX7_isDigit 13 = some (.goto 4, 3, 16) := by decide +kernel
theorem fX7_isDigit_16 : zf mX7_isDigit 16 = some (.iconst 0, 1, 17) := by decide +kernel
theorem fX7_isDigit_17 : zf mX7_isDigit 17 = some (.ireturn, 1, 18) := by decide +kernel
theorem fJ0_length_8abf5_0 : zf mJ0_length_8abf5 0 = some (.aload_n 0, 1, 1) := by decide +kernel
theorem fJ0_length_8abf5_1 : zf mJ0_length_8abf5 1 = some (.getfield 9, 3, 4) := by decide +kernel
theorem fJ0_length_8abf5_4 : zf mJ0_length_8abf5 4 = some (.arraylength, 1, 5) := by decide +kernel
theorem fJ0_length_8abf5_5 : zf mJ0_length_8abf5 5 = some (.aload_n 0, 1, 6) := by decide +kernel
theorem fJ0_length_8abf5_6 : zf mJ0_length_8abf5 6 = some (.invokevirtual 335, 3, 9) := by decide +kernel
theorem fJ0_length_8abf5_9 : zf mJ0_length_8abf5 9 = some (.ishr, 1, 10) := by decide +kernel
theorem fJ0_length_8abf5_10 : zf mJ0_length_8abf5 10 = some (.ireturn, 1, 11) := by decide +kernel
theorem fJ0_isEmpty_aae02_0 : zf mJ0_isEmpty_aae02 0 = some (.aload_n 0, 1, 1) := by decide +kernel
theorem fJ0_isEmpty_aae02_1 : zf mJ0_isEmpty_aae02 1 = some (.getfield 9, 3, 4) := by decide +kernel
theorem fJ0_isEmpty_aae02_4 : zf mJ0_isEmpty_aae02 4 = some (.arraylength, 1, 5) := by decide +kernel
theorem fJ0_isEmpty_aae02_5 : zf mJ0_isEmpty_aae02 5 = some (.ifCond .ne 7, 3, 8) := by decide +kernel
theorem fJ0_isEmpty_aae02_8 : zf mJ0_isEmpty_aae02 8 = some (.iconst 1, 1, 9) := by decide +kernel
theorem fJ0_isEmpty_aae02_9 : zf mJ0_isEmpty_aae02 9 = some (.goto 4, 3, 12) := by decide +kernel
theorem fJ0_isEmpty_aae02_12 : zf mJ0_isEmpty_aae02 12 = some (.iconst 0, 1, 13) := by decide +kernel
theorem fJ0_isEmpty_aae02_13 : zf mJ0_isEmpty_aae02 13 = some (.ireturn, 1, 14) := by decide +kernel
theorem fJ0_charAt_5068e_0 : zf mJ0_charAt_5068e 0 = some (.aload_n 0, 1, 1) := by decide +kernel
theorem fJ0_charAt_5068e_1 : zf mJ0_charAt_5068e 1 = some (.invokevirtual 492, 3, 4) := by decide +kernel
theorem fJ0_charAt_5068e_4 : zf mJ0_charAt_5068e 4 = some (.ifCond .eq 12, 3, 7) := by decide +kernel
theorem fJ0_charAt_5068e_7 : zf mJ0_charAt_5068e 7 = some (.aload_n 0, 1, 8) := by decide +kernel
theorem fJ0_charAt_5068e_8 : zf mJ0_charAt_5068e 8 = some (.getfield 9, 3, 11) := by decide +kernel
theorem fJ0_charAt_5068e_11 : zf mJ0_charAt_5068e 11 = some (.iload_n 1, 1, 12) := by decide +kernel
theorem fJ0_charAt_5068e_12 : zf mJ0_charAt_5068e 12 = some (.invokestatic 495, 3, 15) := by decide +kernel
theorem fJ0_charAt_5068e_15 : zf mJ0_charAt_5068e 15 = some (.ireturn, 1, 16) := by decide +kernel
theorem fJ0_charAt_5068e_16 : zf mJ0_charAt_5068e 16 = some (.aload_n 0, 1, 17) := by decide +kernel
theorem fJ0_charAt_5068e_17 : zf mJ0_charAt_5068e 17 = some (.getfield 9, 3, 20) := by decide +kernel
theorem fJ0_charAt_5068e_20 : zf mJ0_charAt_5068e 20 = some (.iload_n 1, 1, 21) := by decide +kernel
theorem fJ0_charAt_5068e_21 : zf mJ0_charAt_5068e 21 = some (.invokestatic 498, 3, 24) := by decide +kernel
theorem fJ0_charAt_5068e_24 : zf mJ0_charAt_5068e 24 = some (.ireturn, 1, 25) := by decide +kernel
theorem fJ0_coder_7d493_0 : zf mJ0_coder_7d493 0 = some (.getstatic 38, 3, 3) := by decide +kernel
theorem fJ0_coder_7d493_3 : zf mJ0_coder_7d493 3 = some (.ifCond .eq 10, 3, 6) := by decide +kernel
theorem fJ0_coder_7d493_6 : zf mJ0_coder_7d493 6 = some (.aload_n 0, 1, 7) := by decide +kernel
theorem fJ0_coder_7d493_7 : zf mJ0_coder_7d493 7 = some (.getfield 15, 3, 10) := by decide +kernel
theorem fJ0_coder_7d493_10 : zf mJ0_coder_7d493 10 = some (.goto 4, 3, 13) := by decide +kernel
theorem fJ0_coder_7d493_13 : zf mJ0_coder_7d493 13 = some (.iconst 1, 1, 14) := by decide +kernel
theorem fJ0_coder_7d493_14 : zf mJ0_coder_7d493 14 = some (.ireturn, 1, 15) := by decide +kernel
theorem fJ0_isLatin1_aae02_0 : zf mJ0_isLatin1_aae02 0 = some (.getstatic 38, 3, 3) := by decide +kernel
theorem fJ0_isLatin1_aae02_3 : zf mJ0_isLatin1_aae02 3 = some (.ifCond .eq 14, 3, 6) := by decide +kernel
theorem fJ0_isLatin1_aae02_6 : zf mJ0_isLatin1_aae02 6 = some (.aload_n 0, 1, 7) := by decide +kernel
theorem fJ0_isLatin1_aae02_7 : zf mJ0_isLatin1_aae02 7 = some (.getfield 15, 3, 10) := by decide +kernel
theorem fJ0_isLatin1_aae02_10 : zf mJ0_isLatin1_aae02 10 = some (.ifCond .ne 7, 3, 13) := by decide +kernel
theorem fJ0_isLatin1_aae02_13 : zf mJ0_isLatin1_aae02 13 = some (.iconst 1, 1, 14) := by decide +kernel
theorem fJ0_isLatin1_aae02_14 : zf mJ0_isLatin1_aae02 14 = some (.goto 4, 3, 17) := by decide +kernel
theorem fJ0_isLatin1_aae02_17 : zf mJ0_isLatin1_aae02 17 = some (.iconst 0, 1, 18) := by decide +kernel
theorem fJ0_isLatin1_aae02_18 : zf mJ0_isLatin1_aae02 18 = some (.ireturn, 1, 19) := by decide +kernel
theorem fJ0_checkIndex_df160_0 : zf mJ0_checkIndex_df160 0 = some (.iload_n 0, 1, 1) := by decide +kernel
theorem fJ0_checkIndex_df160_1 : zf mJ0_checkIndex_df160 1 = some (.iload_n 1, 1, 2) := by decide +kernel
theorem fJ0_checkIndex_df160_2 : zf mJ0_checkIndex_df160 2 = some (.getstatic 1053, 3, 5) := by decide +kernel
theorem fJ0_checkIndex_df160_5 : zf mJ0_checkIndex_df160 5 = some (.invokestatic 1059, 3, 8) := by decide +kernel
theorem fJ0_checkIndex_df160_8 : zf mJ0_checkIndex_df160 8 = some (.pop, 1, 9) := by decide +kernel
theorem fJ0_checkIndex_df160_9 : zf mJ0_checkIndex_df160 9 = some (.return_, 1, 10) := by decide +kernel
theorem fJ1_charAt_3b067_0 : zf mJ1_charAt_3b067 0 = some (.iload_n 1, 1, 1) := by decide +kernel
theorem fJ1_charAt_3b067_1 : zf mJ1_charAt_3b067 1 = some (.aload_n 0, 1, 2) := by decide +kernel
theorem fJ1_charAt_3b067_2 : zf mJ1_charAt_3b067 2 = some (.arraylength, 1, 3) := by decide +kernel
theorem fJ1_charAt_3b067_3 : zf mJ1_charAt_3b067 3 = some (.invokestatic 9, 3, 6) := by decide +kernel
theorem fJ1_charAt_3b067_6 : zf mJ1_charAt_3b067 6 = some (.aload_n 0, 1, 7) := by decide +kernel
theorem fJ1_charAt_3b067_7 : zf mJ1_charAt_3b067 7 = some (.iload_n 1, 1, 8) := by decide +kernel
theorem fJ1_charAt_3b067_8 : zf mJ1_charAt_3b067 8 = some (.baload, 1, 9) := by decide +kernel
theorem fJ1_charAt_3b067_9 : zf mJ1_charAt_3b067 9 = some (.sipush 255, 3, 12) := by decide +kernel
theorem fJ1_charAt_3b067_12 : zf mJ1_charAt_3b067 12 = some (.iand, 1, 13) := by decide +kernel
theorem fJ1_charAt_3b067_13 : zf mJ1_charAt_3b067 13 = some (.i2c, 1, 14) := by decide +kernel
theorem fJ1_charAt_3b067_14 : zf mJ1_charAt_3b067 14 = some (.ireturn, 1, 15) := by decide +kernel
theorem fJ3_checkIndex_8e157_0 : zf mJ3_checkIndex_8e157 0 = some (.iload_n 0, 1, 1) := by decide +kernel
theorem fJ3_checkIndex_8e157_1 : zf mJ3_checkIndex_8e157 1 = some (.ifCond .lt 8, 3, 4) := by decide +kernel
theorem fJ3_checkIndex_8e157_4 : zf mJ3_checkIndex_8e157 4 = some (.iload_n 0, 1, 5) := by decide +kernel
theorem fJ3_checkIndex_8e157_5 : zf mJ3_checkIndex_8e157 5 = some (.iload_n 1, 1, 6) := by decide +kernel
theorem fJ3_checkIndex_8e157_6 : zf mJ3_checkIndex_8e157 6 = some (.if_icmp .lt 10, 3, 9) := by decide +kernel
theorem fJ3_checkIndex_8e157_9 : zf mJ3_checkIndex_8e157 9 = some (.aload_n 2, 1, 10) := by decide +kernel
theorem fJ3_checkIndex_8e157_10 : zf mJ3_checkIndex_8e157 10 = some (.iload_n 0, 1, 11) := by decide +kernel
theorem fJ3_checkIndex_8e157_11 : zf mJ3_checkIndex_8e157 11 = some (.iload_n 1, 1, 12) := by decide +kernel
theorem fJ3_checkIndex_8e157_12 : zf mJ3_checkIndex_8e157 12 = some (.invokestatic 95, 3, 15) := by decide +kernel
theorem fJ3_checkIndex_8e157_15 : zf mJ3_checkIndex_8e157 15 = some (.athrow, 1, 16) := by decide +kernel
theorem fJ3_checkIndex_8e157_16 : zf mJ3_checkIndex_8e157 16 = some (.iload_n 0, 1, 17) := by decide +kernel
theorem fJ3_checkIndex_8e157_17 : zf mJ3_checkIndex_8e157 17 = some (.ireturn, 1, 18) := by decide +kernel
