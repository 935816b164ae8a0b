/-! decode rows -/
theorem dL_scope_0 : decode cL_scope 0 = .ok (.aload_n 1, 1) := by decide +kernel
theorem dL_scope_1 : decode cL_scope 1 = .ok (.iconst 0, 1) := by decide +kernel
theorem dL_scope_2 : decode cL_scope 2 = .ok (.aload_n 0, 1) := by decide +kernel
theorem dL_scope_3 : decode cL_scope 3 = .ok (.invokevirtual 7, 3) := by decide +kernel
theorem dL_scope_6 : decode cL_scope 6 = .ok (.i2l, 1) := by decide +kernel
theorem dL_scope_7 : decode cL_scope 7 = .ok (.lastore, 1) := by decide +kernel
theorem dL_scope_8 : decode cL_scope 8 = .ok (.goto 9, 3) := by decide +kernel
theorem dL_scope_11 : decode cL_scope 11 = .ok (.astore_n 2, 1) := by decide +kernel
theorem dL_scope_12 : decode cL_scope 12 = .ok (.iconst 1, 1) := by decide +kernel
theorem dL_scope_13 : decode cL_scope 13 = .ok (.ireturn, 1) := by decide +kernel
theorem dL_scope_14 : decode cL_scope 14 = .ok (.astore_n 2, 1) := by decide +kernel
theorem dL_scope_15 : decode cL_scope 15 = .ok (.iconst 2, 1) := by decide +kernel
theorem dL_scope_16 : decode cL_scope 16 = .ok (.ireturn, 1) := by decide +kernel
theorem dL_scope_17 : decode cL_scope 17 = .ok (.iconst 0, 1) := by decide +kernel
theorem dL_scope_18 : decode cL_scope 18 = .ok (.ireturn, 1) := by decide +kernel
theorem dL_client_0 : decode cL_client 0 = .ok (.aload 4, 2) := by decide +kernel
theorem dL_client_2 : decode cL_client 2 = .ok (.iconst 0, 1) := by decide +kernel
theorem dL_client_3 : decode cL_client 3 = .ok (.aload_n 0, 1) := by decide +kernel
theorem dL_client_4 : decode cL_client 4 = .ok (.iload_n 1, 1) := by decide +kernel
theorem dL_client_5 : decode cL_client 5 = .ok (.iload_n 2, 1) := by decide +kernel
theorem dL_client_6 : decode cL_client 6 = .ok (.iload_n 3, 1) := by decide +kernel
theorem dL_client_7 : decode cL_client 7 = .ok (.invokevirtual 17, 3) := by decide +kernel
theorem dL_client_10 : decode cL_client 10 = .ok (.i2l, 1) := by decide +kernel
theorem dL_client_11 : decode cL_client 11 = .ok (.lastore, 1) := by decide +kernel
theorem dL_client_12 : decode cL_client 12 = .ok (.goto 11, 3) := by decide +kernel
theorem dL_client_15 : decode cL_client 15 = .ok (.astore 5, 2) := by decide +kernel
theorem dL_client_17 : decode cL_client 17 = .ok (.iconst 1, 1) := by decide +kernel
theorem dL_client_18 : decode cL_client 18 = .ok (.ireturn, 1) := by decide +kernel
theorem dL_client_19 : decode cL_client 19 = .ok (.astore 5, 2) := by decide +kernel
theorem dL_client_21 : decode cL_client 21 = .ok (.iconst 2, 1) := by decide +kernel
theorem dL_client_22 : decode cL_client 22 = .ok (.ireturn, 1) := by decide +kernel
theorem dL_client_23 : decode cL_client 23 = .ok (.iconst 0, 1) := by decide +kernel
theorem dL_client_24 : decode cL_client 24 = .ok (.ireturn, 1) := by decide +kernel
theorem dL_redirect_0 : decode cL_redirect 0 = .ok (.aload_n 2, 1) := by decide +kernel
theorem dL_redirect_1 : decode cL_redirect 1 = .ok (.iconst 0, 1) := by decide +kernel
theorem dL_redirect_2 : decode cL_redirect 2 = .ok (.aload_n 0, 1) := by decide +kernel
theorem dL_redirect_3 : decode cL_redirect 3 = .ok (.iload_n 1, 1) := by decide +kernel
theorem dL_redirect_4 : decode cL_redirect 4 = .ok (.invokevirtual 21, 3) := by decide +kernel
theorem dL_redirect_7 : decode cL_redirect 7 = .ok (.i2l, 1) := by decide +kernel
theorem dL_redirect_8 : decode cL_redirect 8 = .ok (.lastore, 1) := by decide +kernel
theorem dL_redirect_9 : decode cL_redirect 9 = .ok (.goto 12, 3) := by decide +kernel
theorem dL_redirect_12 : decode cL_redirect 12 = .ok (.astore_n 3, 1) := by decide +kernel
theorem dL_redirect_13 : decode cL_redirect 13 = .ok (.iconst 1, 1) := by decide +kernel
theorem dL_redirect_14 : decode cL_redirect 14 = .ok (.ireturn, 1) := by decide +kernel
theorem dL_redirect_15 : decode cL_redirect 15 = .ok (.astore_n 3, 1) := by decide +kernel
theorem dL_redirect_16 : decode cL_redirect 16 = .ok (.iconst 2, 1) := by decide +kernel
theorem dL_redirect_17 : decode cL_redirect 17 = .ok (.ireturn, 1) := by decide +kernel
theorem dL_redirect_18 : decode cL_redirect 18 = .ok (.astore_n 3, 1) := by decide +kernel
theorem dL_redirect_19 : decode cL_redirect 19 = .ok (.iconst 3, 1) := by decide +kernel
theorem dL_redirect_20 : decode cL_redirect 20 = .ok (.ireturn, 1) := by decide +kernel
theorem dL_redirect_21 : decode cL_redirect 21 = .ok (.iconst 0, 1) := by decide +kernel
theorem dL_redirect_22 : decode cL_redirect 22 = .ok (.ireturn, 1) := by decide +kernel
theorem dL_lives_0 : decode cL_lives 0 = .ok (.aload_n 0, 1) := by decide +kernel
theorem dL_lives_1 : decode cL_lives 1 = .ok (.iload_n 1, 1) := by decide +kernel
theorem dL_lives_2 : decode cL_lives 2 = .ok (.iload_n 2, 1) := by decide +kernel
theorem dL_lives_3 : decode cL_lives 3 = .ok (.iload_n 3, 1) := by decide +kernel
theorem dL_lives_4 : decode cL_lives 4 = .ok (.invokevirtual 27, 3) := by decide +kernel
theorem dL_lives_7 : decode cL_lives 7 = .ok (.goto 7, 3) := by decide +kernel
theorem dL_lives_10 : decode cL_lives 10 = .ok (.astore 4, 2) := by decide +kernel
theorem dL_lives_12 : decode cL_lives 12 = .ok (.iconst 1, 1) := by decide +kernel
theorem dL_lives_13 : decode cL_lives 13 = .ok (.ireturn, 1) := by decide +kernel
theorem dL_lives_14 : decode cL_lives 14 = .ok (.iconst 0, 1) := by decide +kernel
theorem dL_lives_15 : decode cL_lives 15 = .ok (.ireturn, 1) := by decide +kernel
theorem dL_tick_0 : decode cL_tick 0 = .ok (.aload_n 2, 1) := by decide +kernel
theorem dL_tick_1 : decode cL_tick 1 = .ok (.iconst 0, 1) := by decide +kernel
theorem dL_tick_2 : decode cL_tick 2 = .ok (.aload_n 0, 1) := by decide +kernel
theorem dL_tick_3 : decode cL_tick 3 = .ok (.iload_n 1, 1) := by decide +kernel
theorem dL_tick_4 : decode cL_tick 4 = .ok (.invokevirtual 31, 3) := by decide +kernel
theorem dL_tick_7 : decode cL_tick 7 = .ok (.i2l, 1) := by decide +kernel
theorem dL_tick_8 : decode cL_tick 8 = .ok (.lastore, 1) := by decide +kernel
theorem dL_tick_9 : decode cL_tick 9 = .ok (.goto 6, 3) := by decide +kernel
theorem dL_tick_12 : decode cL_tick 12 = .ok (.astore_n 3, 1) := by decide +kernel
theorem dL_tick_13 : decode cL_tick 13 = .ok (.iconst 1, 1) := by decide +kernel
theorem dL_tick_14 : decode cL_tick 14 = .ok (.ireturn, 1) := by decide +kernel
theorem dL_tick_15 : decode cL_tick 15 = .ok (.iconst 0, 1) := by decide +kernel
theorem dL_tick_16 : decode cL_tick 16 = .ok (.ireturn, 1) := by decide +kernel
theorem dL_consent_0 : decode cL_consent 0 = .ok (.aload 5, 2) := by decide +kernel
theorem dL_consent_2 : decode cL_consent 2 = .ok (.iconst 0, 1) := by decide +kernel
theorem dL_consent_3 : decode cL_consent 3 = .ok (.aload_n 0, 1) := by decide +kernel
theorem dL_consent_4 : decode cL_consent 4 = .ok (.iload_n 1, 1) := by decide +kernel
theorem dL_consent_5 : decode cL_consent 5 = .ok (.iload_n 2, 1) := by decide +kernel
theorem dL_consent_6 : decode cL_consent 6 = .ok (.iload_n 3, 1) := by decide +kernel
theorem dL_consent_7 : decode cL_consent 7 = .ok (.iload 4, 2) := by decide +kernel
theorem dL_consent_9 : decode cL_consent 9 = .ok (.invokevirtual 34, 3) := by decide +kernel
theorem dL_consent_12 : decode cL_consent 12 = .ok (.i2l, 1) := by decide +kernel
theorem dL_consent_13 : decode cL_consent 13 = .ok (.lastore, 1) := by decide +kernel
theorem dL_consent_14 : decode cL_consent 14 = .ok (.goto 15, 3) := by decide +kernel
theorem dL_consent_17 : decode cL_consent 17 = .ok (.astore 6, 2) := by decide +kernel
theorem dL_consent_19 : decode cL_consent 19 = .ok (.iconst 1, 1) := by decide +kernel
theorem dL_consent_20 : decode cL_consent 20 = .ok (.ireturn, 1) := by decide +kernel
theorem dL_consent_21 : decode cL_consent 21 = .ok (.astore 6, 2) := by decide +kernel
theorem dL_consent_23 : decode cL_consent 23 = .ok (.iconst 2, 1) := by decide +kernel
theorem dL_consent_24 : decode cL_consent 24 = .ok (.ireturn, 1) := by decide +kernel
theorem dL_consent_25 : decode cL_consent 25 = .ok (.astore 6, 2) := by decide +kernel
theorem dL_consent_27 : decode cL_consent 27 = .ok (.iconst 3, 1) := by decide +kernel
theorem dL_consent_28 : decode cL_consent 28 = .ok (.ireturn, 1) := by decide +kernel
theorem dL_consent_29 : decode cL_consent 29 = .ok (.iconst 0, 1) := by decide +kernel
theorem dL_consent_30 : decode cL_consent 30 = .ok (.ireturn, 1) := by decide +kernel
theorem dL_check_0 : decode cL_check 0 = .ok (.aload_n 2, 1) := by decide +kernel
theorem dL_check_1 : decode cL_check 1 = .ok (.iconst 0, 1) := by decide +kernel
theorem dL_check_2 : decode cL_check 2 = .ok (.aload_n 0, 1) := by decide +kernel
theorem dL_check_3 : decode cL_check 3 = .ok (.iload_n 1, 1) := by decide +kernel
theorem dL_check_4 : decode cL_check 4 = .ok (.invokevirtual 42, 3) := by decide +kernel
theorem dL_check_7 : decode cL_check 7 = .ok (.i2l, 1) := by decide +kernel
theorem dL_check_8 : decode cL_check 8 = .ok (.lastore, 1) := by decide +kernel
theorem dL_check_9 : decode cL_check 9 = .ok (.goto 6, 3) := by decide +kernel
theorem dL_check_12 : decode cL_check 12 = .ok (.astore_n 3, 1) := by decide +kernel
theorem dL_check_13 : decode cL_check 13 = .ok (.iconst 1, 1) := by decide +kernel
theorem dL_check_14 : decode cL_check 14 = .ok (.ireturn, 1) := by decide +kernel
theorem dL_check_15 : decode cL_check 15 = .ok (.iconst 0, 1) := by decide +kernel
theorem dL_check_16 : decode cL_check 16 = .ok (.ireturn, 1) := by decide +kernel
theorem dL_code_0 : decode cL_code 0 = .ok (.aload_n 3, 1) := by decide +kernel
theorem dL_code_1 : decode cL_code 1 = .ok (.iconst 0, 1) := by decide +kernel
theorem dL_code_2 : decode cL_code 2 = .ok (.aload_n 0, 1) := by decide +kernel
theorem dL_code_3 : decode cL_code 3 = .ok (.iload_n 1, 1) := by decide +kernel
theorem dL_code_4 : decode cL_code 4 = .ok (.iload_n 2, 1) := by decide +kernel
theorem dL_code_5 : decode cL_code 5 = .ok (.invokevirtual 45, 3) := by decide +kernel
theorem dL_code_8 : decode cL_code 8 = .ok (.i2l, 1) := by decide +kernel
theorem dL_code_9 : decode cL_code 9 = .ok (.lastore, 1) := by decide +kernel
theorem dL_code_10 : decode cL_code 10 = .ok (.goto 7, 3) := by decide +kernel
theorem dL_code_13 : decode cL_code 13 = .ok (.astore 4, 2) := by decide +kernel
theorem dL_code_15 : decode cL_code 15 = .ok (.iconst 1, 1) := by decide +kernel
theorem dL_code_16 : decode cL_code 16 = .ok (.ireturn, 1) := by decide +kernel
theorem dL_code_17 : decode cL_code 17 = .ok (.iconst 0, 1) := by decide +kernel
theorem dL_code_18 : decode cL_code 18 = .ok (.ireturn, 1) := by decide +kernel
theorem dL_family_0 : decode cL_family 0 = .ok (.aload_n 3, 1) := by decide +kernel
theorem dL_family_1 : decode cL_family 1 = .ok (.iconst 0, 1) := by decide +kernel
theorem dL_family_2 : decode cL_family 2 = .ok (.aload_n 0, 1) := by decide +kernel
theorem dL_family_3 : decode cL_family 3 = .ok (.iload_n 1, 1) := by decide +kernel
theorem dL_family_4 : decode cL_family 4 = .ok (.iload_n 2, 1) := by decide +kernel
theorem dL_family_5 : decode cL_family 5 = .ok (.invokevirtual 49, 3) := by decide +kernel
theorem dL_family_8 : decode cL_family 8 = .ok (.i2l, 1) := by decide +kernel
theorem dL_family_9 : decode cL_family 9 = .ok (.lastore, 1) := by decide +kernel
theorem dL_family_10 : decode cL_family 10 = .ok (.goto 7, 3) := by decide +kernel
theorem dL_family_13 : decode cL_family 13 = .ok (.astore 4, 2) := by decide +kernel
theorem dL_family_15 : decode cL_family 15 = .ok (.iconst 1, 1) := by decide +kernel
theorem dL_family_16 : decode cL_family 16 = .ok (.ireturn, 1) := by decide +kernel
theorem dL_family_17 : decode cL_family 17 = .ok (.iconst 0, 1) := by decide +kernel
theorem dL_family_18 : decode cL_family 18 = .ok (.ireturn, 1) := by decide +kernel
