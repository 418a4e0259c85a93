theorem dL_makeRoot_0 : decode cL_makeRoot 0 = .ok (.aload 4, 2) := by decide +kernel
theorem dL_makeRoot_2 : decode cL_makeRoot 2 = .ok (.iconst 0, 1) := by decide +kernel
theorem dL_makeRoot_3 : decode cL_makeRoot 3 = .ok (.aload_n 0, 1) := by decide +kernel
theorem dL_makeRoot_4 : decode cL_makeRoot 4 = .ok (.iload_n 1, 1) := by decide +kernel
theorem dL_makeRoot_5 : decode cL_makeRoot 5 = .ok (.iload_n 2, 1) := by decide +kernel
theorem dL_makeRoot_6 : decode cL_makeRoot 6 = .ok (.iload_n 3, 1) := by decide +kernel
theorem dL_makeRoot_7 : decode cL_makeRoot 7 = .ok (.invokevirtual 7, 3) := by decide +kernel
theorem dL_makeRoot_10 : decode cL_makeRoot 10 = .ok (.i2l, 1) := by decide +kernel
theorem dL_makeRoot_11 : decode cL_makeRoot 11 = .ok (.lastore, 1) := by decide +kernel
theorem dL_makeRoot_12 : decode cL_makeRoot 12 = .ok (.goto 11, 3) := by decide +kernel
theorem dL_makeRoot_15 : decode cL_makeRoot 15 = .ok (.astore 5, 2) := by decide +kernel
theorem dL_makeRoot_17 : decode cL_makeRoot 17 = .ok (.iconst 1, 1) := by decide +kernel
theorem dL_makeRoot_18 : decode cL_makeRoot 18 = .ok (.ireturn, 1) := by decide +kernel
theorem dL_makeRoot_19 : decode cL_makeRoot 19 = .ok (.astore 5, 2) := by decide +kernel
theorem dL_makeRoot_21 : decode cL_makeRoot 21 = .ok (.iconst 2, 1) := by decide +kernel
theorem dL_makeRoot_22 : decode cL_makeRoot 22 = .ok (.ireturn, 1) := by decide +kernel
theorem dL_makeRoot_23 : decode cL_makeRoot 23 = .ok (.iconst 0, 1) := by decide +kernel
theorem dL_makeRoot_24 : decode cL_makeRoot 24 = .ok (.ireturn, 1) := by decide +kernel
theorem dL_issue_0 : decode cL_issue 0 = .ok (.aload 4, 2) := by decide +kernel
theorem dL_issue_2 : decode cL_issue 2 = .ok (.iconst 0, 1) := by decide +kernel
theorem dL_issue_3 : decode cL_issue 3 = .ok (.aload_n 0, 1) := by decide +kernel
theorem dL_issue_4 : decode cL_issue 4 = .ok (.iload_n 1, 1) := by decide +kernel
theorem dL_issue_5 : decode cL_issue 5 = .ok (.iload_n 2, 1) := by decide +kernel
theorem dL_issue_6 : decode cL_issue 6 = .ok (.iload_n 3, 1) := by decide +kernel
theorem dL_issue_7 : decode cL_issue 7 = .ok (.invokevirtual 17, 3) := by decide +kernel
theorem dL_issue_10 : decode cL_issue 10 = .ok (.i2l, 1) := by decide +kernel
theorem dL_issue_11 : decode cL_issue 11 = .ok (.lastore, 1) := by decide +kernel
theorem dL_issue_12 : decode cL_issue 12 = .ok (.goto 15, 3) := by decide +kernel
theorem dL_issue_15 : decode cL_issue 15 = .ok (.astore 5, 2) := by decide +kernel
theorem dL_issue_17 : decode cL_issue 17 = .ok (.iconst 1, 1) := by decide +kernel
theorem dL_issue_18 : decode cL_issue 18 = .ok (.ireturn, 1) := by decide +kernel
theorem dL_issue_19 : decode cL_issue 19 = .ok (.astore 5, 2) := by decide +kernel
theorem dL_issue_21 : decode cL_issue 21 = .ok (.iconst 2, 1) := by decide +kernel
theorem dL_issue_22 : decode cL_issue 22 = .ok (.ireturn, 1) := by decide +kernel
theorem dL_issue_23 : decode cL_issue 23 = .ok (.astore 5, 2) := by decide +kernel
theorem dL_issue_25 : decode cL_issue 25 = .ok (.iconst 3, 1) := by decide +kernel
theorem dL_issue_26 : decode cL_issue 26 = .ok (.ireturn, 1) := by decide +kernel
theorem dL_issue_27 : decode cL_issue 27 = .ok (.iconst 0, 1) := by decide +kernel
theorem dL_issue_28 : decode cL_issue 28 = .ok (.ireturn, 1) := by decide +kernel
theorem dL_issueAuthority_0 : decode cL_issueAuthority 0 = .ok (.aload 5, 2) := by decide +kernel
theorem dL_issueAuthority_2 : decode cL_issueAuthority 2 = .ok (.iconst 0, 1) := by decide +kernel
theorem dL_issueAuthority_3 : decode cL_issueAuthority 3 = .ok (.aload_n 0, 1) := by decide +kernel
theorem dL_issueAuthority_4 : decode cL_issueAuthority 4 = .ok (.iload_n 1, 1) := by decide +kernel
theorem dL_issueAuthority_5 : decode cL_issueAuthority 5 = .ok (.iload_n 2, 1) := by decide +kernel
theorem dL_issueAuthority_6 : decode cL_issueAuthority 6 = .ok (.iload_n 3, 1) := by decide +kernel
theorem dL_issueAuthority_7 : decode cL_issueAuthority 7 = .ok (.iload 4, 2) := by decide +kernel
theorem dL_issueAuthority_9 : decode cL_issueAuthority 9 = .ok (.invokevirtual 22, 3) := by decide +kernel
theorem dL_issueAuthority_12 : decode cL_issueAuthority 12 = .ok (.i2l, 1) := by decide +kernel
theorem dL_issueAuthority_13 : decode cL_issueAuthority 13 = .ok (.lastore, 1) := by decide +kernel
theorem dL_issueAuthority_14 : decode cL_issueAuthority 14 = .ok (.goto 15, 3) := by decide +kernel
theorem dL_issueAuthority_17 : decode cL_issueAuthority 17 = .ok (.astore 6, 2) := by decide +kernel
theorem dL_issueAuthority_19 : decode cL_issueAuthority 19 = .ok (.iconst 1, 1) := by decide +kernel
theorem dL_issueAuthority_20 : decode cL_issueAuthority 20 = .ok (.ireturn, 1) := by decide +kernel
theorem dL_issueAuthority_21 : decode cL_issueAuthority 21 = .ok (.astore 6, 2) := by decide +kernel
theorem dL_issueAuthority_23 : decode cL_issueAuthority 23 = .ok (.iconst 2, 1) := by decide +kernel
theorem dL_issueAuthority_24 : decode cL_issueAuthority 24 = .ok (.ireturn, 1) := by decide +kernel
theorem dL_issueAuthority_25 : decode cL_issueAuthority 25 = .ok (.astore 6, 2) := by decide +kernel
theorem dL_issueAuthority_27 : decode cL_issueAuthority 27 = .ok (.iconst 3, 1) := by decide +kernel
theorem dL_issueAuthority_28 : decode cL_issueAuthority 28 = .ok (.ireturn, 1) := by decide +kernel
theorem dL_issueAuthority_29 : decode cL_issueAuthority 29 = .ok (.iconst 0, 1) := by decide +kernel
theorem dL_issueAuthority_30 : decode cL_issueAuthority 30 = .ok (.ireturn, 1) := by decide +kernel
theorem dL_cross_0 : decode cL_cross 0 = .ok (.aload 5, 2) := by decide +kernel
theorem dL_cross_2 : decode cL_cross 2 = .ok (.iconst 0, 1) := by decide +kernel
theorem dL_cross_3 : decode cL_cross 3 = .ok (.aload_n 0, 1) := by decide +kernel
theorem dL_cross_4 : decode cL_cross 4 = .ok (.iload_n 1, 1) := by decide +kernel
theorem dL_cross_5 : decode cL_cross 5 = .ok (.iload_n 2, 1) := by decide +kernel
theorem dL_cross_6 : decode cL_cross 6 = .ok (.iload_n 3, 1) := by decide +kernel
theorem dL_cross_7 : decode cL_cross 7 = .ok (.iload 4, 2) := by decide +kernel
theorem dL_cross_9 : decode cL_cross 9 = .ok (.invokevirtual 26, 3) := by decide +kernel
theorem dL_cross_12 : decode cL_cross 12 = .ok (.i2l, 1) := by decide +kernel
theorem dL_cross_13 : decode cL_cross 13 = .ok (.lastore, 1) := by decide +kernel
theorem dL_cross_14 : decode cL_cross 14 = .ok (.goto 15, 3) := by decide +kernel
theorem dL_cross_17 : decode cL_cross 17 = .ok (.astore 6, 2) := by decide +kernel
theorem dL_cross_19 : decode cL_cross 19 = .ok (.iconst 1, 1) := by decide +kernel
theorem dL_cross_20 : decode cL_cross 20 = .ok (.ireturn, 1) := by decide +kernel
theorem dL_cross_21 : decode cL_cross 21 = .ok (.astore 6, 2) := by decide +kernel
theorem dL_cross_23 : decode cL_cross 23 = .ok (.iconst 2, 1) := by decide +kernel
theorem dL_cross_24 : decode cL_cross 24 = .ok (.ireturn, 1) := by decide +kernel
theorem dL_cross_25 : decode cL_cross 25 = .ok (.astore 6, 2) := by decide +kernel
theorem dL_cross_27 : decode cL_cross 27 = .ok (.iconst 3, 1) := by decide +kernel
theorem dL_cross_28 : decode cL_cross 28 = .ok (.ireturn, 1) := by decide +kernel
theorem dL_cross_29 : decode cL_cross 29 = .ok (.iconst 0, 1) := by decide +kernel
theorem dL_cross_30 : decode cL_cross 30 = .ok (.ireturn, 1) := by decide +kernel
theorem dL_setNames_0 : decode cL_setNames 0 = .ok (.aload 4, 2) := by decide +kernel
theorem dL_setNames_2 : decode cL_setNames 2 = .ok (.iconst 0, 1) := by decide +kernel
theorem dL_setNames_3 : decode cL_setNames 3 = .ok (.aload_n 0, 1) := by decide +kernel
theorem dL_setNames_4 : decode cL_setNames 4 = .ok (.iload_n 1, 1) := by decide +kernel
theorem dL_setNames_5 : decode cL_setNames 5 = .ok (.iload_n 2, 1) := by decide +kernel
theorem dL_setNames_6 : decode cL_setNames 6 = .ok (.iload_n 3, 1) := by decide +kernel
theorem dL_setNames_7 : decode cL_setNames 7 = .ok (.invokevirtual 29, 3) := by decide +kernel
theorem dL_setNames_10 : decode cL_setNames 10 = .ok (.i2l, 1) := by decide +kernel
theorem dL_setNames_11 : decode cL_setNames 11 = .ok (.lastore, 1) := by decide +kernel
theorem dL_setNames_12 : decode cL_setNames 12 = .ok (.goto 15, 3) := by decide +kernel
theorem dL_setNames_15 : decode cL_setNames 15 = .ok (.astore 5, 2) := by decide +kernel
theorem dL_setNames_17 : decode cL_setNames 17 = .ok (.iconst 1, 1) := by decide +kernel
theorem dL_setNames_18 : decode cL_setNames 18 = .ok (.ireturn, 1) := by decide +kernel
theorem dL_setNames_19 : decode cL_setNames 19 = .ok (.astore 5, 2) := by decide +kernel
theorem dL_setNames_21 : decode cL_setNames 21 = .ok (.iconst 2, 1) := by decide +kernel
theorem dL_setNames_22 : decode cL_setNames 22 = .ok (.ireturn, 1) := by decide +kernel
theorem dL_setNames_23 : decode cL_setNames 23 = .ok (.astore 5, 2) := by decide +kernel
theorem dL_setNames_25 : decode cL_setNames 25 = .ok (.iconst 3, 1) := by decide +kernel
theorem dL_setNames_26 : decode cL_setNames 26 = .ok (.ireturn, 1) := by decide +kernel
theorem dL_setNames_27 : decode cL_setNames 27 = .ok (.iconst 0, 1) := by decide +kernel
theorem dL_setNames_28 : decode cL_setNames 28 = .ok (.ireturn, 1) := by decide +kernel
theorem dL_trust_0 : decode cL_trust 0 = .ok (.aload_n 3, 1) := by decide +kernel
theorem dL_trust_1 : decode cL_trust 1 = .ok (.iconst 0, 1) := by decide +kernel
theorem dL_trust_2 : decode cL_trust 2 = .ok (.aload_n 0, 1) := by decide +kernel
theorem dL_trust_3 : decode cL_trust 3 = .ok (.iload_n 1, 1) := by decide +kernel
theorem dL_trust_4 : decode cL_trust 4 = .ok (.iload_n 2, 1) := by decide +kernel
theorem dL_trust_5 : decode cL_trust 5 = .ok (.invokevirtual 32, 3) := by decide +kernel
theorem dL_trust_8 : decode cL_trust 8 = .ok (.i2l, 1) := by decide +kernel
theorem dL_trust_9 : decode cL_trust 9 = .ok (.lastore, 1) := by decide +kernel
theorem dL_trust_10 : decode cL_trust 10 = .ok (.goto 11, 3) := by decide +kernel
theorem dL_trust_13 : decode cL_trust 13 = .ok (.astore 4, 2) := by decide +kernel
theorem dL_trust_15 : decode cL_trust 15 = .ok (.iconst 1, 1) := by decide +kernel
theorem dL_trust_16 : decode cL_trust 16 = .ok (.ireturn, 1) := by decide +kernel
theorem dL_trust_17 : decode cL_trust 17 = .ok (.astore 4, 2) := by decide +kernel
theorem dL_trust_19 : decode cL_trust 19 = .ok (.iconst 2, 1) := by decide +kernel
theorem dL_trust_20 : decode cL_trust 20 = .ok (.ireturn, 1) := by decide +kernel
theorem dL_trust_21 : decode cL_trust 21 = .ok (.iconst 0, 1) := by decide +kernel
theorem dL_trust_22 : decode cL_trust 22 = .ok (.ireturn, 1) := by decide +kernel
theorem dL_revoke_0 : decode cL_revoke 0 = .ok (.aload_n 2, 1) := by decide +kernel
theorem dL_revoke_1 : decode cL_revoke 1 = .ok (.iconst 0, 1) := by decide +kernel
theorem dL_revoke_2 : decode cL_revoke 2 = .ok (.aload_n 0, 1) := by decide +kernel
theorem dL_revoke_3 : decode cL_revoke 3 = .ok (.iload_n 1, 1) := by decide +kernel
theorem dL_revoke_4 : decode cL_revoke 4 = .ok (.invokevirtual 36, 3) := by decide +kernel
theorem dL_revoke_7 : decode cL_revoke 7 = .ok (.i2l, 1) := by decide +kernel
theorem dL_revoke_8 : decode cL_revoke 8 = .ok (.lastore, 1) := by decide +kernel
theorem dL_revoke_9 : decode cL_revoke 9 = .ok (.goto 9, 3) := by decide +kernel
theorem dL_revoke_12 : decode cL_revoke 12 = .ok (.astore_n 3, 1) := by decide +kernel
theorem dL_revoke_13 : decode cL_revoke 13 = .ok (.iconst 1, 1) := by decide +kernel
theorem dL_revoke_14 : decode cL_revoke 14 = .ok (.ireturn, 1) := by decide +kernel
theorem dL_revoke_15 : decode cL_revoke 15 = .ok (.astore_n 3, 1) := by decide +kernel
theorem dL_revoke_16 : decode cL_revoke 16 = .ok (.iconst 2, 1) := by decide +kernel
theorem dL_revoke_17 : decode cL_revoke 17 = .ok (.ireturn, 1) := by decide +kernel
theorem dL_revoke_18 : decode cL_revoke 18 = .ok (.iconst 0, 1) := by decide +kernel
theorem dL_revoke_19 : decode cL_revoke 19 = .ok (.ireturn, 1) := by decide +kernel
theorem dL_publish_0 : decode cL_publish 0 = .ok (.aload_n 2, 1) := by decide +kernel
theorem dL_publish_1 : decode cL_publish 1 = .ok (.iconst 0, 1) := by decide +kernel
theorem dL_publish_2 : decode cL_publish 2 = .ok (.aload_n 0, 1) := by decide +kernel
theorem dL_publish_3 : decode cL_publish 3 = .ok (.iload_n 1, 1) := by decide +kernel
theorem dL_publish_4 : decode cL_publish 4 = .ok (.invokevirtual 40, 3) := by decide +kernel
theorem dL_publish_7 : decode cL_publish 7 = .ok (.i2l, 1) := by decide +kernel
theorem dL_publish_8 : decode cL_publish 8 = .ok (.lastore, 1) := by decide +kernel
theorem dL_publish_9 : decode cL_publish 9 = .ok (.goto 9, 3) := by decide +kernel
theorem dL_publish_12 : decode cL_publish 12 = .ok (.astore_n 3, 1) := by decide +kernel
theorem dL_publish_13 : decode cL_publish 13 = .ok (.iconst 1, 1) := by decide +kernel
theorem dL_publish_14 : decode cL_publish 14 = .ok (.ireturn, 1) := by decide +kernel
theorem dL_publish_15 : decode cL_publish 15 = .ok (.astore_n 3, 1) := by decide +kernel
theorem dL_publish_16 : decode cL_publish 16 = .ok (.iconst 2, 1) := by decide +kernel
theorem dL_publish_17 : decode cL_publish 17 = .ok (.ireturn, 1) := by decide +kernel
theorem dL_publish_18 : decode cL_publish 18 = .ok (.iconst 0, 1) := by decide +kernel
theorem dL_publish_19 : decode cL_publish 19 = .ok (.ireturn, 1) := by decide +kernel
theorem dL_pass_0 : decode cL_pass 0 = .ok (.aload_n 2, 1) := by decide +kernel
theorem dL_pass_1 : decode cL_pass 1 = .ok (.iconst 0, 1) := by decide +kernel
theorem dL_pass_2 : decode cL_pass 2 = .ok (.aload_n 0, 1) := by decide +kernel
theorem dL_pass_3 : decode cL_pass 3 = .ok (.iload_n 1, 1) := by decide +kernel
theorem dL_pass_4 : decode cL_pass 4 = .ok (.invokevirtual 43, 3) := by decide +kernel
theorem dL_pass_7 : decode cL_pass 7 = .ok (.i2l, 1) := by decide +kernel
theorem dL_pass_8 : decode cL_pass 8 = .ok (.lastore, 1) := by decide +kernel
theorem dL_pass_9 : decode cL_pass 9 = .ok (.goto 6, 3) := by decide +kernel
theorem dL_pass_12 : decode cL_pass 12 = .ok (.astore_n 3, 1) := by decide +kernel
theorem dL_pass_13 : decode cL_pass 13 = .ok (.iconst 1, 1) := by decide +kernel
theorem dL_pass_14 : decode cL_pass 14 = .ok (.ireturn, 1) := by decide +kernel
theorem dL_pass_15 : decode cL_pass 15 = .ok (.iconst 0, 1) := by decide +kernel
theorem dL_pass_16 : decode cL_pass 16 = .ok (.ireturn, 1) := by decide +kernel
theorem dL_nameOf_0 : decode cL_nameOf 0 = .ok (.aload_n 2, 1) := by decide +kernel
theorem dL_nameOf_1 : decode cL_nameOf 1 = .ok (.iconst 0, 1) := by decide +kernel
theorem dL_nameOf_2 : decode cL_nameOf 2 = .ok (.aload_n 0, 1) := by decide +kernel
theorem dL_nameOf_3 : decode cL_nameOf 3 = .ok (.iload_n 1, 1) := by decide +kernel
theorem dL_nameOf_4 : decode cL_nameOf 4 = .ok (.invokevirtual 46, 3) := by decide +kernel
theorem dL_nameOf_7 : decode cL_nameOf 7 = .ok (.i2l, 1) := by decide +kernel
theorem dL_nameOf_8 : decode cL_nameOf 8 = .ok (.lastore, 1) := by decide +kernel
theorem dL_nameOf_9 : decode cL_nameOf 9 = .ok (.goto 6, 3) := by decide +kernel
theorem dL_nameOf_12 : decode cL_nameOf 12 = .ok (.astore_n 3, 1) := by decide +kernel
theorem dL_nameOf_13 : decode cL_nameOf 13 = .ok (.iconst 1, 1) := by decide +kernel
theorem dL_nameOf_14 : decode cL_nameOf 14 = .ok (.ireturn, 1) := by decide +kernel
theorem dL_nameOf_15 : decode cL_nameOf 15 = .ok (.iconst 0, 1) := by decide +kernel
theorem dL_nameOf_16 : decode cL_nameOf 16 = .ok (.ireturn, 1) := by decide +kernel
theorem dL_keyOf_0 : decode cL_keyOf 0 = .ok (.aload_n 2, 1) := by decide +kernel
theorem dL_keyOf_1 : decode cL_keyOf 1 = .ok (.iconst 0, 1) := by decide +kernel
theorem dL_keyOf_2 : decode cL_keyOf 2 = .ok (.aload_n 0, 1) := by decide +kernel
theorem dL_keyOf_3 : decode cL_keyOf 3 = .ok (.iload_n 1, 1) := by decide +kernel
theorem dL_keyOf_4 : decode cL_keyOf 4 = .ok (.invokevirtual 49, 3) := by decide +kernel
theorem dL_keyOf_7 : decode cL_keyOf 7 = .ok (.i2l, 1) := by decide +kernel
theorem dL_keyOf_8 : decode cL_keyOf 8 = .ok (.lastore, 1) := by decide +kernel
theorem dL_keyOf_9 : decode cL_keyOf 9 = .ok (.goto 6, 3) := by decide +kernel
theorem dL_keyOf_12 : decode cL_keyOf 12 = .ok (.astore_n 3, 1) := by decide +kernel
theorem dL_keyOf_13 : decode cL_keyOf 13 = .ok (.iconst 1, 1) := by decide +kernel
theorem dL_keyOf_14 : decode cL_keyOf 14 = .ok (.ireturn, 1) := by decide +kernel
theorem dL_keyOf_15 : decode cL_keyOf 15 = .ok (.iconst 0, 1) := by decide +kernel
theorem dL_keyOf_16 : decode cL_keyOf 16 = .ok (.ireturn, 1) := by decide +kernel
theorem dL_issuerKeyOf_0 : decode cL_issuerKeyOf 0 = .ok (.aload_n 2, 1) := by decide +kernel
theorem dL_issuerKeyOf_1 : decode cL_issuerKeyOf 1 = .ok (.iconst 0, 1) := by decide +kernel
theorem dL_issuerKeyOf_2 : decode cL_issuerKeyOf 2 = .ok (.aload_n 0, 1) := by decide +kernel
theorem dL_issuerKeyOf_3 : decode cL_issuerKeyOf 3 = .ok (.iload_n 1, 1) := by decide +kernel
theorem dL_issuerKeyOf_4 : decode cL_issuerKeyOf 4 = .ok (.invokevirtual 52, 3) := by decide +kernel
theorem dL_issuerKeyOf_7 : decode cL_issuerKeyOf 7 = .ok (.i2l, 1) := by decide +kernel
theorem dL_issuerKeyOf_8 : decode cL_issuerKeyOf 8 = .ok (.lastore, 1) := by decide +kernel
theorem dL_issuerKeyOf_9 : decode cL_issuerKeyOf 9 = .ok (.goto 6, 3) := by decide +kernel
theorem dL_issuerKeyOf_12 : decode cL_issuerKeyOf 12 = .ok (.astore_n 3, 1) := by decide +kernel
theorem dL_issuerKeyOf_13 : decode cL_issuerKeyOf 13 = .ok (.iconst 1, 1) := by decide +kernel
theorem dL_issuerKeyOf_14 : decode cL_issuerKeyOf 14 = .ok (.ireturn, 1) := by decide +kernel
theorem dL_issuerKeyOf_15 : decode cL_issuerKeyOf 15 = .ok (.iconst 0, 1) := by decide +kernel
theorem dL_issuerKeyOf_16 : decode cL_issuerKeyOf 16 = .ok (.ireturn, 1) := by decide +kernel
theorem dL_lastDayOf_0 : decode cL_lastDayOf 0 = .ok (.aload_n 2, 1) := by decide +kernel
theorem dL_lastDayOf_1 : decode cL_lastDayOf 1 = .ok (.iconst 0, 1) := by decide +kernel
theorem dL_lastDayOf_2 : decode cL_lastDayOf 2 = .ok (.aload_n 0, 1) := by decide +kernel
theorem dL_lastDayOf_3 : decode cL_lastDayOf 3 = .ok (.iload_n 1, 1) := by decide +kernel
theorem dL_lastDayOf_4 : decode cL_lastDayOf 4 = .ok (.invokevirtual 55, 3) := by decide +kernel
theorem dL_lastDayOf_7 : decode cL_lastDayOf 7 = .ok (.i2l, 1) := by decide +kernel
theorem dL_lastDayOf_8 : decode cL_lastDayOf 8 = .ok (.lastore, 1) := by decide +kernel
theorem dL_lastDayOf_9 : decode cL_lastDayOf 9 = .ok (.goto 6, 3) := by decide +kernel
theorem dL_lastDayOf_12 : decode cL_lastDayOf 12 = .ok (.astore_n 3, 1) := by decide +kernel
theorem dL_lastDayOf_13 : decode cL_lastDayOf 13 = .ok (.iconst 1, 1) := by decide +kernel
theorem dL_lastDayOf_14 : decode cL_lastDayOf 14 = .ok (.ireturn, 1) := by decide +kernel
theorem dL_lastDayOf_15 : decode cL_lastDayOf 15 = .ok (.iconst 0, 1) := by decide +kernel
theorem dL_lastDayOf_16 : decode cL_lastDayOf 16 = .ok (.ireturn, 1) := by decide +kernel
theorem dL_kindOf_0 : decode cL_kindOf 0 = .ok (.aload_n 2, 1) := by decide +kernel
theorem dL_kindOf_1 : decode cL_kindOf 1 = .ok (.iconst 0, 1) := by decide +kernel
theorem dL_kindOf_2 : decode cL_kindOf 2 = .ok (.aload_n 0, 1) := by decide +kernel
theorem dL_kindOf_3 : decode cL_kindOf 3 = .ok (.iload_n 1, 1) := by decide +kernel
theorem dL_kindOf_4 : decode cL_kindOf 4 = .ok (.invokevirtual 58, 3) := by decide +kernel
theorem dL_kindOf_7 : decode cL_kindOf 7 = .ok (.i2l, 1) := by decide +kernel
theorem dL_kindOf_8 : decode cL_kindOf 8 = .ok (.lastore, 1) := by decide +kernel
theorem dL_kindOf_9 : decode cL_kindOf 9 = .ok (.goto 6, 3) := by decide +kernel
theorem dL_kindOf_12 : decode cL_kindOf 12 = .ok (.astore_n 3, 1) := by decide +kernel
theorem dL_kindOf_13 : decode cL_kindOf 13 = .ok (.iconst 1, 1) := by decide +kernel
theorem dL_kindOf_14 : decode cL_kindOf 14 = .ok (.ireturn, 1) := by decide +kernel
theorem dL_kindOf_15 : decode cL_kindOf 15 = .ok (.iconst 0, 1) := by decide +kernel
theorem dL_kindOf_16 : decode cL_kindOf 16 = .ok (.ireturn, 1) := by decide +kernel
theorem dL_isBelow_0 : decode cL_isBelow 0 = .ok (.aload_n 3, 1) := by decide +kernel
theorem dL_isBelow_1 : decode cL_isBelow 1 = .ok (.iconst 0, 1) := by decide +kernel
theorem dL_isBelow_2 : decode cL_isBelow 2 = .ok (.aload_n 0, 1) := by decide +kernel
theorem dL_isBelow_3 : decode cL_isBelow 3 = .ok (.iload_n 1, 1) := by decide +kernel
theorem dL_isBelow_4 : decode cL_isBelow 4 = .ok (.iload_n 2, 1) := by decide +kernel
theorem dL_isBelow_5 : decode cL_isBelow 5 = .ok (.invokevirtual 62, 3) := by decide +kernel
theorem dL_isBelow_8 : decode cL_isBelow 8 = .ok (.ifCond .eq 7, 3) := by decide +kernel
theorem dL_isBelow_11 : decode cL_isBelow 11 = .ok (.lconst 1, 1) := by decide +kernel
theorem dL_isBelow_12 : decode cL_isBelow 12 = .ok (.goto 4, 3) := by decide +kernel
theorem dL_isBelow_15 : decode cL_isBelow 15 = .ok (.lconst 0, 1) := by decide +kernel
theorem dL_isBelow_16 : decode cL_isBelow 16 = .ok (.lastore, 1) := by decide +kernel
theorem dL_isBelow_17 : decode cL_isBelow 17 = .ok (.goto 7, 3) := by decide +kernel
theorem dL_isBelow_20 : decode cL_isBelow 20 = .ok (.astore 4, 2) := by decide +kernel
theorem dL_isBelow_22 : decode cL_isBelow 22 = .ok (.iconst 1, 1) := by decide +kernel
theorem dL_isBelow_23 : decode cL_isBelow 23 = .ok (.ireturn, 1) := by decide +kernel
theorem dL_isBelow_24 : decode cL_isBelow 24 = .ok (.iconst 0, 1) := by decide +kernel
theorem dL_isBelow_25 : decode cL_isBelow 25 = .ok (.ireturn, 1) := by decide +kernel
theorem dL_isRevoked_0 : decode cL_isRevoked 0 = .ok (.aload_n 3, 1) := by decide +kernel
theorem dL_isRevoked_1 : decode cL_isRevoked 1 = .ok (.iconst 0, 1) := by decide +kernel
theorem dL_isRevoked_2 : decode cL_isRevoked 2 = .ok (.aload_n 0, 1) := by decide +kernel
theorem dL_isRevoked_3 : decode cL_isRevoked 3 = .ok (.iload_n 1, 1) := by decide +kernel
theorem dL_isRevoked_4 : decode cL_isRevoked 4 = .ok (.iload_n 2, 1) := by decide +kernel
theorem dL_isRevoked_5 : decode cL_isRevoked 5 = .ok (.invokevirtual 66, 3) := by decide +kernel
theorem dL_isRevoked_8 : decode cL_isRevoked 8 = .ok (.ifCond .eq 7, 3) := by decide +kernel
theorem dL_isRevoked_11 : decode cL_isRevoked 11 = .ok (.lconst 1, 1) := by decide +kernel
theorem dL_isRevoked_12 : decode cL_isRevoked 12 = .ok (.goto 4, 3) := by decide +kernel
theorem dL_isRevoked_15 : decode cL_isRevoked 15 = .ok (.lconst 0, 1) := by decide +kernel
theorem dL_isRevoked_16 : decode cL_isRevoked 16 = .ok (.lastore, 1) := by decide +kernel
theorem dL_isRevoked_17 : decode cL_isRevoked 17 = .ok (.goto 11, 3) := by decide +kernel
theorem dL_isRevoked_20 : decode cL_isRevoked 20 = .ok (.astore 4, 2) := by decide +kernel
theorem dL_isRevoked_22 : decode cL_isRevoked 22 = .ok (.iconst 1, 1) := by decide +kernel
theorem dL_isRevoked_23 : decode cL_isRevoked 23 = .ok (.ireturn, 1) := by decide +kernel
theorem dL_isRevoked_24 : decode cL_isRevoked 24 = .ok (.astore 4, 2) := by decide +kernel
theorem dL_isRevoked_26 : decode cL_isRevoked 26 = .ok (.iconst 2, 1) := by decide +kernel
theorem dL_isRevoked_27 : decode cL_isRevoked 27 = .ok (.ireturn, 1) := by decide +kernel
theorem dL_isRevoked_28 : decode cL_isRevoked 28 = .ok (.iconst 0, 1) := by decide +kernel
theorem dL_isRevoked_29 : decode cL_isRevoked 29 = .ok (.ireturn, 1) := by decide +kernel
theorem dL_isRevokedByLists_0 : decode cL_isRevokedByLists 0 = .ok (.aload_n 3, 1) := by decide +kernel
theorem dL_isRevokedByLists_1 : decode cL_isRevokedByLists 1 = .ok (.iconst 0, 1) := by decide +kernel
theorem dL_isRevokedByLists_2 : decode cL_isRevokedByLists 2 = .ok (.aload_n 0, 1) := by decide +kernel
theorem dL_isRevokedByLists_3 : decode cL_isRevokedByLists 3 = .ok (.iload_n 1, 1) := by decide +kernel
theorem dL_isRevokedByLists_4 : decode cL_isRevokedByLists 4 = .ok (.iload_n 2, 1) := by decide +kernel
theorem dL_isRevokedByLists_5 : decode cL_isRevokedByLists 5 = .ok (.invokevirtual 69, 3) := by decide +kernel
theorem dL_isRevokedByLists_8 : decode cL_isRevokedByLists 8 = .ok (.ifCond .eq 7, 3) := by decide +kernel
theorem dL_isRevokedByLists_11 : decode cL_isRevokedByLists 11 = .ok (.lconst 1, 1) := by decide +kernel
theorem dL_isRevokedByLists_12 : decode cL_isRevokedByLists 12 = .ok (.goto 4, 3) := by decide +kernel
theorem dL_isRevokedByLists_15 : decode cL_isRevokedByLists 15 = .ok (.lconst 0, 1) := by decide +kernel
theorem dL_isRevokedByLists_16 : decode cL_isRevokedByLists 16 = .ok (.lastore, 1) := by decide +kernel
theorem dL_isRevokedByLists_17 : decode cL_isRevokedByLists 17 = .ok (.goto 11, 3) := by decide +kernel
theorem dL_isRevokedByLists_20 : decode cL_isRevokedByLists 20 = .ok (.astore 4, 2) := by decide +kernel
theorem dL_isRevokedByLists_22 : decode cL_isRevokedByLists 22 = .ok (.iconst 1, 1) := by decide +kernel
theorem dL_isRevokedByLists_23 : decode cL_isRevokedByLists 23 = .ok (.ireturn, 1) := by decide +kernel
theorem dL_isRevokedByLists_24 : decode cL_isRevokedByLists 24 = .ok (.astore 4, 2) := by decide +kernel
theorem dL_isRevokedByLists_26 : decode cL_isRevokedByLists 26 = .ok (.iconst 2, 1) := by decide +kernel
theorem dL_isRevokedByLists_27 : decode cL_isRevokedByLists 27 = .ok (.ireturn, 1) := by decide +kernel
theorem dL_isRevokedByLists_28 : decode cL_isRevokedByLists 28 = .ok (.iconst 0, 1) := by decide +kernel
theorem dL_isRevokedByLists_29 : decode cL_isRevokedByLists 29 = .ok (.ireturn, 1) := by decide +kernel
theorem dL_candidates_0 : decode cL_candidates 0 = .ok (.aload_n 2, 1) := by decide +kernel
theorem dL_candidates_1 : decode cL_candidates 1 = .ok (.iconst 0, 1) := by decide +kernel
theorem dL_candidates_2 : decode cL_candidates 2 = .ok (.aload_n 0, 1) := by decide +kernel
theorem dL_candidates_3 : decode cL_candidates 3 = .ok (.iload_n 1, 1) := by decide +kernel
theorem dL_candidates_4 : decode cL_candidates 4 = .ok (.invokevirtual 72, 3) := by decide +kernel
theorem dL_candidates_7 : decode cL_candidates 7 = .ok (.i2l, 1) := by decide +kernel
theorem dL_candidates_8 : decode cL_candidates 8 = .ok (.lastore, 1) := by decide +kernel
theorem dL_candidates_9 : decode cL_candidates 9 = .ok (.goto 6, 3) := by decide +kernel
theorem dL_candidates_12 : decode cL_candidates 12 = .ok (.astore_n 3, 1) := by decide +kernel
theorem dL_candidates_13 : decode cL_candidates 13 = .ok (.iconst 1, 1) := by decide +kernel
theorem dL_candidates_14 : decode cL_candidates 14 = .ok (.ireturn, 1) := by decide +kernel
theorem dL_candidates_15 : decode cL_candidates 15 = .ok (.iconst 0, 1) := by decide +kernel
theorem dL_candidates_16 : decode cL_candidates 16 = .ok (.ireturn, 1) := by decide +kernel
theorem dL_candidateAt_0 : decode cL_candidateAt 0 = .ok (.aload_n 3, 1) := by decide +kernel
theorem dL_candidateAt_1 : decode cL_candidateAt 1 = .ok (.iconst 0, 1) := by decide +kernel
theorem dL_candidateAt_2 : decode cL_candidateAt 2 = .ok (.aload_n 0, 1) := by decide +kernel
theorem dL_candidateAt_3 : decode cL_candidateAt 3 = .ok (.iload_n 1, 1) := by decide +kernel
theorem dL_candidateAt_4 : decode cL_candidateAt 4 = .ok (.iload_n 2, 1) := by decide +kernel
theorem dL_candidateAt_5 : decode cL_candidateAt 5 = .ok (.invokevirtual 75, 3) := by decide +kernel
theorem dL_candidateAt_8 : decode cL_candidateAt 8 = .ok (.i2l, 1) := by decide +kernel
theorem dL_candidateAt_9 : decode cL_candidateAt 9 = .ok (.lastore, 1) := by decide +kernel
theorem dL_candidateAt_10 : decode cL_candidateAt 10 = .ok (.goto 11, 3) := by decide +kernel
theorem dL_candidateAt_13 : decode cL_candidateAt 13 = .ok (.astore 4, 2) := by decide +kernel
theorem dL_candidateAt_15 : decode cL_candidateAt 15 = .ok (.iconst 1, 1) := by decide +kernel
theorem dL_candidateAt_16 : decode cL_candidateAt 16 = .ok (.ireturn, 1) := by decide +kernel
theorem dL_candidateAt_17 : decode cL_candidateAt 17 = .ok (.astore 4, 2) := by decide +kernel
theorem dL_candidateAt_19 : decode cL_candidateAt 19 = .ok (.iconst 2, 1) := by decide +kernel
theorem dL_candidateAt_20 : decode cL_candidateAt 20 = .ok (.ireturn, 1) := by decide +kernel
theorem dL_candidateAt_21 : decode cL_candidateAt 21 = .ok (.iconst 0, 1) := by decide +kernel
theorem dL_candidateAt_22 : decode cL_candidateAt 22 = .ok (.ireturn, 1) := by decide +kernel
theorem dL_chainSize_0 : decode cL_chainSize 0 = .ok (.aload_n 3, 1) := by decide +kernel
theorem dL_chainSize_1 : decode cL_chainSize 1 = .ok (.iconst 0, 1) := by decide +kernel
theorem dL_chainSize_2 : decode cL_chainSize 2 = .ok (.aload_n 0, 1) := by decide +kernel
theorem dL_chainSize_3 : decode cL_chainSize 3 = .ok (.iload_n 1, 1) := by decide +kernel
theorem dL_chainSize_4 : decode cL_chainSize 4 = .ok (.iload_n 2, 1) := by decide +kernel
theorem dL_chainSize_5 : decode cL_chainSize 5 = .ok (.invokevirtual 81, 3) := by decide +kernel
theorem dL_chainSize_8 : decode cL_chainSize 8 = .ok (.i2l, 1) := by decide +kernel
theorem dL_chainSize_9 : decode cL_chainSize 9 = .ok (.lastore, 1) := by decide +kernel
theorem dL_chainSize_10 : decode cL_chainSize 10 = .ok (.goto 11, 3) := by decide +kernel
theorem dL_chainSize_13 : decode cL_chainSize 13 = .ok (.astore 4, 2) := by decide +kernel
theorem dL_chainSize_15 : decode cL_chainSize 15 = .ok (.iconst 1, 1) := by decide +kernel
theorem dL_chainSize_16 : decode cL_chainSize 16 = .ok (.ireturn, 1) := by decide +kernel
theorem dL_chainSize_17 : decode cL_chainSize 17 = .ok (.astore 4, 2) := by decide +kernel
theorem dL_chainSize_19 : decode cL_chainSize 19 = .ok (.iconst 2, 1) := by decide +kernel
theorem dL_chainSize_20 : decode cL_chainSize 20 = .ok (.ireturn, 1) := by decide +kernel
theorem dL_chainSize_21 : decode cL_chainSize 21 = .ok (.iconst 0, 1) := by decide +kernel
theorem dL_chainSize_22 : decode cL_chainSize 22 = .ok (.ireturn, 1) := by decide +kernel
theorem dL_chainAt_0 : decode cL_chainAt 0 = .ok (.aload 4, 2) := by decide +kernel
theorem dL_chainAt_2 : decode cL_chainAt 2 = .ok (.iconst 0, 1) := by decide +kernel
theorem dL_chainAt_3 : decode cL_chainAt 3 = .ok (.aload_n 0, 1) := by decide +kernel
theorem dL_chainAt_4 : decode cL_chainAt 4 = .ok (.iload_n 1, 1) := by decide +kernel
theorem dL_chainAt_5 : decode cL_chainAt 5 = .ok (.iload_n 2, 1) := by decide +kernel
theorem dL_chainAt_6 : decode cL_chainAt 6 = .ok (.iload_n 3, 1) := by decide +kernel
theorem dL_chainAt_7 : decode cL_chainAt 7 = .ok (.invokevirtual 84, 3) := by decide +kernel
theorem dL_chainAt_10 : decode cL_chainAt 10 = .ok (.i2l, 1) := by decide +kernel
theorem dL_chainAt_11 : decode cL_chainAt 11 = .ok (.lastore, 1) := by decide +kernel
theorem dL_chainAt_12 : decode cL_chainAt 12 = .ok (.goto 15, 3) := by decide +kernel
theorem dL_chainAt_15 : decode cL_chainAt 15 = .ok (.astore 5, 2) := by decide +kernel
theorem dL_chainAt_17 : decode cL_chainAt 17 = .ok (.iconst 1, 1) := by decide +kernel
theorem dL_chainAt_18 : decode cL_chainAt 18 = .ok (.ireturn, 1) := by decide +kernel
theorem dL_chainAt_19 : decode cL_chainAt 19 = .ok (.astore 5, 2) := by decide +kernel
theorem dL_chainAt_21 : decode cL_chainAt 21 = .ok (.iconst 2, 1) := by decide +kernel
theorem dL_chainAt_22 : decode cL_chainAt 22 = .ok (.ireturn, 1) := by decide +kernel
theorem dL_chainAt_23 : decode cL_chainAt 23 = .ok (.astore 5, 2) := by decide +kernel
theorem dL_chainAt_25 : decode cL_chainAt 25 = .ok (.iconst 3, 1) := by decide +kernel
theorem dL_chainAt_26 : decode cL_chainAt 26 = .ok (.ireturn, 1) := by decide +kernel
theorem dL_chainAt_27 : decode cL_chainAt 27 = .ok (.iconst 0, 1) := by decide +kernel
theorem dL_chainAt_28 : decode cL_chainAt 28 = .ok (.ireturn, 1) := by decide +kernel
theorem dL_goodChains_0 : decode cL_goodChains 0 = .ok (.aload_n 3, 1) := by decide +kernel
theorem dL_goodChains_1 : decode cL_goodChains 1 = .ok (.iconst 0, 1) := by decide +kernel
theorem dL_goodChains_2 : decode cL_goodChains 2 = .ok (.aload_n 0, 1) := by decide +kernel
theorem dL_goodChains_3 : decode cL_goodChains 3 = .ok (.iload_n 1, 1) := by decide +kernel
theorem dL_goodChains_4 : decode cL_goodChains 4 = .ok (.iload_n 2, 1) := by decide +kernel
theorem dL_goodChains_5 : decode cL_goodChains 5 = .ok (.invokevirtual 87, 3) := by decide +kernel
theorem dL_goodChains_8 : decode cL_goodChains 8 = .ok (.i2l, 1) := by decide +kernel
theorem dL_goodChains_9 : decode cL_goodChains 9 = .ok (.lastore, 1) := by decide +kernel
theorem dL_goodChains_10 : decode cL_goodChains 10 = .ok (.goto 11, 3) := by decide +kernel
theorem dL_goodChains_13 : decode cL_goodChains 13 = .ok (.astore 4, 2) := by decide +kernel
theorem dL_goodChains_15 : decode cL_goodChains 15 = .ok (.iconst 1, 1) := by decide +kernel
theorem dL_goodChains_16 : decode cL_goodChains 16 = .ok (.ireturn, 1) := by decide +kernel
theorem dL_goodChains_17 : decode cL_goodChains 17 = .ok (.astore 4, 2) := by decide +kernel
theorem dL_goodChains_19 : decode cL_goodChains 19 = .ok (.iconst 2, 1) := by decide +kernel
theorem dL_goodChains_20 : decode cL_goodChains 20 = .ok (.ireturn, 1) := by decide +kernel
theorem dL_goodChains_21 : decode cL_goodChains 21 = .ok (.iconst 0, 1) := by decide +kernel
theorem dL_goodChains_22 : decode cL_goodChains 22 = .ok (.ireturn, 1) := by decide +kernel
theorem dL_goodChainsByWalks_0 : decode cL_goodChainsByWalks 0 = .ok (.aload_n 3, 1) := by decide +kernel
theorem dL_goodChainsByWalks_1 : decode cL_goodChainsByWalks 1 = .ok (.iconst 0, 1) := by decide +kernel
theorem dL_goodChainsByWalks_2 : decode cL_goodChainsByWalks 2 = .ok (.aload_n 0, 1) := by decide +kernel
theorem dL_goodChainsByWalks_3 : decode cL_goodChainsByWalks 3 = .ok (.iload_n 1, 1) := by decide +kernel
theorem dL_goodChainsByWalks_4 : decode cL_goodChainsByWalks 4 = .ok (.iload_n 2, 1) := by decide +kernel
theorem dL_goodChainsByWalks_5 : decode cL_goodChainsByWalks 5 = .ok (.invokevirtual 90, 3) := by decide +kernel
theorem dL_goodChainsByWalks_8 : decode cL_goodChainsByWalks 8 = .ok (.i2l, 1) := by decide +kernel
theorem dL_goodChainsByWalks_9 : decode cL_goodChainsByWalks 9 = .ok (.lastore, 1) := by decide +kernel
theorem dL_goodChainsByWalks_10 : decode cL_goodChainsByWalks 10 = .ok (.goto 11, 3) := by decide +kernel
theorem dL_goodChainsByWalks_13 : decode cL_goodChainsByWalks 13 = .ok (.astore 4, 2) := by decide +kernel
theorem dL_goodChainsByWalks_15 : decode cL_goodChainsByWalks 15 = .ok (.iconst 1, 1) := by decide +kernel
theorem dL_goodChainsByWalks_16 : decode cL_goodChainsByWalks 16 = .ok (.ireturn, 1) := by decide +kernel
theorem dL_goodChainsByWalks_17 : decode cL_goodChainsByWalks 17 = .ok (.astore 4, 2) := by decide +kernel
theorem dL_goodChainsByWalks_19 : decode cL_goodChainsByWalks 19 = .ok (.iconst 2, 1) := by decide +kernel
theorem dL_goodChainsByWalks_20 : decode cL_goodChainsByWalks 20 = .ok (.ireturn, 1) := by decide +kernel
theorem dL_goodChainsByWalks_21 : decode cL_goodChainsByWalks 21 = .ok (.iconst 0, 1) := by decide +kernel
theorem dL_goodChainsByWalks_22 : decode cL_goodChainsByWalks 22 = .ok (.ireturn, 1) := by decide +kernel
theorem dL_begin_0 : decode cL_begin 0 = .ok (.aload_n 3, 1) := by decide +kernel
theorem dL_begin_1 : decode cL_begin 1 = .ok (.iconst 0, 1) := by decide +kernel
theorem dL_begin_2 : decode cL_begin 2 = .ok (.aload_n 0, 1) := by decide +kernel
theorem dL_begin_3 : decode cL_begin 3 = .ok (.iload_n 1, 1) := by decide +kernel
theorem dL_begin_4 : decode cL_begin 4 = .ok (.iload_n 2, 1) := by decide +kernel
theorem dL_begin_5 : decode cL_begin 5 = .ok (.invokevirtual 93, 3) := by decide +kernel
theorem dL_begin_8 : decode cL_begin 8 = .ok (.i2l, 1) := by decide +kernel
theorem dL_begin_9 : decode cL_begin 9 = .ok (.lastore, 1) := by decide +kernel
theorem dL_begin_10 : decode cL_begin 10 = .ok (.goto 11, 3) := by decide +kernel
theorem dL_begin_13 : decode cL_begin 13 = .ok (.astore 4, 2) := by decide +kernel
theorem dL_begin_15 : decode cL_begin 15 = .ok (.iconst 1, 1) := by decide +kernel
theorem dL_begin_16 : decode cL_begin 16 = .ok (.ireturn, 1) := by decide +kernel
theorem dL_begin_17 : decode cL_begin 17 = .ok (.astore 4, 2) := by decide +kernel
theorem dL_begin_19 : decode cL_begin 19 = .ok (.iconst 2, 1) := by decide +kernel
theorem dL_begin_20 : decode cL_begin 20 = .ok (.ireturn, 1) := by decide +kernel
theorem dL_begin_21 : decode cL_begin 21 = .ok (.iconst 0, 1) := by decide +kernel
theorem dL_begin_22 : decode cL_begin 22 = .ok (.ireturn, 1) := by decide +kernel
theorem dL_step_0 : decode cL_step 0 = .ok (.aload_n 2, 1) := by decide +kernel
theorem dL_step_1 : decode cL_step 1 = .ok (.iconst 0, 1) := by decide +kernel
theorem dL_step_2 : decode cL_step 2 = .ok (.aload_n 0, 1) := by decide +kernel
theorem dL_step_3 : decode cL_step 3 = .ok (.iload_n 1, 1) := by decide +kernel
theorem dL_step_4 : decode cL_step 4 = .ok (.invokevirtual 97, 3) := by decide +kernel
theorem dL_step_7 : decode cL_step 7 = .ok (.i2l, 1) := by decide +kernel
theorem dL_step_8 : decode cL_step 8 = .ok (.lastore, 1) := by decide +kernel
theorem dL_step_9 : decode cL_step 9 = .ok (.goto 9, 3) := by decide +kernel
theorem dL_step_12 : decode cL_step 12 = .ok (.astore_n 3, 1) := by decide +kernel
theorem dL_step_13 : decode cL_step 13 = .ok (.iconst 1, 1) := by decide +kernel
theorem dL_step_14 : decode cL_step 14 = .ok (.ireturn, 1) := by decide +kernel
theorem dL_step_15 : decode cL_step 15 = .ok (.astore_n 3, 1) := by decide +kernel
theorem dL_step_16 : decode cL_step 16 = .ok (.iconst 2, 1) := by decide +kernel
theorem dL_step_17 : decode cL_step 17 = .ok (.ireturn, 1) := by decide +kernel
theorem dL_step_18 : decode cL_step 18 = .ok (.iconst 0, 1) := by decide +kernel
theorem dL_step_19 : decode cL_step 19 = .ok (.ireturn, 1) := by decide +kernel
theorem dL_reached_0 : decode cL_reached 0 = .ok (.aload_n 1, 1) := by decide +kernel
theorem dL_reached_1 : decode cL_reached 1 = .ok (.iconst 0, 1) := by decide +kernel
theorem dL_reached_2 : decode cL_reached 2 = .ok (.aload_n 0, 1) := by decide +kernel
theorem dL_reached_3 : decode cL_reached 3 = .ok (.invokevirtual 100, 3) := by decide +kernel
theorem dL_reached_6 : decode cL_reached 6 = .ok (.i2l, 1) := by decide +kernel
theorem dL_reached_7 : decode cL_reached 7 = .ok (.lastore, 1) := by decide +kernel
theorem dL_reached_8 : decode cL_reached 8 = .ok (.goto 6, 3) := by decide +kernel
theorem dL_reached_11 : decode cL_reached 11 = .ok (.astore_n 2, 1) := by decide +kernel
theorem dL_reached_12 : decode cL_reached 12 = .ok (.iconst 1, 1) := by decide +kernel
theorem dL_reached_13 : decode cL_reached 13 = .ok (.ireturn, 1) := by decide +kernel
theorem dL_reached_14 : decode cL_reached 14 = .ok (.iconst 0, 1) := by decide +kernel
theorem dL_reached_15 : decode cL_reached 15 = .ok (.ireturn, 1) := by decide +kernel
theorem dL_rootOf_0 : decode cL_rootOf 0 = .ok (.aload_n 2, 1) := by decide +kernel
theorem dL_rootOf_1 : decode cL_rootOf 1 = .ok (.iconst 0, 1) := by decide +kernel
theorem dL_rootOf_2 : decode cL_rootOf 2 = .ok (.aload_n 0, 1) := by decide +kernel
theorem dL_rootOf_3 : decode cL_rootOf 3 = .ok (.iload_n 1, 1) := by decide +kernel
theorem dL_rootOf_4 : decode cL_rootOf 4 = .ok (.invokevirtual 104, 3) := by decide +kernel
theorem dL_rootOf_7 : decode cL_rootOf 7 = .ok (.lastore, 1) := by decide +kernel
theorem dL_rootOf_8 : decode cL_rootOf 8 = .ok (.goto 6, 3) := by decide +kernel
theorem dL_rootOf_11 : decode cL_rootOf 11 = .ok (.astore_n 3, 1) := by decide +kernel
theorem dL_rootOf_12 : decode cL_rootOf 12 = .ok (.iconst 1, 1) := by decide +kernel
theorem dL_rootOf_13 : decode cL_rootOf 13 = .ok (.ireturn, 1) := by decide +kernel
theorem dL_rootOf_14 : decode cL_rootOf 14 = .ok (.iconst 0, 1) := by decide +kernel
theorem dL_rootOf_15 : decode cL_rootOf 15 = .ok (.ireturn, 1) := by decide +kernel
theorem dL_rootByJoining_0 : decode cL_rootByJoining 0 = .ok (.aload_n 2, 1) := by decide +kernel
theorem dL_rootByJoining_1 : decode cL_rootByJoining 1 = .ok (.iconst 0, 1) := by decide +kernel
theorem dL_rootByJoining_2 : decode cL_rootByJoining 2 = .ok (.aload_n 0, 1) := by decide +kernel
theorem dL_rootByJoining_3 : decode cL_rootByJoining 3 = .ok (.iload_n 1, 1) := by decide +kernel
theorem dL_rootByJoining_4 : decode cL_rootByJoining 4 = .ok (.invokevirtual 108, 3) := by decide +kernel
theorem dL_rootByJoining_7 : decode cL_rootByJoining 7 = .ok (.lastore, 1) := by decide +kernel
theorem dL_rootByJoining_8 : decode cL_rootByJoining 8 = .ok (.goto 6, 3) := by decide +kernel
theorem dL_rootByJoining_11 : decode cL_rootByJoining 11 = .ok (.astore_n 3, 1) := by decide +kernel
theorem dL_rootByJoining_12 : decode cL_rootByJoining 12 = .ok (.iconst 1, 1) := by decide +kernel
theorem dL_rootByJoining_13 : decode cL_rootByJoining 13 = .ok (.ireturn, 1) := by decide +kernel
theorem dL_rootByJoining_14 : decode cL_rootByJoining 14 = .ok (.iconst 0, 1) := by decide +kernel
theorem dL_rootByJoining_15 : decode cL_rootByJoining 15 = .ok (.ireturn, 1) := by decide +kernel
theorem dL_proofSize_0 : decode cL_proofSize 0 = .ok (.aload_n 3, 1) := by decide +kernel
theorem dL_proofSize_1 : decode cL_proofSize 1 = .ok (.iconst 0, 1) := by decide +kernel
theorem dL_proofSize_2 : decode cL_proofSize 2 = .ok (.aload_n 0, 1) := by decide +kernel
theorem dL_proofSize_3 : decode cL_proofSize 3 = .ok (.iload_n 1, 1) := by decide +kernel
theorem dL_proofSize_4 : decode cL_proofSize 4 = .ok (.iload_n 2, 1) := by decide +kernel
theorem dL_proofSize_5 : decode cL_proofSize 5 = .ok (.invokevirtual 111, 3) := by decide +kernel
theorem dL_proofSize_8 : decode cL_proofSize 8 = .ok (.i2l, 1) := by decide +kernel
theorem dL_proofSize_9 : decode cL_proofSize 9 = .ok (.lastore, 1) := by decide +kernel
theorem dL_proofSize_10 : decode cL_proofSize 10 = .ok (.goto 11, 3) := by decide +kernel
theorem dL_proofSize_13 : decode cL_proofSize 13 = .ok (.astore 4, 2) := by decide +kernel
theorem dL_proofSize_15 : decode cL_proofSize 15 = .ok (.iconst 1, 1) := by decide +kernel
theorem dL_proofSize_16 : decode cL_proofSize 16 = .ok (.ireturn, 1) := by decide +kernel
theorem dL_proofSize_17 : decode cL_proofSize 17 = .ok (.astore 4, 2) := by decide +kernel
theorem dL_proofSize_19 : decode cL_proofSize 19 = .ok (.iconst 2, 1) := by decide +kernel
theorem dL_proofSize_20 : decode cL_proofSize 20 = .ok (.ireturn, 1) := by decide +kernel
theorem dL_proofSize_21 : decode cL_proofSize 21 = .ok (.iconst 0, 1) := by decide +kernel
theorem dL_proofSize_22 : decode cL_proofSize 22 = .ok (.ireturn, 1) := by decide +kernel
theorem dL_proofAt_0 : decode cL_proofAt 0 = .ok (.aload 4, 2) := by decide +kernel
theorem dL_proofAt_2 : decode cL_proofAt 2 = .ok (.iconst 0, 1) := by decide +kernel
theorem dL_proofAt_3 : decode cL_proofAt 3 = .ok (.aload_n 0, 1) := by decide +kernel
theorem dL_proofAt_4 : decode cL_proofAt 4 = .ok (.iload_n 1, 1) := by decide +kernel
theorem dL_proofAt_5 : decode cL_proofAt 5 = .ok (.iload_n 2, 1) := by decide +kernel
theorem dL_proofAt_6 : decode cL_proofAt 6 = .ok (.iload_n 3, 1) := by decide +kernel
theorem dL_proofAt_7 : decode cL_proofAt 7 = .ok (.invokevirtual 114, 3) := by decide +kernel
theorem dL_proofAt_10 : decode cL_proofAt 10 = .ok (.lastore, 1) := by decide +kernel
theorem dL_proofAt_11 : decode cL_proofAt 11 = .ok (.goto 11, 3) := by decide +kernel
theorem dL_proofAt_14 : decode cL_proofAt 14 = .ok (.astore 5, 2) := by decide +kernel
theorem dL_proofAt_16 : decode cL_proofAt 16 = .ok (.iconst 1, 1) := by decide +kernel
theorem dL_proofAt_17 : decode cL_proofAt 17 = .ok (.ireturn, 1) := by decide +kernel
theorem dL_proofAt_18 : decode cL_proofAt 18 = .ok (.astore 5, 2) := by decide +kernel
theorem dL_proofAt_20 : decode cL_proofAt 20 = .ok (.iconst 2, 1) := by decide +kernel
theorem dL_proofAt_21 : decode cL_proofAt 21 = .ok (.ireturn, 1) := by decide +kernel
theorem dL_proofAt_22 : decode cL_proofAt 22 = .ok (.iconst 0, 1) := by decide +kernel
theorem dL_proofAt_23 : decode cL_proofAt 23 = .ok (.ireturn, 1) := by decide +kernel
theorem dL_rootByProof_0 : decode cL_rootByProof 0 = .ok (.aload_n 3, 1) := by decide +kernel
theorem dL_rootByProof_1 : decode cL_rootByProof 1 = .ok (.iconst 0, 1) := by decide +kernel
theorem dL_rootByProof_2 : decode cL_rootByProof 2 = .ok (.aload_n 0, 1) := by decide +kernel
theorem dL_rootByProof_3 : decode cL_rootByProof 3 = .ok (.iload_n 1, 1) := by decide +kernel
theorem dL_rootByProof_4 : decode cL_rootByProof 4 = .ok (.iload_n 2, 1) := by decide +kernel
theorem dL_rootByProof_5 : decode cL_rootByProof 5 = .ok (.invokevirtual 118, 3) := by decide +kernel
theorem dL_rootByProof_8 : decode cL_rootByProof 8 = .ok (.lastore, 1) := by decide +kernel
theorem dL_rootByProof_9 : decode cL_rootByProof 9 = .ok (.goto 11, 3) := by decide +kernel
theorem dL_rootByProof_12 : decode cL_rootByProof 12 = .ok (.astore 4, 2) := by decide +kernel
theorem dL_rootByProof_14 : decode cL_rootByProof 14 = .ok (.iconst 1, 1) := by decide +kernel
theorem dL_rootByProof_15 : decode cL_rootByProof 15 = .ok (.ireturn, 1) := by decide +kernel
theorem dL_rootByProof_16 : decode cL_rootByProof 16 = .ok (.astore 4, 2) := by decide +kernel
theorem dL_rootByProof_18 : decode cL_rootByProof 18 = .ok (.iconst 2, 1) := by decide +kernel
theorem dL_rootByProof_19 : decode cL_rootByProof 19 = .ok (.ireturn, 1) := by decide +kernel
theorem dL_rootByProof_20 : decode cL_rootByProof 20 = .ok (.iconst 0, 1) := by decide +kernel
theorem dL_rootByProof_21 : decode cL_rootByProof 21 = .ok (.ireturn, 1) := by decide +kernel
theorem dL_growthSize_0 : decode cL_growthSize 0 = .ok (.aload_n 3, 1) := by decide +kernel
theorem dL_growthSize_1 : decode cL_growthSize 1 = .ok (.iconst 0, 1) := by decide +kernel
theorem dL_growthSize_2 : decode cL_growthSize 2 = .ok (.aload_n 0, 1) := by decide +kernel
theorem dL_growthSize_3 : decode cL_growthSize 3 = .ok (.iload_n 1, 1) := by decide +kernel
theorem dL_growthSize_4 : decode cL_growthSize 4 = .ok (.iload_n 2, 1) := by decide +kernel
theorem dL_growthSize_5 : decode cL_growthSize 5 = .ok (.invokevirtual 122, 3) := by decide +kernel
theorem dL_growthSize_8 : decode cL_growthSize 8 = .ok (.i2l, 1) := by decide +kernel
theorem dL_growthSize_9 : decode cL_growthSize 9 = .ok (.lastore, 1) := by decide +kernel
theorem dL_growthSize_10 : decode cL_growthSize 10 = .ok (.goto 11, 3) := by decide +kernel
theorem dL_growthSize_13 : decode cL_growthSize 13 = .ok (.astore 4, 2) := by decide +kernel
theorem dL_growthSize_15 : decode cL_growthSize 15 = .ok (.iconst 1, 1) := by decide +kernel
theorem dL_growthSize_16 : decode cL_growthSize 16 = .ok (.ireturn, 1) := by decide +kernel
theorem dL_growthSize_17 : decode cL_growthSize 17 = .ok (.astore 4, 2) := by decide +kernel
theorem dL_growthSize_19 : decode cL_growthSize 19 = .ok (.iconst 2, 1) := by decide +kernel
theorem dL_growthSize_20 : decode cL_growthSize 20 = .ok (.ireturn, 1) := by decide +kernel
theorem dL_growthSize_21 : decode cL_growthSize 21 = .ok (.iconst 0, 1) := by decide +kernel
theorem dL_growthSize_22 : decode cL_growthSize 22 = .ok (.ireturn, 1) := by decide +kernel
theorem dL_growthAt_0 : decode cL_growthAt 0 = .ok (.aload 4, 2) := by decide +kernel
theorem dL_growthAt_2 : decode cL_growthAt 2 = .ok (.iconst 0, 1) := by decide +kernel
theorem dL_growthAt_3 : decode cL_growthAt 3 = .ok (.aload_n 0, 1) := by decide +kernel
theorem dL_growthAt_4 : decode cL_growthAt 4 = .ok (.iload_n 1, 1) := by decide +kernel
theorem dL_growthAt_5 : decode cL_growthAt 5 = .ok (.iload_n 2, 1) := by decide +kernel
theorem dL_growthAt_6 : decode cL_growthAt 6 = .ok (.iload_n 3, 1) := by decide +kernel
theorem dL_growthAt_7 : decode cL_growthAt 7 = .ok (.invokevirtual 125, 3) := by decide +kernel
theorem dL_growthAt_10 : decode cL_growthAt 10 = .ok (.lastore, 1) := by decide +kernel
theorem dL_growthAt_11 : decode cL_growthAt 11 = .ok (.goto 11, 3) := by decide +kernel
theorem dL_growthAt_14 : decode cL_growthAt 14 = .ok (.astore 5, 2) := by decide +kernel
theorem dL_growthAt_16 : decode cL_growthAt 16 = .ok (.iconst 1, 1) := by decide +kernel
theorem dL_growthAt_17 : decode cL_growthAt 17 = .ok (.ireturn, 1) := by decide +kernel
theorem dL_growthAt_18 : decode cL_growthAt 18 = .ok (.astore 5, 2) := by decide +kernel
theorem dL_growthAt_20 : decode cL_growthAt 20 = .ok (.iconst 2, 1) := by decide +kernel
theorem dL_growthAt_21 : decode cL_growthAt 21 = .ok (.ireturn, 1) := by decide +kernel
theorem dL_growthAt_22 : decode cL_growthAt 22 = .ok (.iconst 0, 1) := by decide +kernel
theorem dL_growthAt_23 : decode cL_growthAt 23 = .ok (.ireturn, 1) := by decide +kernel
theorem dL_soundShare_0 : decode cL_soundShare 0 = .ok (.aload_n 1, 1) := by decide +kernel
theorem dL_soundShare_1 : decode cL_soundShare 1 = .ok (.iconst 0, 1) := by decide +kernel
theorem dL_soundShare_2 : decode cL_soundShare 2 = .ok (.aload_n 0, 1) := by decide +kernel
theorem dL_soundShare_3 : decode cL_soundShare 3 = .ok (.invokevirtual 128, 3) := by decide +kernel
theorem dL_soundShare_6 : decode cL_soundShare 6 = .ok (.f2d, 1) := by decide +kernel
theorem dL_soundShare_7 : decode cL_soundShare 7 = .ok (.dastore, 1) := by decide +kernel
theorem dL_soundShare_8 : decode cL_soundShare 8 = .ok (.goto 6, 3) := by decide +kernel
theorem dL_soundShare_11 : decode cL_soundShare 11 = .ok (.astore_n 2, 1) := by decide +kernel
theorem dL_soundShare_12 : decode cL_soundShare 12 = .ok (.iconst 1, 1) := by decide +kernel
theorem dL_soundShare_13 : decode cL_soundShare 13 = .ok (.ireturn, 1) := by decide +kernel
theorem dL_soundShare_14 : decode cL_soundShare 14 = .ok (.iconst 0, 1) := by decide +kernel
theorem dL_soundShare_15 : decode cL_soundShare 15 = .ok (.ireturn, 1) := by decide +kernel
theorem dL_meanChain_0 : decode cL_meanChain 0 = .ok (.aload_n 1, 1) := by decide +kernel
theorem dL_meanChain_1 : decode cL_meanChain 1 = .ok (.iconst 0, 1) := by decide +kernel
theorem dL_meanChain_2 : decode cL_meanChain 2 = .ok (.aload_n 0, 1) := by decide +kernel
theorem dL_meanChain_3 : decode cL_meanChain 3 = .ok (.invokevirtual 134, 3) := by decide +kernel
theorem dL_meanChain_6 : decode cL_meanChain 6 = .ok (.dastore, 1) := by decide +kernel
theorem dL_meanChain_7 : decode cL_meanChain 7 = .ok (.goto 6, 3) := by decide +kernel
theorem dL_meanChain_10 : decode cL_meanChain 10 = .ok (.astore_n 2, 1) := by decide +kernel
theorem dL_meanChain_11 : decode cL_meanChain 11 = .ok (.iconst 1, 1) := by decide +kernel
theorem dL_meanChain_12 : decode cL_meanChain 12 = .ok (.ireturn, 1) := by decide +kernel
theorem dL_meanChain_13 : decode cL_meanChain 13 = .ok (.iconst 0, 1) := by decide +kernel
theorem dL_meanChain_14 : decode cL_meanChain 14 = .ok (.ireturn, 1) := by decide +kernel
