theorem dX1_init_0 : decode cX1_init 0 = .ok (.aload_n 0, 1) := by decide +kernel
theorem dX1_init_1 : decode cX1_init 1 = .ok (.invokespecial 3, 3) := by decide +kernel
theorem dX1_init_4 : decode cX1_init 4 = .ok (.aload_n 0, 1) := by decide +kernel
theorem dX1_init_5 : decode cX1_init 5 = .ok (.bipush 6, 2) := by decide +kernel
theorem dX1_init_7 : decode cX1_init 7 = .ok (.newarray .int, 2) := by decide +kernel
theorem dX1_init_9 : decode cX1_init 9 = .ok (.putfield 9, 3) := by decide +kernel
theorem dX1_init_12 : decode cX1_init 12 = .ok (.aload_n 0, 1) := by decide +kernel
theorem dX1_init_13 : decode cX1_init 13 = .ok (.bipush 6, 2) := by decide +kernel
theorem dX1_init_15 : decode cX1_init 15 = .ok (.newarray .int, 2) := by decide +kernel
theorem dX1_init_17 : decode cX1_init 17 = .ok (.putfield 15, 3) := by decide +kernel
theorem dX1_init_20 : decode cX1_init 20 = .ok (.aload_n 0, 1) := by decide +kernel
theorem dX1_init_21 : decode cX1_init 21 = .ok (.bipush 10, 2) := by decide +kernel
theorem dX1_init_23 : decode cX1_init 23 = .ok (.newarray .int, 2) := by decide +kernel
theorem dX1_init_25 : decode cX1_init 25 = .ok (.putfield 18, 3) := by decide +kernel
theorem dX1_init_28 : decode cX1_init 28 = .ok (.aload_n 0, 1) := by decide +kernel
theorem dX1_init_29 : decode cX1_init 29 = .ok (.aload_n 1, 1) := by decide +kernel
theorem dX1_init_30 : decode cX1_init 30 = .ok (.putfield 21, 3) := by decide +kernel
theorem dX1_init_33 : decode cX1_init 33 = .ok (.aload_n 0, 1) := by decide +kernel
theorem dX1_init_34 : decode cX1_init 34 = .ok (.aload_n 2, 1) := by decide +kernel
theorem dX1_init_35 : decode cX1_init 35 = .ok (.putfield 25, 3) := by decide +kernel
theorem dX1_init_38 : decode cX1_init 38 = .ok (.return_, 1) := by decide +kernel
theorem dX1_gather_0 : decode cX1_gather 0 = .ok (.iconst 0, 1) := by decide +kernel
theorem dX1_gather_1 : decode cX1_gather 1 = .ok (.istore 4, 2) := by decide +kernel
theorem dX1_gather_3 : decode cX1_gather 3 = .ok (.iload 4, 2) := by decide +kernel
theorem dX1_gather_5 : decode cX1_gather 5 = .ok (.aload_n 0, 1) := by decide +kernel
theorem dX1_gather_6 : decode cX1_gather 6 = .ok (.getfield 21, 3) := by decide +kernel
theorem dX1_gather_9 : decode cX1_gather 9 = .ok (.getfield 29, 3) := by decide +kernel
theorem dX1_gather_12 : decode cX1_gather 12 = .ok (.if_icmp .ge 109, 3) := by decide +kernel
theorem dX1_gather_15 : decode cX1_gather 15 = .ok (.iload_n 2, 1) := by decide +kernel
theorem dX1_gather_16 : decode cX1_gather 16 = .ok (.ifCond .eq 80, 3) := by decide +kernel
theorem dX1_gather_19 : decode cX1_gather 19 = .ok (.aload_n 0, 1) := by decide +kernel
theorem dX1_gather_20 : decode cX1_gather 20 = .ok (.getfield 25, 3) := by decide +kernel
theorem dX1_gather_23 : decode cX1_gather 23 = .ok (.aload_n 0, 1) := by decide +kernel
theorem dX1_gather_24 : decode cX1_gather 24 = .ok (.getfield 21, 3) := by decide +kernel
theorem dX1_gather_27 : decode cX1_gather 27 = .ok (.aload_n 0, 1) := by decide +kernel
theorem dX1_gather_28 : decode cX1_gather 28 = .ok (.getfield 21, 3) := by decide +kernel
theorem dX1_gather_31 : decode cX1_gather 31 = .ok (.getfield 35, 3) := by decide +kernel
theorem dX1_gather_34 : decode cX1_gather 34 = .ok (.iload 4, 2) := by decide +kernel
theorem dX1_gather_36 : decode cX1_gather 36 = .ok (.invokestatic 38, 3) := by decide +kernel
theorem dX1_gather_39 : decode cX1_gather 39 = .ok (.aload_n 0, 1) := by decide +kernel
theorem dX1_gather_40 : decode cX1_gather 40 = .ok (.getfield 21, 3) := by decide +kernel
theorem dX1_gather_43 : decode cX1_gather 43 = .ok (.getfield 42, 3) := by decide +kernel
theorem dX1_gather_46 : decode cX1_gather 46 = .ok (.iload 4, 2) := by decide +kernel
theorem dX1_gather_48 : decode cX1_gather 48 = .ok (.invokestatic 38, 3) := by decide +kernel
theorem dX1_gather_51 : decode cX1_gather 51 = .ok (.iload_n 1, 1) := by decide +kernel
theorem dX1_gather_52 : decode cX1_gather 52 = .ok (.invokevirtual 45, 3) := by decide +kernel
theorem dX1_gather_55 : decode cX1_gather 55 = .ok (.aload_n 0, 1) := by decide +kernel
theorem dX1_gather_56 : decode cX1_gather 56 = .ok (.iload 4, 2) := by decide +kernel
theorem dX1_gather_58 : decode cX1_gather 58 = .ok (.aload_n 0, 1) := by decide +kernel
theorem dX1_gather_59 : decode cX1_gather 59 = .ok (.getfield 25, 3) := by decide +kernel
theorem dX1_gather_62 : decode cX1_gather 62 = .ok (.iload_n 3, 1) := by decide +kernel
theorem dX1_gather_63 : decode cX1_gather 63 = .ok (.aload_n 0, 1) := by decide +kernel
theorem dX1_gather_64 : decode cX1_gather 64 = .ok (.getfield 21, 3) := by decide +kernel
theorem dX1_gather_67 : decode cX1_gather 67 = .ok (.getfield 51, 3) := by decide +kernel
theorem dX1_gather_70 : decode cX1_gather 70 = .ok (.iload 4, 2) := by decide +kernel
theorem dX1_gather_72 : decode cX1_gather 72 = .ok (.invokestatic 38, 3) := by decide +kernel
theorem dX1_gather_75 : decode cX1_gather 75 = .ok (.aload_n 0, 1) := by decide +kernel
theorem dX1_gather_76 : decode cX1_gather 76 = .ok (.getfield 21, 3) := by decide +kernel
theorem dX1_gather_79 : decode cX1_gather 79 = .ok (.getfield 54, 3) := by decide +kernel
theorem dX1_gather_82 : decode cX1_gather 82 = .ok (.iload 4, 2) := by decide +kernel
theorem dX1_gather_84 : decode cX1_gather 84 = .ok (.invokestatic 38, 3) := by decide +kernel
theorem dX1_gather_87 : decode cX1_gather 87 = .ok (.invokevirtual 57, 3) := by decide +kernel
theorem dX1_gather_90 : decode cX1_gather 90 = .ok (.invokevirtual 61, 3) := by decide +kernel
theorem dX1_gather_93 : decode cX1_gather 93 = .ok (.goto 22, 3) := by decide +kernel
theorem dX1_gather_96 : decode cX1_gather 96 = .ok (.aload_n 0, 1) := by decide +kernel
theorem dX1_gather_97 : decode cX1_gather 97 = .ok (.iload 4, 2) := by decide +kernel
theorem dX1_gather_99 : decode cX1_gather 99 = .ok (.aload_n 0, 1) := by decide +kernel
theorem dX1_gather_100 : decode cX1_gather 100 = .ok (.getfield 21, 3) := by decide +kernel
theorem dX1_gather_103 : decode cX1_gather 103 = .ok (.getfield 35, 3) := by decide +kernel
theorem dX1_gather_106 : decode cX1_gather 106 = .ok (.iload 4, 2) := by decide +kernel
theorem dX1_gather_108 : decode cX1_gather 108 = .ok (.invokestatic 38, 3) := by decide +kernel
theorem dX1_gather_111 : decode cX1_gather 111 = .ok (.iload_n 1, 1) := by decide +kernel
theorem dX1_gather_112 : decode cX1_gather 112 = .ok (.invokevirtual 65, 3) := by decide +kernel
theorem dX1_gather_115 : decode cX1_gather 115 = .ok (.iinc 4 1, 3) := by decide +kernel
theorem dX1_gather_118 : decode cX1_gather 118 = .ok (.goto (-115), 3) := by decide +kernel
theorem dX1_gather_121 : decode cX1_gather 121 = .ok (.return_, 1) := by decide +kernel
theorem dX1_ask_0 : decode cX1_ask 0 = .ok (.aload_n 0, 1) := by decide +kernel
theorem dX1_ask_1 : decode cX1_ask 1 = .ok (.getfield 25, 3) := by decide +kernel
theorem dX1_ask_4 : decode cX1_ask 4 = .ok (.aload_n 0, 1) := by decide +kernel
theorem dX1_ask_5 : decode cX1_ask 5 = .ok (.getfield 21, 3) := by decide +kernel
theorem dX1_ask_8 : decode cX1_ask 8 = .ok (.iload_n 2, 1) := by decide +kernel
theorem dX1_ask_9 : decode cX1_ask 9 = .ok (.aload_n 0, 1) := by decide +kernel
theorem dX1_ask_10 : decode cX1_ask 10 = .ok (.getfield 21, 3) := by decide +kernel
theorem dX1_ask_13 : decode cX1_ask 13 = .ok (.getfield 42, 3) := by decide +kernel
theorem dX1_ask_16 : decode cX1_ask 16 = .ok (.iload_n 1, 1) := by decide +kernel
theorem dX1_ask_17 : decode cX1_ask 17 = .ok (.invokestatic 38, 3) := by decide +kernel
theorem dX1_ask_20 : decode cX1_ask 20 = .ok (.iload_n 3, 1) := by decide +kernel
theorem dX1_ask_21 : decode cX1_ask 21 = .ok (.invokevirtual 45, 3) := by decide +kernel
theorem dX1_ask_24 : decode cX1_ask 24 = .ok (.aload_n 0, 1) := by decide +kernel
theorem dX1_ask_25 : decode cX1_ask 25 = .ok (.iload_n 1, 1) := by decide +kernel
theorem dX1_ask_26 : decode cX1_ask 26 = .ok (.aload_n 0, 1) := by decide +kernel
theorem dX1_ask_27 : decode cX1_ask 27 = .ok (.getfield 25, 3) := by decide +kernel
theorem dX1_ask_30 : decode cX1_ask 30 = .ok (.aload_n 0, 1) := by decide +kernel
theorem dX1_ask_31 : decode cX1_ask 31 = .ok (.getfield 21, 3) := by decide +kernel
theorem dX1_ask_34 : decode cX1_ask 34 = .ok (.getfield 69, 3) := by decide +kernel
theorem dX1_ask_37 : decode cX1_ask 37 = .ok (.iload_n 1, 1) := by decide +kernel
theorem dX1_ask_38 : decode cX1_ask 38 = .ok (.invokestatic 38, 3) := by decide +kernel
theorem dX1_ask_41 : decode cX1_ask 41 = .ok (.aload_n 0, 1) := by decide +kernel
theorem dX1_ask_42 : decode cX1_ask 42 = .ok (.getfield 21, 3) := by decide +kernel
theorem dX1_ask_45 : decode cX1_ask 45 = .ok (.getfield 51, 3) := by decide +kernel
theorem dX1_ask_48 : decode cX1_ask 48 = .ok (.iload_n 1, 1) := by decide +kernel
theorem dX1_ask_49 : decode cX1_ask 49 = .ok (.invokestatic 38, 3) := by decide +kernel
theorem dX1_ask_52 : decode cX1_ask 52 = .ok (.invokevirtual 72, 3) := by decide +kernel
theorem dX1_ask_55 : decode cX1_ask 55 = .ok (.invokevirtual 61, 3) := by decide +kernel
theorem dX1_ask_58 : decode cX1_ask 58 = .ok (.return_, 1) := by decide +kernel
theorem dX1_hear_0 : decode cX1_hear 0 = .ok (.aload_n 0, 1) := by decide +kernel
theorem dX1_hear_1 : decode cX1_hear 1 = .ok (.getfield 9, 3) := by decide +kernel
theorem dX1_hear_4 : decode cX1_hear 4 = .ok (.iload_n 1, 1) := by decide +kernel
theorem dX1_hear_5 : decode cX1_hear 5 = .ok (.iload_n 2, 1) := by decide +kernel
theorem dX1_hear_6 : decode cX1_hear 6 = .ok (.ifCond .le 14, 3) := by decide +kernel
theorem dX1_hear_9 : decode cX1_hear 9 = .ok (.aload_n 0, 1) := by decide +kernel
theorem dX1_hear_10 : decode cX1_hear 10 = .ok (.getfield 25, 3) := by decide +kernel
theorem dX1_hear_13 : decode cX1_hear 13 = .ok (.iload_n 2, 1) := by decide +kernel
theorem dX1_hear_14 : decode cX1_hear 14 = .ok (.invokevirtual 76, 3) := by decide +kernel
theorem dX1_hear_17 : decode cX1_hear 17 = .ok (.goto 4, 3) := by decide +kernel
theorem dX1_hear_20 : decode cX1_hear 20 = .ok (.iconst (-1), 1) := by decide +kernel
theorem dX1_hear_21 : decode cX1_hear 21 = .ok (.invokestatic 80, 3) := by decide +kernel
theorem dX1_hear_24 : decode cX1_hear 24 = .ok (.aload_n 0, 1) := by decide +kernel
theorem dX1_hear_25 : decode cX1_hear 25 = .ok (.getfield 15, 3) := by decide +kernel
theorem dX1_hear_28 : decode cX1_hear 28 = .ok (.iload_n 1, 1) := by decide +kernel
theorem dX1_hear_29 : decode cX1_hear 29 = .ok (.aload_n 0, 1) := by decide +kernel
theorem dX1_hear_30 : decode cX1_hear 30 = .ok (.getfield 25, 3) := by decide +kernel
theorem dX1_hear_33 : decode cX1_hear 33 = .ok (.iload_n 2, 1) := by decide +kernel
theorem dX1_hear_34 : decode cX1_hear 34 = .ok (.invokevirtual 84, 3) := by decide +kernel
theorem dX1_hear_37 : decode cX1_hear 37 = .ok (.invokestatic 80, 3) := by decide +kernel
theorem dX1_hear_40 : decode cX1_hear 40 = .ok (.return_, 1) := by decide +kernel
theorem dX1_leads_0 : decode cX1_leads 0 = .ok (.aload_n 0, 1) := by decide +kernel
theorem dX1_leads_1 : decode cX1_leads 1 = .ok (.getfield 21, 3) := by decide +kernel
theorem dX1_leads_4 : decode cX1_leads 4 = .ok (.getfield 42, 3) := by decide +kernel
theorem dX1_leads_7 : decode cX1_leads 7 = .ok (.iload_n 1, 1) := by decide +kernel
theorem dX1_leads_8 : decode cX1_leads 8 = .ok (.invokestatic 38, 3) := by decide +kernel
theorem dX1_leads_11 : decode cX1_leads 11 = .ok (.iload_n 2, 1) := by decide +kernel
theorem dX1_leads_12 : decode cX1_leads 12 = .ok (.if_icmp .ne 27, 3) := by decide +kernel
theorem dX1_leads_15 : decode cX1_leads 15 = .ok (.aload_n 0, 1) := by decide +kernel
theorem dX1_leads_16 : decode cX1_leads 16 = .ok (.getfield 9, 3) := by decide +kernel
theorem dX1_leads_19 : decode cX1_leads 19 = .ok (.iload_n 1, 1) := by decide +kernel
theorem dX1_leads_20 : decode cX1_leads 20 = .ok (.invokestatic 38, 3) := by decide +kernel
theorem dX1_leads_23 : decode cX1_leads 23 = .ok (.iconst (-1), 1) := by decide +kernel
theorem dX1_leads_24 : decode cX1_leads 24 = .ok (.if_icmp .eq 15, 3) := by decide +kernel
theorem dX1_leads_27 : decode cX1_leads 27 = .ok (.iload_n 3, 1) := by decide +kernel
theorem dX1_leads_28 : decode cX1_leads 28 = .ok (.iload_n 1, 1) := by decide +kernel
theorem dX1_leads_29 : decode cX1_leads 29 = .ok (.ishr, 1) := by decide +kernel
theorem dX1_leads_30 : decode cX1_leads 30 = .ok (.iconst 1, 1) := by decide +kernel
theorem dX1_leads_31 : decode cX1_leads 31 = .ok (.iand, 1) := by decide +kernel
theorem dX1_leads_32 : decode cX1_leads 32 = .ok (.ifCond .ne 7, 3) := by decide +kernel
theorem dX1_leads_35 : decode cX1_leads 35 = .ok (.iconst 1, 1) := by decide +kernel
theorem dX1_leads_36 : decode cX1_leads 36 = .ok (.goto 4, 3) := by decide +kernel
theorem dX1_leads_39 : decode cX1_leads 39 = .ok (.iconst 0, 1) := by decide +kernel
theorem dX1_leads_40 : decode cX1_leads 40 = .ok (.ireturn, 1) := by decide +kernel
theorem dX1_howMany_0 : decode cX1_howMany 0 = .ok (.iconst 0, 1) := by decide +kernel
theorem dX1_howMany_1 : decode cX1_howMany 1 = .ok (.istore_n 3, 1) := by decide +kernel
theorem dX1_howMany_2 : decode cX1_howMany 2 = .ok (.iconst 0, 1) := by decide +kernel
theorem dX1_howMany_3 : decode cX1_howMany 3 = .ok (.istore 4, 2) := by decide +kernel
theorem dX1_howMany_5 : decode cX1_howMany 5 = .ok (.iload 4, 2) := by decide +kernel
theorem dX1_howMany_7 : decode cX1_howMany 7 = .ok (.aload_n 0, 1) := by decide +kernel
theorem dX1_howMany_8 : decode cX1_howMany 8 = .ok (.getfield 21, 3) := by decide +kernel
theorem dX1_howMany_11 : decode cX1_howMany 11 = .ok (.getfield 29, 3) := by decide +kernel
theorem dX1_howMany_14 : decode cX1_howMany 14 = .ok (.if_icmp .ge 28, 3) := by decide +kernel
theorem dX1_howMany_17 : decode cX1_howMany 17 = .ok (.iload_n 3, 1) := by decide +kernel
theorem dX1_howMany_18 : decode cX1_howMany 18 = .ok (.aload_n 0, 1) := by decide +kernel
theorem dX1_howMany_19 : decode cX1_howMany 19 = .ok (.iload 4, 2) := by decide +kernel
theorem dX1_howMany_21 : decode cX1_howMany 21 = .ok (.iload_n 1, 1) := by decide +kernel
theorem dX1_howMany_22 : decode cX1_howMany 22 = .ok (.iload_n 2, 1) := by decide +kernel
theorem dX1_howMany_23 : decode cX1_howMany 23 = .ok (.invokevirtual 87, 3) := by decide +kernel
theorem dX1_howMany_26 : decode cX1_howMany 26 = .ok (.ifCond .eq 7, 3) := by decide +kernel
theorem dX1_howMany_29 : decode cX1_howMany 29 = .ok (.iconst 1, 1) := by decide +kernel
theorem dX1_howMany_30 : decode cX1_howMany 30 = .ok (.goto 4, 3) := by decide +kernel
theorem dX1_howMany_33 : decode cX1_howMany 33 = .ok (.iconst 0, 1) := by decide +kernel
theorem dX1_howMany_34 : decode cX1_howMany 34 = .ok (.iadd, 1) := by decide +kernel
theorem dX1_howMany_35 : decode cX1_howMany 35 = .ok (.istore_n 3, 1) := by decide +kernel
theorem dX1_howMany_36 : decode cX1_howMany 36 = .ok (.iinc 4 1, 3) := by decide +kernel
theorem dX1_howMany_39 : decode cX1_howMany 39 = .ok (.goto (-34), 3) := by decide +kernel
theorem dX1_howMany_42 : decode cX1_howMany 42 = .ok (.iload_n 3, 1) := by decide +kernel
theorem dX1_howMany_43 : decode cX1_howMany 43 = .ok (.ireturn, 1) := by decide +kernel
theorem dX1_leader_0 : decode cX1_leader 0 = .ok (.iconst 0, 1) := by decide +kernel
theorem dX1_leader_1 : decode cX1_leader 1 = .ok (.istore 4, 2) := by decide +kernel
theorem dX1_leader_3 : decode cX1_leader 3 = .ok (.iconst 0, 1) := by decide +kernel
theorem dX1_leader_4 : decode cX1_leader 4 = .ok (.istore 5, 2) := by decide +kernel
theorem dX1_leader_6 : decode cX1_leader 6 = .ok (.iload 5, 2) := by decide +kernel
theorem dX1_leader_8 : decode cX1_leader 8 = .ok (.aload_n 0, 1) := by decide +kernel
theorem dX1_leader_9 : decode cX1_leader 9 = .ok (.getfield 21, 3) := by decide +kernel
theorem dX1_leader_12 : decode cX1_leader 12 = .ok (.getfield 29, 3) := by decide +kernel
theorem dX1_leader_15 : decode cX1_leader 15 = .ok (.if_icmp .ge 32, 3) := by decide +kernel
theorem dX1_leader_18 : decode cX1_leader 18 = .ok (.aload_n 0, 1) := by decide +kernel
theorem dX1_leader_19 : decode cX1_leader 19 = .ok (.iload 5, 2) := by decide +kernel
theorem dX1_leader_21 : decode cX1_leader 21 = .ok (.iload_n 1, 1) := by decide +kernel
theorem dX1_leader_22 : decode cX1_leader 22 = .ok (.iload_n 2, 1) := by decide +kernel
theorem dX1_leader_23 : decode cX1_leader 23 = .ok (.invokevirtual 87, 3) := by decide +kernel
theorem dX1_leader_26 : decode cX1_leader 26 = .ok (.ifCond .eq 15, 3) := by decide +kernel
theorem dX1_leader_29 : decode cX1_leader 29 = .ok (.iload 4, 2) := by decide +kernel
theorem dX1_leader_31 : decode cX1_leader 31 = .ok (.iload_n 3, 1) := by decide +kernel
theorem dX1_leader_32 : decode cX1_leader 32 = .ok (.if_icmp .ne 6, 3) := by decide +kernel
theorem dX1_leader_35 : decode cX1_leader 35 = .ok (.iload 5, 2) := by decide +kernel
theorem dX1_leader_37 : decode cX1_leader 37 = .ok (.ireturn, 1) := by decide +kernel
theorem dX1_leader_38 : decode cX1_leader 38 = .ok (.iinc 4 1, 3) := by decide +kernel
theorem dX1_leader_41 : decode cX1_leader 41 = .ok (.iinc 5 1, 3) := by decide +kernel
theorem dX1_leader_44 : decode cX1_leader 44 = .ok (.goto (-38), 3) := by decide +kernel
theorem dX1_leader_47 : decode cX1_leader 47 = .ok (.iconst (-1), 1) := by decide +kernel
theorem dX1_leader_48 : decode cX1_leader 48 = .ok (.ireturn, 1) := by decide +kernel
theorem dX1_lead_0 : decode cX1_lead 0 = .ok (.iconst 0, 1) := by decide +kernel
theorem dX1_lead_1 : decode cX1_lead 1 = .ok (.istore 4, 2) := by decide +kernel
theorem dX1_lead_3 : decode cX1_lead 3 = .ok (.aload_n 0, 1) := by decide +kernel
theorem dX1_lead_4 : decode cX1_lead 4 = .ok (.iload_n 1, 1) := by decide +kernel
theorem dX1_lead_5 : decode cX1_lead 5 = .ok (.putfield 91, 3) := by decide +kernel
theorem dX1_lead_8 : decode cX1_lead 8 = .ok (.aload_n 0, 1) := by decide +kernel
theorem dX1_lead_9 : decode cX1_lead 9 = .ok (.iconst 0, 1) := by decide +kernel
theorem dX1_lead_10 : decode cX1_lead 10 = .ok (.putfield 94, 3) := by decide +kernel
theorem dX1_lead_13 : decode cX1_lead 13 = .ok (.aload_n 0, 1) := by decide +kernel
theorem dX1_lead_14 : decode cX1_lead 14 = .ok (.iconst 0, 1) := by decide +kernel
theorem dX1_lead_15 : decode cX1_lead 15 = .ok (.putfield 97, 3) := by decide +kernel
theorem dX1_lead_18 : decode cX1_lead 18 = .ok (.iconst 0, 1) := by decide +kernel
theorem dX1_lead_19 : decode cX1_lead 19 = .ok (.istore 5, 2) := by decide +kernel
theorem dX1_lead_21 : decode cX1_lead 21 = .ok (.iload 5, 2) := by decide +kernel
theorem dX1_lead_23 : decode cX1_lead 23 = .ok (.bipush 6, 2) := by decide +kernel
theorem dX1_lead_25 : decode cX1_lead 25 = .ok (.if_icmp .ge 111, 3) := by decide +kernel
theorem dX1_lead_28 : decode cX1_lead 28 = .ok (.aload_n 0, 1) := by decide +kernel
theorem dX1_lead_29 : decode cX1_lead 29 = .ok (.getfield 91, 3) := by decide +kernel
theorem dX1_lead_32 : decode cX1_lead 32 = .ok (.iload_n 2, 1) := by decide +kernel
theorem dX1_lead_33 : decode cX1_lead 33 = .ok (.if_icmp .eq 103, 3) := by decide +kernel
theorem dX1_lead_36 : decode cX1_lead 36 = .ok (.aload_n 0, 1) := by decide +kernel
theorem dX1_lead_37 : decode cX1_lead 37 = .ok (.aload_n 0, 1) := by decide +kernel
theorem dX1_lead_38 : decode cX1_lead 38 = .ok (.getfield 91, 3) := by decide +kernel
theorem dX1_lead_41 : decode cX1_lead 41 = .ok (.iload 4, 2) := by decide +kernel
theorem dX1_lead_43 : decode cX1_lead 43 = .ok (.invokevirtual 100, 3) := by decide +kernel
theorem dX1_lead_46 : decode cX1_lead 46 = .ok (.istore 6, 2) := by decide +kernel
theorem dX1_lead_48 : decode cX1_lead 48 = .ok (.iload 6, 2) := by decide +kernel
theorem dX1_lead_50 : decode cX1_lead 50 = .ok (.ifCond .ne 4, 3) := by decide +kernel
theorem dX1_lead_53 : decode cX1_lead 53 = .ok (.return_, 1) := by decide +kernel
theorem dX1_lead_54 : decode cX1_lead 54 = .ok (.aload_n 0, 1) := by decide +kernel
theorem dX1_lead_55 : decode cX1_lead 55 = .ok (.aload_n 0, 1) := by decide +kernel
theorem dX1_lead_56 : decode cX1_lead 56 = .ok (.getfield 91, 3) := by decide +kernel
theorem dX1_lead_59 : decode cX1_lead 59 = .ok (.iload 4, 2) := by decide +kernel
theorem dX1_lead_61 : decode cX1_lead 61 = .ok (.aload_n 3, 1) := by decide +kernel
theorem dX1_lead_62 : decode cX1_lead 62 = .ok (.ifnonnull 7, 3) := by decide +kernel
theorem dX1_lead_65 : decode cX1_lead 65 = .ok (.iconst 0, 1) := by decide +kernel
theorem dX1_lead_66 : decode cX1_lead 66 = .ok (.goto 9, 3) := by decide +kernel
theorem dX1_lead_69 : decode cX1_lead 69 = .ok (.aload_n 3, 1) := by decide +kernel
theorem dX1_lead_70 : decode cX1_lead 70 = .ok (.iload 6, 2) := by decide +kernel
theorem dX1_lead_72 : decode cX1_lead 72 = .ok (.invokevirtual 103, 3) := by decide +kernel
theorem dX1_lead_75 : decode cX1_lead 75 = .ok (.invokevirtual 108, 3) := by decide +kernel
theorem dX1_lead_78 : decode cX1_lead 78 = .ok (.istore 7, 2) := by decide +kernel
theorem dX1_lead_80 : decode cX1_lead 80 = .ok (.iload 4, 2) := by decide +kernel
theorem dX1_lead_82 : decode cX1_lead 82 = .ok (.iconst 1, 1) := by decide +kernel
theorem dX1_lead_83 : decode cX1_lead 83 = .ok (.iload 7, 2) := by decide +kernel
theorem dX1_lead_85 : decode cX1_lead 85 = .ok (.ishl, 1) := by decide +kernel
theorem dX1_lead_86 : decode cX1_lead 86 = .ok (.ior, 1) := by decide +kernel
theorem dX1_lead_87 : decode cX1_lead 87 = .ok (.istore 4, 2) := by decide +kernel
theorem dX1_lead_89 : decode cX1_lead 89 = .ok (.aload_n 0, 1) := by decide +kernel
theorem dX1_lead_90 : decode cX1_lead 90 = .ok (.aload_n 0, 1) := by decide +kernel
theorem dX1_lead_91 : decode cX1_lead 91 = .ok (.getfield 9, 3) := by decide +kernel
theorem dX1_lead_94 : decode cX1_lead 94 = .ok (.iload 7, 2) := by decide +kernel
theorem dX1_lead_96 : decode cX1_lead 96 = .ok (.invokestatic 38, 3) := by decide +kernel
theorem dX1_lead_99 : decode cX1_lead 99 = .ok (.putfield 91, 3) := by decide +kernel
theorem dX1_lead_102 : decode cX1_lead 102 = .ok (.aload_n 0, 1) := by decide +kernel
theorem dX1_lead_103 : decode cX1_lead 103 = .ok (.dup, 1) := by decide +kernel
theorem dX1_lead_104 : decode cX1_lead 104 = .ok (.getfield 94, 3) := by decide +kernel
theorem dX1_lead_107 : decode cX1_lead 107 = .ok (.aload_n 0, 1) := by decide +kernel
theorem dX1_lead_108 : decode cX1_lead 108 = .ok (.getfield 15, 3) := by decide +kernel
theorem dX1_lead_111 : decode cX1_lead 111 = .ok (.iload 7, 2) := by decide +kernel
theorem dX1_lead_113 : decode cX1_lead 113 = .ok (.invokestatic 38, 3) := by decide +kernel
theorem dX1_lead_116 : decode cX1_lead 116 = .ok (.iadd, 1) := by decide +kernel
theorem dX1_lead_117 : decode cX1_lead 117 = .ok (.putfield 94, 3) := by decide +kernel
theorem dX1_lead_120 : decode cX1_lead 120 = .ok (.aload_n 0, 1) := by decide +kernel
theorem dX1_lead_121 : decode cX1_lead 121 = .ok (.dup, 1) := by decide +kernel
theorem dX1_lead_122 : decode cX1_lead 122 = .ok (.getfield 97, 3) := by decide +kernel
theorem dX1_lead_125 : decode cX1_lead 125 = .ok (.iconst 1, 1) := by decide +kernel
theorem dX1_lead_126 : decode cX1_lead 126 = .ok (.iadd, 1) := by decide +kernel
theorem dX1_lead_127 : decode cX1_lead 127 = .ok (.putfield 97, 3) := by decide +kernel
theorem dX1_lead_130 : decode cX1_lead 130 = .ok (.iinc 5 1, 3) := by decide +kernel
theorem dX1_lead_133 : decode cX1_lead 133 = .ok (.goto (-112), 3) := by decide +kernel
theorem dX1_lead_136 : decode cX1_lead 136 = .ok (.return_, 1) := by decide +kernel
theorem dX1_fewestMinutes_0 : decode cX1_fewestMinutes 0 = .ok (.aload_n 0, 1) := by decide +kernel
theorem dX1_fewestMinutes_1 : decode cX1_fewestMinutes 1 = .ok (.getfield 18, 3) := by decide +kernel
theorem dX1_fewestMinutes_4 : decode cX1_fewestMinutes 4 = .ok (.ldc 111, 2) := by decide +kernel
theorem dX1_fewestMinutes_6 : decode cX1_fewestMinutes 6 = .ok (.invokestatic 112, 3) := by decide +kernel
theorem dX1_fewestMinutes_9 : decode cX1_fewestMinutes 9 = .ok (.aload_n 0, 1) := by decide +kernel
theorem dX1_fewestMinutes_10 : decode cX1_fewestMinutes 10 = .ok (.getfield 18, 3) := by decide +kernel
theorem dX1_fewestMinutes_13 : decode cX1_fewestMinutes 13 = .ok (.iload_n 2, 1) := by decide +kernel
theorem dX1_fewestMinutes_14 : decode cX1_fewestMinutes 14 = .ok (.iconst 0, 1) := by decide +kernel
theorem dX1_fewestMinutes_15 : decode cX1_fewestMinutes 15 = .ok (.invokestatic 80, 3) := by decide +kernel
theorem dX1_fewestMinutes_18 : decode cX1_fewestMinutes 18 = .ok (.iconst 1, 1) := by decide +kernel
theorem dX1_fewestMinutes_19 : decode cX1_fewestMinutes 19 = .ok (.istore_n 3, 1) := by decide +kernel
theorem dX1_fewestMinutes_20 : decode cX1_fewestMinutes 20 = .ok (.iconst 0, 1) := by decide +kernel
theorem dX1_fewestMinutes_21 : decode cX1_fewestMinutes 21 = .ok (.istore 4, 2) := by decide +kernel
theorem dX1_fewestMinutes_23 : decode cX1_fewestMinutes 23 = .ok (.iload 4, 2) := by decide +kernel
theorem dX1_fewestMinutes_25 : decode cX1_fewestMinutes 25 = .ok (.bipush 10, 2) := by decide +kernel
theorem dX1_fewestMinutes_27 : decode cX1_fewestMinutes 27 = .ok (.if_icmp .ge 104, 3) := by decide +kernel
theorem dX1_fewestMinutes_30 : decode cX1_fewestMinutes 30 = .ok (.iload_n 3, 1) := by decide +kernel
theorem dX1_fewestMinutes_31 : decode cX1_fewestMinutes 31 = .ok (.ifCond .eq 100, 3) := by decide +kernel
theorem dX1_fewestMinutes_34 : decode cX1_fewestMinutes 34 = .ok (.iconst 0, 1) := by decide +kernel
theorem dX1_fewestMinutes_35 : decode cX1_fewestMinutes 35 = .ok (.istore_n 3, 1) := by decide +kernel
theorem dX1_fewestMinutes_36 : decode cX1_fewestMinutes 36 = .ok (.iconst 0, 1) := by decide +kernel
theorem dX1_fewestMinutes_37 : decode cX1_fewestMinutes 37 = .ok (.istore 5, 2) := by decide +kernel
theorem dX1_fewestMinutes_39 : decode cX1_fewestMinutes 39 = .ok (.iload 5, 2) := by decide +kernel
theorem dX1_fewestMinutes_41 : decode cX1_fewestMinutes 41 = .ok (.aload_n 0, 1) := by decide +kernel
theorem dX1_fewestMinutes_42 : decode cX1_fewestMinutes 42 = .ok (.getfield 21, 3) := by decide +kernel
theorem dX1_fewestMinutes_45 : decode cX1_fewestMinutes 45 = .ok (.getfield 29, 3) := by decide +kernel
theorem dX1_fewestMinutes_48 : decode cX1_fewestMinutes 48 = .ok (.if_icmp .ge 77, 3) := by decide +kernel
theorem dX1_fewestMinutes_51 : decode cX1_fewestMinutes 51 = .ok (.aload_n 0, 1) := by decide +kernel
theorem dX1_fewestMinutes_52 : decode cX1_fewestMinutes 52 = .ok (.getfield 9, 3) := by decide +kernel
theorem dX1_fewestMinutes_55 : decode cX1_fewestMinutes 55 = .ok (.iload 5, 2) := by decide +kernel
theorem dX1_fewestMinutes_57 : decode cX1_fewestMinutes 57 = .ok (.invokestatic 38, 3) := by decide +kernel
theorem dX1_fewestMinutes_60 : decode cX1_fewestMinutes 60 = .ok (.iconst (-1), 1) := by decide +kernel
theorem dX1_fewestMinutes_61 : decode cX1_fewestMinutes 61 = .ok (.if_icmp .eq 58, 3) := by decide +kernel
theorem dX1_fewestMinutes_64 : decode cX1_fewestMinutes 64 = .ok (.aload_n 0, 1) := by decide +kernel
theorem dX1_fewestMinutes_65 : decode cX1_fewestMinutes 65 = .ok (.iload 5, 2) := by decide +kernel
theorem dX1_fewestMinutes_67 : decode cX1_fewestMinutes 67 = .ok (.invokevirtual 118, 3) := by decide +kernel
theorem dX1_fewestMinutes_70 : decode cX1_fewestMinutes 70 = .ok (.aload_n 0, 1) := by decide +kernel
theorem dX1_fewestMinutes_71 : decode cX1_fewestMinutes 71 = .ok (.getfield 18, 3) := by decide +kernel
theorem dX1_fewestMinutes_74 : decode cX1_fewestMinutes 74 = .ok (.aload_n 0, 1) := by decide +kernel
theorem dX1_fewestMinutes_75 : decode cX1_fewestMinutes 75 = .ok (.getfield 21, 3) := by decide +kernel
theorem dX1_fewestMinutes_78 : decode cX1_fewestMinutes 78 = .ok (.getfield 42, 3) := by decide +kernel
theorem dX1_fewestMinutes_81 : decode cX1_fewestMinutes 81 = .ok (.iload 5, 2) := by decide +kernel
theorem dX1_fewestMinutes_83 : decode cX1_fewestMinutes 83 = .ok (.invokestatic 38, 3) := by decide +kernel
theorem dX1_fewestMinutes_86 : decode cX1_fewestMinutes 86 = .ok (.invokestatic 38, 3) := by decide +kernel
theorem dX1_fewestMinutes_89 : decode cX1_fewestMinutes 89 = .ok (.if_icmp .ge 30, 3) := by decide +kernel
theorem dX1_fewestMinutes_92 : decode cX1_fewestMinutes 92 = .ok (.aload_n 0, 1) := by decide +kernel
theorem dX1_fewestMinutes_93 : decode cX1_fewestMinutes 93 = .ok (.getfield 18, 3) := by decide +kernel
theorem dX1_fewestMinutes_96 : decode cX1_fewestMinutes 96 = .ok (.aload_n 0, 1) := by decide +kernel
theorem dX1_fewestMinutes_97 : decode cX1_fewestMinutes 97 = .ok (.getfield 21, 3) := by decide +kernel
theorem dX1_fewestMinutes_100 : decode cX1_fewestMinutes 100 = .ok (.getfield 42, 3) := by decide +kernel
theorem dX1_fewestMinutes_103 : decode cX1_fewestMinutes 103 = .ok (.iload 5, 2) := by decide +kernel
theorem dX1_fewestMinutes_105 : decode cX1_fewestMinutes 105 = .ok (.invokestatic 38, 3) := by decide +kernel
theorem dX1_fewestMinutes_108 : decode cX1_fewestMinutes 108 = .ok (.aload_n 0, 1) := by decide +kernel
theorem dX1_fewestMinutes_109 : decode cX1_fewestMinutes 109 = .ok (.iload 5, 2) := by decide +kernel
theorem dX1_fewestMinutes_111 : decode cX1_fewestMinutes 111 = .ok (.invokevirtual 118, 3) := by decide +kernel
theorem dX1_fewestMinutes_114 : decode cX1_fewestMinutes 114 = .ok (.invokestatic 80, 3) := by decide +kernel
theorem dX1_fewestMinutes_117 : decode cX1_fewestMinutes 117 = .ok (.iconst 1, 1) := by decide +kernel
theorem dX1_fewestMinutes_118 : decode cX1_fewestMinutes 118 = .ok (.istore_n 3, 1) := by decide +kernel
theorem dX1_fewestMinutes_119 : decode cX1_fewestMinutes 119 = .ok (.iinc 5 1, 3) := by decide +kernel
theorem dX1_fewestMinutes_122 : decode cX1_fewestMinutes 122 = .ok (.goto (-83), 3) := by decide +kernel
theorem dX1_fewestMinutes_125 : decode cX1_fewestMinutes 125 = .ok (.iinc 4 1, 3) := by decide +kernel
theorem dX1_fewestMinutes_128 : decode cX1_fewestMinutes 128 = .ok (.goto (-105), 3) := by decide +kernel
theorem dX1_fewestMinutes_131 : decode cX1_fewestMinutes 131 = .ok (.aload_n 0, 1) := by decide +kernel
theorem dX1_fewestMinutes_132 : decode cX1_fewestMinutes 132 = .ok (.getfield 18, 3) := by decide +kernel
theorem dX1_fewestMinutes_135 : decode cX1_fewestMinutes 135 = .ok (.iload_n 1, 1) := by decide +kernel
theorem dX1_fewestMinutes_136 : decode cX1_fewestMinutes 136 = .ok (.invokestatic 38, 3) := by decide +kernel
theorem dX1_fewestMinutes_139 : decode cX1_fewestMinutes 139 = .ok (.ldc 111, 2) := by decide +kernel
theorem dX1_fewestMinutes_141 : decode cX1_fewestMinutes 141 = .ok (.if_icmp .lt 7, 3) := by decide +kernel
theorem dX1_fewestMinutes_144 : decode cX1_fewestMinutes 144 = .ok (.iconst (-1), 1) := by decide +kernel
theorem dX1_fewestMinutes_145 : decode cX1_fewestMinutes 145 = .ok (.goto 14, 3) := by decide +kernel
theorem dX1_fewestMinutes_148 : decode cX1_fewestMinutes 148 = .ok (.aload_n 0, 1) := by decide +kernel
theorem dX1_fewestMinutes_149 : decode cX1_fewestMinutes 149 = .ok (.getfield 18, 3) := by decide +kernel
theorem dX1_fewestMinutes_152 : decode cX1_fewestMinutes 152 = .ok (.iload_n 1, 1) := by decide +kernel
theorem dX1_fewestMinutes_153 : decode cX1_fewestMinutes 153 = .ok (.invokestatic 38, 3) := by decide +kernel
theorem dX1_fewestMinutes_156 : decode cX1_fewestMinutes 156 = .ok (.bipush 16, 2) := by decide +kernel
theorem dX1_fewestMinutes_158 : decode cX1_fewestMinutes 158 = .ok (.idiv, 1) := by decide +kernel
theorem dX1_fewestMinutes_159 : decode cX1_fewestMinutes 159 = .ok (.ireturn, 1) := by decide +kernel
theorem dX1_keyBy_0 : decode cX1_keyBy 0 = .ok (.aload_n 0, 1) := by decide +kernel
theorem dX1_keyBy_1 : decode cX1_keyBy 1 = .ok (.getfield 18, 3) := by decide +kernel
theorem dX1_keyBy_4 : decode cX1_keyBy 4 = .ok (.aload_n 0, 1) := by decide +kernel
theorem dX1_keyBy_5 : decode cX1_keyBy 5 = .ok (.getfield 9, 3) := by decide +kernel
theorem dX1_keyBy_8 : decode cX1_keyBy 8 = .ok (.iload_n 1, 1) := by decide +kernel
theorem dX1_keyBy_9 : decode cX1_keyBy 9 = .ok (.invokestatic 38, 3) := by decide +kernel
theorem dX1_keyBy_12 : decode cX1_keyBy 12 = .ok (.invokestatic 38, 3) := by decide +kernel
theorem dX1_keyBy_15 : decode cX1_keyBy 15 = .ok (.aload_n 0, 1) := by decide +kernel
theorem dX1_keyBy_16 : decode cX1_keyBy 16 = .ok (.getfield 15, 3) := by decide +kernel
theorem dX1_keyBy_19 : decode cX1_keyBy 19 = .ok (.iload_n 1, 1) := by decide +kernel
theorem dX1_keyBy_20 : decode cX1_keyBy 20 = .ok (.invokestatic 38, 3) := by decide +kernel
theorem dX1_keyBy_23 : decode cX1_keyBy 23 = .ok (.bipush 16, 2) := by decide +kernel
theorem dX1_keyBy_25 : decode cX1_keyBy 25 = .ok (.imul, 1) := by decide +kernel
theorem dX1_keyBy_26 : decode cX1_keyBy 26 = .ok (.iadd, 1) := by decide +kernel
theorem dX1_keyBy_27 : decode cX1_keyBy 27 = .ok (.iconst 1, 1) := by decide +kernel
theorem dX1_keyBy_28 : decode cX1_keyBy 28 = .ok (.iadd, 1) := by decide +kernel
theorem dX1_keyBy_29 : decode cX1_keyBy 29 = .ok (.ireturn, 1) := by decide +kernel
theorem dX1_fewestGuides_0 : decode cX1_fewestGuides 0 = .ok (.aload_n 0, 1) := by decide +kernel
theorem dX1_fewestGuides_1 : decode cX1_fewestGuides 1 = .ok (.getfield 18, 3) := by decide +kernel
theorem dX1_fewestGuides_4 : decode cX1_fewestGuides 4 = .ok (.iload_n 1, 1) := by decide +kernel
theorem dX1_fewestGuides_5 : decode cX1_fewestGuides 5 = .ok (.invokestatic 38, 3) := by decide +kernel
theorem dX1_fewestGuides_8 : decode cX1_fewestGuides 8 = .ok (.bipush 16, 2) := by decide +kernel
theorem dX1_fewestGuides_10 : decode cX1_fewestGuides 10 = .ok (.irem, 1) := by decide +kernel
theorem dX1_fewestGuides_11 : decode cX1_fewestGuides 11 = .ok (.ireturn, 1) := by decide +kernel
theorem dX1_bestGuide_0 : decode cX1_bestGuide 0 = .ok (.iload_n 1, 1) := by decide +kernel
theorem dX1_bestGuide_1 : decode cX1_bestGuide 1 = .ok (.istore 4, 2) := by decide +kernel
theorem dX1_bestGuide_3 : decode cX1_bestGuide 3 = .ok (.iconst 0, 1) := by decide +kernel
theorem dX1_bestGuide_4 : decode cX1_bestGuide 4 = .ok (.istore 5, 2) := by decide +kernel
theorem dX1_bestGuide_6 : decode cX1_bestGuide 6 = .ok (.iload 5, 2) := by decide +kernel
theorem dX1_bestGuide_8 : decode cX1_bestGuide 8 = .ok (.iload_n 3, 1) := by decide +kernel
theorem dX1_bestGuide_9 : decode cX1_bestGuide 9 = .ok (.if_icmp .gt 50, 3) := by decide +kernel
theorem dX1_bestGuide_12 : decode cX1_bestGuide 12 = .ok (.iload 5, 2) := by decide +kernel
theorem dX1_bestGuide_14 : decode cX1_bestGuide 14 = .ok (.bipush 6, 2) := by decide +kernel
theorem dX1_bestGuide_16 : decode cX1_bestGuide 16 = .ok (.if_icmp .ge 43, 3) := by decide +kernel
theorem dX1_bestGuide_19 : decode cX1_bestGuide 19 = .ok (.iload 4, 2) := by decide +kernel
theorem dX1_bestGuide_21 : decode cX1_bestGuide 21 = .ok (.iload_n 2, 1) := by decide +kernel
theorem dX1_bestGuide_22 : decode cX1_bestGuide 22 = .ok (.if_icmp .eq 37, 3) := by decide +kernel
theorem dX1_bestGuide_25 : decode cX1_bestGuide 25 = .ok (.aload_n 0, 1) := by decide +kernel
theorem dX1_bestGuide_26 : decode cX1_bestGuide 26 = .ok (.iload 4, 2) := by decide +kernel
theorem dX1_bestGuide_28 : decode cX1_bestGuide 28 = .ok (.invokevirtual 121, 3) := by decide +kernel
theorem dX1_bestGuide_31 : decode cX1_bestGuide 31 = .ok (.istore 6, 2) := by decide +kernel
theorem dX1_bestGuide_33 : decode cX1_bestGuide 33 = .ok (.iload 5, 2) := by decide +kernel
theorem dX1_bestGuide_35 : decode cX1_bestGuide 35 = .ok (.iload_n 3, 1) := by decide +kernel
theorem dX1_bestGuide_36 : decode cX1_bestGuide 36 = .ok (.if_icmp .ne 6, 3) := by decide +kernel
theorem dX1_bestGuide_39 : decode cX1_bestGuide 39 = .ok (.iload 6, 2) := by decide +kernel
theorem dX1_bestGuide_41 : decode cX1_bestGuide 41 = .ok (.ireturn, 1) := by decide +kernel
theorem dX1_bestGuide_42 : decode cX1_bestGuide 42 = .ok (.aload_n 0, 1) := by decide +kernel
theorem dX1_bestGuide_43 : decode cX1_bestGuide 43 = .ok (.getfield 9, 3) := by decide +kernel
theorem dX1_bestGuide_46 : decode cX1_bestGuide 46 = .ok (.iload 6, 2) := by decide +kernel
theorem dX1_bestGuide_48 : decode cX1_bestGuide 48 = .ok (.invokestatic 38, 3) := by decide +kernel
theorem dX1_bestGuide_51 : decode cX1_bestGuide 51 = .ok (.istore 4, 2) := by decide +kernel
theorem dX1_bestGuide_53 : decode cX1_bestGuide 53 = .ok (.iinc 5 1, 3) := by decide +kernel
theorem dX1_bestGuide_56 : decode cX1_bestGuide 56 = .ok (.goto (-50), 3) := by decide +kernel
theorem dX1_bestGuide_59 : decode cX1_bestGuide 59 = .ok (.iconst (-1), 1) := by decide +kernel
theorem dX1_bestGuide_60 : decode cX1_bestGuide 60 = .ok (.ireturn, 1) := by decide +kernel
theorem dX1_leastGuide_0 : decode cX1_leastGuide 0 = .ok (.iconst 0, 1) := by decide +kernel
theorem dX1_leastGuide_1 : decode cX1_leastGuide 1 = .ok (.istore_n 2, 1) := by decide +kernel
theorem dX1_leastGuide_2 : decode cX1_leastGuide 2 = .ok (.iload_n 2, 1) := by decide +kernel
theorem dX1_leastGuide_3 : decode cX1_leastGuide 3 = .ok (.aload_n 0, 1) := by decide +kernel
theorem dX1_leastGuide_4 : decode cX1_leastGuide 4 = .ok (.getfield 21, 3) := by decide +kernel
theorem dX1_leastGuide_7 : decode cX1_leastGuide 7 = .ok (.getfield 29, 3) := by decide +kernel
theorem dX1_leastGuide_10 : decode cX1_leastGuide 10 = .ok (.if_icmp .ge 37, 3) := by decide +kernel
theorem dX1_leastGuide_13 : decode cX1_leastGuide 13 = .ok (.aload_n 0, 1) := by decide +kernel
theorem dX1_leastGuide_14 : decode cX1_leastGuide 14 = .ok (.iload_n 2, 1) := by decide +kernel
theorem dX1_leastGuide_15 : decode cX1_leastGuide 15 = .ok (.iload_n 1, 1) := by decide +kernel
theorem dX1_leastGuide_16 : decode cX1_leastGuide 16 = .ok (.iconst 0, 1) := by decide +kernel
theorem dX1_leastGuide_17 : decode cX1_leastGuide 17 = .ok (.invokevirtual 87, 3) := by decide +kernel
theorem dX1_leastGuide_20 : decode cX1_leastGuide 20 = .ok (.ifCond .eq 21, 3) := by decide +kernel
theorem dX1_leastGuide_23 : decode cX1_leastGuide 23 = .ok (.aload_n 0, 1) := by decide +kernel
theorem dX1_leastGuide_24 : decode cX1_leastGuide 24 = .ok (.iload_n 2, 1) := by decide +kernel
theorem dX1_leastGuide_25 : decode cX1_leastGuide 25 = .ok (.invokevirtual 118, 3) := by decide +kernel
theorem dX1_leastGuide_28 : decode cX1_leastGuide 28 = .ok (.aload_n 0, 1) := by decide +kernel
theorem dX1_leastGuide_29 : decode cX1_leastGuide 29 = .ok (.getfield 18, 3) := by decide +kernel
theorem dX1_leastGuide_32 : decode cX1_leastGuide 32 = .ok (.iload_n 1, 1) := by decide +kernel
theorem dX1_leastGuide_33 : decode cX1_leastGuide 33 = .ok (.invokestatic 38, 3) := by decide +kernel
theorem dX1_leastGuide_36 : decode cX1_leastGuide 36 = .ok (.if_icmp .ne 5, 3) := by decide +kernel
theorem dX1_leastGuide_39 : decode cX1_leastGuide 39 = .ok (.iload_n 2, 1) := by decide +kernel
theorem dX1_leastGuide_40 : decode cX1_leastGuide 40 = .ok (.ireturn, 1) := by decide +kernel
theorem dX1_leastGuide_41 : decode cX1_leastGuide 41 = .ok (.iinc 2 1, 3) := by decide +kernel
theorem dX1_leastGuide_44 : decode cX1_leastGuide 44 = .ok (.goto (-42), 3) := by decide +kernel
theorem dX1_leastGuide_47 : decode cX1_leastGuide 47 = .ok (.iconst (-1), 1) := by decide +kernel
theorem dX1_leastGuide_48 : decode cX1_leastGuide 48 = .ok (.ireturn, 1) := by decide +kernel
theorem dX1_lots_0 : decode cX1_lots 0 = .ok (.aload_n 0, 1) := by decide +kernel
theorem dX1_lots_1 : decode cX1_lots 1 = .ok (.iload_n 2, 1) := by decide +kernel
theorem dX1_lots_2 : decode cX1_lots 2 = .ok (.putfield 124, 3) := by decide +kernel
theorem dX1_lots_5 : decode cX1_lots 5 = .ok (.aload_n 0, 1) := by decide +kernel
theorem dX1_lots_6 : decode cX1_lots 6 = .ok (.iconst 0, 1) := by decide +kernel
theorem dX1_lots_7 : decode cX1_lots 7 = .ok (.putfield 127, 3) := by decide +kernel
theorem dX1_lots_10 : decode cX1_lots 10 = .ok (.aload_n 0, 1) := by decide +kernel
theorem dX1_lots_11 : decode cX1_lots 11 = .ok (.iconst (-1), 1) := by decide +kernel
theorem dX1_lots_12 : decode cX1_lots 12 = .ok (.putfield 130, 3) := by decide +kernel
theorem dX1_lots_15 : decode cX1_lots 15 = .ok (.aload_n 0, 1) := by decide +kernel
theorem dX1_lots_16 : decode cX1_lots 16 = .ok (.lconst 0, 1) := by decide +kernel
theorem dX1_lots_17 : decode cX1_lots 17 = .ok (.putfield 133, 3) := by decide +kernel
theorem dX1_lots_20 : decode cX1_lots 20 = .ok (.aload_n 0, 1) := by decide +kernel
theorem dX1_lots_21 : decode cX1_lots 21 = .ok (.iload_n 1, 1) := by decide +kernel
theorem dX1_lots_22 : decode cX1_lots 22 = .ok (.iconst 0, 1) := by decide +kernel
theorem dX1_lots_23 : decode cX1_lots 23 = .ok (.ldc 111, 2) := by decide +kernel
theorem dX1_lots_25 : decode cX1_lots 25 = .ok (.iconst 0, 1) := by decide +kernel
theorem dX1_lots_26 : decode cX1_lots 26 = .ok (.iconst 0, 1) := by decide +kernel
theorem dX1_lots_27 : decode cX1_lots 27 = .ok (.invokestatic 137, 3) := by decide +kernel
theorem dX1_lots_30 : decode cX1_lots 30 = .ok (.return_, 1) := by decide +kernel
theorem dX1_castLots_0 : decode cX1_castLots 0 = .ok (.iload 5, 2) := by decide +kernel
theorem dX1_castLots_2 : decode cX1_castLots 2 = .ok (.bipush 6, 2) := by decide +kernel
theorem dX1_castLots_4 : decode cX1_castLots 4 = .ok (.if_icmp .le 4, 3) := by decide +kernel
theorem dX1_castLots_7 : decode cX1_castLots 7 = .ok (.return_, 1) := by decide +kernel
theorem dX1_castLots_8 : decode cX1_castLots 8 = .ok (.iload_n 1, 1) := by decide +kernel
theorem dX1_castLots_9 : decode cX1_castLots 9 = .ok (.aload_n 0, 1) := by decide +kernel
theorem dX1_castLots_10 : decode cX1_castLots 10 = .ok (.getfield 124, 3) := by decide +kernel
theorem dX1_castLots_13 : decode cX1_castLots 13 = .ok (.if_icmp .ne 32, 3) := by decide +kernel
theorem dX1_castLots_16 : decode cX1_castLots 16 = .ok (.aload_n 0, 1) := by decide +kernel
theorem dX1_castLots_17 : decode cX1_castLots 17 = .ok (.aload_n 0, 1) := by decide +kernel
theorem dX1_castLots_18 : decode cX1_castLots 18 = .ok (.getfield 130, 3) := by decide +kernel
theorem dX1_castLots_21 : decode cX1_castLots 21 = .ok (.iload 4, 2) := by decide +kernel
theorem dX1_castLots_23 : decode cX1_castLots 23 = .ok (.invokestatic 141, 3) := by decide +kernel
theorem dX1_castLots_26 : decode cX1_castLots 26 = .ok (.putfield 130, 3) := by decide +kernel
theorem dX1_castLots_29 : decode cX1_castLots 29 = .ok (.aload_n 0, 1) := by decide +kernel
theorem dX1_castLots_30 : decode cX1_castLots 30 = .ok (.dup, 1) := by decide +kernel
theorem dX1_castLots_31 : decode cX1_castLots 31 = .ok (.getfield 133, 3) := by decide +kernel
theorem dX1_castLots_34 : decode cX1_castLots 34 = .ok (.iload_n 3, 1) := by decide +kernel
theorem dX1_castLots_35 : decode cX1_castLots 35 = .ok (.i2l, 1) := by decide +kernel
theorem dX1_castLots_36 : decode cX1_castLots 36 = .ok (.iload 4, 2) := by decide +kernel
theorem dX1_castLots_38 : decode cX1_castLots 38 = .ok (.i2l, 1) := by decide +kernel
theorem dX1_castLots_39 : decode cX1_castLots 39 = .ok (.lmul, 1) := by decide +kernel
theorem dX1_castLots_40 : decode cX1_castLots 40 = .ok (.ladd, 1) := by decide +kernel
theorem dX1_castLots_41 : decode cX1_castLots 41 = .ok (.putfield 133, 3) := by decide +kernel
theorem dX1_castLots_44 : decode cX1_castLots 44 = .ok (.return_, 1) := by decide +kernel
theorem dX1_castLots_45 : decode cX1_castLots 45 = .ok (.aload_n 0, 1) := by decide +kernel
theorem dX1_castLots_46 : decode cX1_castLots 46 = .ok (.iload_n 1, 1) := by decide +kernel
theorem dX1_castLots_47 : decode cX1_castLots 47 = .ok (.iload_n 2, 1) := by decide +kernel
theorem dX1_castLots_48 : decode cX1_castLots 48 = .ok (.invokevirtual 100, 3) := by decide +kernel
theorem dX1_castLots_51 : decode cX1_castLots 51 = .ok (.istore 6, 2) := by decide +kernel
theorem dX1_castLots_53 : decode cX1_castLots 53 = .ok (.iload 6, 2) := by decide +kernel
theorem dX1_castLots_55 : decode cX1_castLots 55 = .ok (.ifCond .ne 14, 3) := by decide +kernel
theorem dX1_castLots_58 : decode cX1_castLots 58 = .ok (.aload_n 0, 1) := by decide +kernel
theorem dX1_castLots_59 : decode cX1_castLots 59 = .ok (.dup, 1) := by decide +kernel
theorem dX1_castLots_60 : decode cX1_castLots 60 = .ok (.getfield 127, 3) := by decide +kernel
theorem dX1_castLots_63 : decode cX1_castLots 63 = .ok (.iload_n 3, 1) := by decide +kernel
theorem dX1_castLots_64 : decode cX1_castLots 64 = .ok (.iadd, 1) := by decide +kernel
theorem dX1_castLots_65 : decode cX1_castLots 65 = .ok (.putfield 127, 3) := by decide +kernel
theorem dX1_castLots_68 : decode cX1_castLots 68 = .ok (.return_, 1) := by decide +kernel
theorem dX1_castLots_69 : decode cX1_castLots 69 = .ok (.iload_n 3, 1) := by decide +kernel
theorem dX1_castLots_70 : decode cX1_castLots 70 = .ok (.iload 6, 2) := by decide +kernel
theorem dX1_castLots_72 : decode cX1_castLots 72 = .ok (.idiv, 1) := by decide +kernel
theorem dX1_castLots_73 : decode cX1_castLots 73 = .ok (.istore 7, 2) := by decide +kernel
theorem dX1_castLots_75 : decode cX1_castLots 75 = .ok (.iconst 0, 1) := by decide +kernel
theorem dX1_castLots_76 : decode cX1_castLots 76 = .ok (.istore 8, 2) := by decide +kernel
theorem dX1_castLots_78 : decode cX1_castLots 78 = .ok (.iload 8, 2) := by decide +kernel
theorem dX1_castLots_80 : decode cX1_castLots 80 = .ok (.iload 6, 2) := by decide +kernel
theorem dX1_castLots_82 : decode cX1_castLots 82 = .ok (.if_icmp .ge 86, 3) := by decide +kernel
theorem dX1_castLots_85 : decode cX1_castLots 85 = .ok (.aload_n 0, 1) := by decide +kernel
theorem dX1_castLots_86 : decode cX1_castLots 86 = .ok (.iload_n 1, 1) := by decide +kernel
theorem dX1_castLots_87 : decode cX1_castLots 87 = .ok (.iload_n 2, 1) := by decide +kernel
theorem dX1_castLots_88 : decode cX1_castLots 88 = .ok (.iload 8, 2) := by decide +kernel
theorem dX1_castLots_90 : decode cX1_castLots 90 = .ok (.invokevirtual 108, 3) := by decide +kernel
theorem dX1_castLots_93 : decode cX1_castLots 93 = .ok (.istore 9, 2) := by decide +kernel
theorem dX1_castLots_95 : decode cX1_castLots 95 = .ok (.iload 9, 2) := by decide +kernel
theorem dX1_castLots_97 : decode cX1_castLots 97 = .ok (.iconst (-1), 1) := by decide +kernel
theorem dX1_castLots_98 : decode cX1_castLots 98 = .ok (.if_icmp .ne 4, 3) := by decide +kernel
theorem dX1_castLots_101 : decode cX1_castLots 101 = .ok (.return_, 1) := by decide +kernel
theorem dX1_castLots_102 : decode cX1_castLots 102 = .ok (.iload 8, 2) := by decide +kernel
theorem dX1_castLots_104 : decode cX1_castLots 104 = .ok (.iload 6, 2) := by decide +kernel
theorem dX1_castLots_106 : decode cX1_castLots 106 = .ok (.iconst 1, 1) := by decide +kernel
theorem dX1_castLots_107 : decode cX1_castLots 107 = .ok (.isub, 1) := by decide +kernel
theorem dX1_castLots_108 : decode cX1_castLots 108 = .ok (.if_icmp .ne 13, 3) := by decide +kernel
theorem dX1_castLots_111 : decode cX1_castLots 111 = .ok (.iload_n 3, 1) := by decide +kernel
theorem dX1_castLots_112 : decode cX1_castLots 112 = .ok (.iload 7, 2) := by decide +kernel
theorem dX1_castLots_114 : decode cX1_castLots 114 = .ok (.iload 8, 2) := by decide +kernel
theorem dX1_castLots_116 : decode cX1_castLots 116 = .ok (.imul, 1) := by decide +kernel
theorem dX1_castLots_117 : decode cX1_castLots 117 = .ok (.isub, 1) := by decide +kernel
theorem dX1_castLots_118 : decode cX1_castLots 118 = .ok (.goto 5, 3) := by decide +kernel
theorem dX1_castLots_121 : decode cX1_castLots 121 = .ok (.iload 7, 2) := by decide +kernel
theorem dX1_castLots_123 : decode cX1_castLots 123 = .ok (.istore 10, 2) := by decide +kernel
theorem dX1_castLots_125 : decode cX1_castLots 125 = .ok (.aload_n 0, 1) := by decide +kernel
theorem dX1_castLots_126 : decode cX1_castLots 126 = .ok (.aload_n 0, 1) := by decide +kernel
theorem dX1_castLots_127 : decode cX1_castLots 127 = .ok (.getfield 9, 3) := by decide +kernel
theorem dX1_castLots_130 : decode cX1_castLots 130 = .ok (.iload 9, 2) := by decide +kernel
theorem dX1_castLots_132 : decode cX1_castLots 132 = .ok (.invokestatic 38, 3) := by decide +kernel
theorem dX1_castLots_135 : decode cX1_castLots 135 = .ok (.iload_n 2, 1) := by decide +kernel
theorem dX1_castLots_136 : decode cX1_castLots 136 = .ok (.iconst 1, 1) := by decide +kernel
theorem dX1_castLots_137 : decode cX1_castLots 137 = .ok (.iload 9, 2) := by decide +kernel
theorem dX1_castLots_139 : decode cX1_castLots 139 = .ok (.ishl, 1) := by decide +kernel
theorem dX1_castLots_140 : decode cX1_castLots 140 = .ok (.ior, 1) := by decide +kernel
theorem dX1_castLots_141 : decode cX1_castLots 141 = .ok (.iload 10, 2) := by decide +kernel
theorem dX1_castLots_143 : decode cX1_castLots 143 = .ok (.iload 4, 2) := by decide +kernel
theorem dX1_castLots_145 : decode cX1_castLots 145 = .ok (.aload_n 0, 1) := by decide +kernel
theorem dX1_castLots_146 : decode cX1_castLots 146 = .ok (.getfield 15, 3) := by decide +kernel
theorem dX1_castLots_149 : decode cX1_castLots 149 = .ok (.iload 9, 2) := by decide +kernel
theorem dX1_castLots_151 : decode cX1_castLots 151 = .ok (.invokestatic 38, 3) := by decide +kernel
theorem dX1_castLots_154 : decode cX1_castLots 154 = .ok (.iadd, 1) := by decide +kernel
theorem dX1_castLots_155 : decode cX1_castLots 155 = .ok (.iload 5, 2) := by decide +kernel
theorem dX1_castLots_157 : decode cX1_castLots 157 = .ok (.iconst 1, 1) := by decide +kernel
theorem dX1_castLots_158 : decode cX1_castLots 158 = .ok (.iadd, 1) := by decide +kernel
theorem dX1_castLots_159 : decode cX1_castLots 159 = .ok (.invokestatic 137, 3) := by decide +kernel
theorem dX1_castLots_162 : decode cX1_castLots 162 = .ok (.iinc 8 1, 3) := by decide +kernel
theorem dX1_castLots_165 : decode cX1_castLots 165 = .ok (.goto (-87), 3) := by decide +kernel
theorem dX1_castLots_168 : decode cX1_castLots 168 = .ok (.return_, 1) := by decide +kernel
theorem dX5_init_0 : decode cX5_init 0 = .ok (.aload_n 0, 1) := by decide +kernel
theorem dX5_init_1 : decode cX5_init 1 = .ok (.invokespecial 3, 3) := by decide +kernel
theorem dX5_init_4 : decode cX5_init 4 = .ok (.aload_n 0, 1) := by decide +kernel
theorem dX5_init_5 : decode cX5_init 5 = .ok (.bipush 84, 2) := by decide +kernel
theorem dX5_init_7 : decode cX5_init 7 = .ok (.newarray .int, 2) := by decide +kernel
theorem dX5_init_9 : decode cX5_init 9 = .ok (.putfield 11, 3) := by decide +kernel
theorem dX5_init_12 : decode cX5_init 12 = .ok (.aload_n 0, 1) := by decide +kernel
theorem dX5_init_13 : decode cX5_init 13 = .ok (.bipush 84, 2) := by decide +kernel
theorem dX5_init_15 : decode cX5_init 15 = .ok (.newarray .int, 2) := by decide +kernel
theorem dX5_init_17 : decode cX5_init 17 = .ok (.putfield 15, 3) := by decide +kernel
theorem dX5_init_20 : decode cX5_init 20 = .ok (.aload_n 0, 1) := by decide +kernel
theorem dX5_init_21 : decode cX5_init 21 = .ok (.bipush 6, 2) := by decide +kernel
theorem dX5_init_23 : decode cX5_init 23 = .ok (.newarray .int, 2) := by decide +kernel
theorem dX5_init_25 : decode cX5_init 25 = .ok (.putfield 18, 3) := by decide +kernel
theorem dX5_init_28 : decode cX5_init 28 = .ok (.aload_n 0, 1) := by decide +kernel
theorem dX5_init_29 : decode cX5_init 29 = .ok (.bipush 6, 2) := by decide +kernel
theorem dX5_init_31 : decode cX5_init 31 = .ok (.newarray .int, 2) := by decide +kernel
theorem dX5_init_33 : decode cX5_init 33 = .ok (.putfield 21, 3) := by decide +kernel
theorem dX5_init_36 : decode cX5_init 36 = .ok (.aload_n 0, 1) := by decide +kernel
theorem dX5_init_37 : decode cX5_init 37 = .ok (.aload_n 1, 1) := by decide +kernel
theorem dX5_init_38 : decode cX5_init 38 = .ok (.putfield 24, 3) := by decide +kernel
theorem dX5_init_41 : decode cX5_init 41 = .ok (.aload_n 0, 1) := by decide +kernel
theorem dX5_init_42 : decode cX5_init 42 = .ok (.aload_n 2, 1) := by decide +kernel
theorem dX5_init_43 : decode cX5_init 43 = .ok (.putfield 28, 3) := by decide +kernel
theorem dX5_init_46 : decode cX5_init 46 = .ok (.return_, 1) := by decide +kernel
theorem dX5_begin_0 : decode cX5_begin 0 = .ok (.aload_n 0, 1) := by decide +kernel
theorem dX5_begin_1 : decode cX5_begin 1 = .ok (.iload_n 1, 1) := by decide +kernel
theorem dX5_begin_2 : decode cX5_begin 2 = .ok (.putfield 32, 3) := by decide +kernel
theorem dX5_begin_5 : decode cX5_begin 5 = .ok (.aload_n 0, 1) := by decide +kernel
theorem dX5_begin_6 : decode cX5_begin 6 = .ok (.iload_n 2, 1) := by decide +kernel
theorem dX5_begin_7 : decode cX5_begin 7 = .ok (.putfield 36, 3) := by decide +kernel
theorem dX5_begin_10 : decode cX5_begin 10 = .ok (.aload_n 0, 1) := by decide +kernel
theorem dX5_begin_11 : decode cX5_begin 11 = .ok (.iload_n 3, 1) := by decide +kernel
theorem dX5_begin_12 : decode cX5_begin 12 = .ok (.putfield 39, 3) := by decide +kernel
theorem dX5_begin_15 : decode cX5_begin 15 = .ok (.aload_n 0, 1) := by decide +kernel
theorem dX5_begin_16 : decode cX5_begin 16 = .ok (.getfield 28, 3) := by decide +kernel
theorem dX5_begin_19 : decode cX5_begin 19 = .ok (.iload_n 2, 1) := by decide +kernel
theorem dX5_begin_20 : decode cX5_begin 20 = .ok (.iconst 0, 1) := by decide +kernel
theorem dX5_begin_21 : decode cX5_begin 21 = .ok (.iconst 0, 1) := by decide +kernel
theorem dX5_begin_22 : decode cX5_begin 22 = .ok (.invokevirtual 42, 3) := by decide +kernel
theorem dX5_begin_25 : decode cX5_begin 25 = .ok (.aload_n 0, 1) := by decide +kernel
theorem dX5_begin_26 : decode cX5_begin 26 = .ok (.getfield 28, 3) := by decide +kernel
theorem dX5_begin_29 : decode cX5_begin 29 = .ok (.getfield 48, 3) := by decide +kernel
theorem dX5_begin_32 : decode cX5_begin 32 = .ok (.aload_n 0, 1) := by decide +kernel
theorem dX5_begin_33 : decode cX5_begin 33 = .ok (.getfield 18, 3) := by decide +kernel
theorem dX5_begin_36 : decode cX5_begin 36 = .ok (.invokestatic 49, 3) := by decide +kernel
theorem dX5_begin_39 : decode cX5_begin 39 = .ok (.aload_n 0, 1) := by decide +kernel
theorem dX5_begin_40 : decode cX5_begin 40 = .ok (.getfield 28, 3) := by decide +kernel
theorem dX5_begin_43 : decode cX5_begin 43 = .ok (.getfield 53, 3) := by decide +kernel
theorem dX5_begin_46 : decode cX5_begin 46 = .ok (.aload_n 0, 1) := by decide +kernel
theorem dX5_begin_47 : decode cX5_begin 47 = .ok (.getfield 21, 3) := by decide +kernel
theorem dX5_begin_50 : decode cX5_begin 50 = .ok (.invokestatic 49, 3) := by decide +kernel
theorem dX5_begin_53 : decode cX5_begin 53 = .ok (.aload_n 0, 1) := by decide +kernel
theorem dX5_begin_54 : decode cX5_begin 54 = .ok (.aload_n 0, 1) := by decide +kernel
theorem dX5_begin_55 : decode cX5_begin 55 = .ok (.invokevirtual 54, 3) := by decide +kernel
theorem dX5_begin_58 : decode cX5_begin 58 = .ok (.ifCond .eq 7, 3) := by decide +kernel
theorem dX5_begin_61 : decode cX5_begin 61 = .ok (.iconst 0, 1) := by decide +kernel
theorem dX5_begin_62 : decode cX5_begin 62 = .ok (.goto 4, 3) := by decide +kernel
theorem dX5_begin_65 : decode cX5_begin 65 = .ok (.iconst (-1), 1) := by decide +kernel
theorem dX5_begin_66 : decode cX5_begin 66 = .ok (.putfield 58, 3) := by decide +kernel
theorem dX5_begin_69 : decode cX5_begin 69 = .ok (.return_, 1) := by decide +kernel
theorem dX5_seekOne_0 : decode cX5_seekOne 0 = .ok (.iconst 0, 1) := by decide +kernel
theorem dX5_seekOne_1 : decode cX5_seekOne 1 = .ok (.istore_n 1, 1) := by decide +kernel
theorem dX5_seekOne_2 : decode cX5_seekOne 2 = .ok (.iload_n 1, 1) := by decide +kernel
theorem dX5_seekOne_3 : decode cX5_seekOne 3 = .ok (.bipush 84, 2) := by decide +kernel
theorem dX5_seekOne_5 : decode cX5_seekOne 5 = .ok (.if_icmp .ge 113, 3) := by decide +kernel
theorem dX5_seekOne_8 : decode cX5_seekOne 8 = .ok (.iload_n 1, 1) := by decide +kernel
theorem dX5_seekOne_9 : decode cX5_seekOne 9 = .ok (.bipush 14, 2) := by decide +kernel
theorem dX5_seekOne_11 : decode cX5_seekOne 11 = .ok (.idiv, 1) := by decide +kernel
theorem dX5_seekOne_12 : decode cX5_seekOne 12 = .ok (.istore_n 2, 1) := by decide +kernel
theorem dX5_seekOne_13 : decode cX5_seekOne 13 = .ok (.aload_n 0, 1) := by decide +kernel
theorem dX5_seekOne_14 : decode cX5_seekOne 14 = .ok (.iload_n 1, 1) := by decide +kernel
theorem dX5_seekOne_15 : decode cX5_seekOne 15 = .ok (.invokevirtual 61, 3) := by decide +kernel
theorem dX5_seekOne_18 : decode cX5_seekOne 18 = .ok (.ifCond .eq 94, 3) := by decide +kernel
theorem dX5_seekOne_21 : decode cX5_seekOne 21 = .ok (.aload_n 0, 1) := by decide +kernel
theorem dX5_seekOne_22 : decode cX5_seekOne 22 = .ok (.getfield 28, 3) := by decide +kernel
theorem dX5_seekOne_25 : decode cX5_seekOne 25 = .ok (.iload_n 2, 1) := by decide +kernel
theorem dX5_seekOne_26 : decode cX5_seekOne 26 = .ok (.aload_n 0, 1) := by decide +kernel
theorem dX5_seekOne_27 : decode cX5_seekOne 27 = .ok (.getfield 24, 3) := by decide +kernel
theorem dX5_seekOne_30 : decode cX5_seekOne 30 = .ok (.getfield 65, 3) := by decide +kernel
theorem dX5_seekOne_33 : decode cX5_seekOne 33 = .ok (.iload_n 2, 1) := by decide +kernel
theorem dX5_seekOne_34 : decode cX5_seekOne 34 = .ok (.invokestatic 70, 3) := by decide +kernel
theorem dX5_seekOne_37 : decode cX5_seekOne 37 = .ok (.iconst 1, 1) := by decide +kernel
theorem dX5_seekOne_38 : decode cX5_seekOne 38 = .ok (.iload_n 1, 1) := by decide +kernel
theorem dX5_seekOne_39 : decode cX5_seekOne 39 = .ok (.bipush 14, 2) := by decide +kernel
theorem dX5_seekOne_41 : decode cX5_seekOne 41 = .ok (.irem, 1) := by decide +kernel
theorem dX5_seekOne_42 : decode cX5_seekOne 42 = .ok (.ishl, 1) := by decide +kernel
theorem dX5_seekOne_43 : decode cX5_seekOne 43 = .ok (.ior, 1) := by decide +kernel
theorem dX5_seekOne_44 : decode cX5_seekOne 44 = .ok (.aload_n 0, 1) := by decide +kernel
theorem dX5_seekOne_45 : decode cX5_seekOne 45 = .ok (.getfield 36, 3) := by decide +kernel
theorem dX5_seekOne_48 : decode cX5_seekOne 48 = .ok (.invokevirtual 74, 3) := by decide +kernel
theorem dX5_seekOne_51 : decode cX5_seekOne 51 = .ok (.aload_n 0, 1) := by decide +kernel
theorem dX5_seekOne_52 : decode cX5_seekOne 52 = .ok (.getfield 11, 3) := by decide +kernel
theorem dX5_seekOne_55 : decode cX5_seekOne 55 = .ok (.iload_n 1, 1) := by decide +kernel
theorem dX5_seekOne_56 : decode cX5_seekOne 56 = .ok (.aload_n 0, 1) := by decide +kernel
theorem dX5_seekOne_57 : decode cX5_seekOne 57 = .ok (.getfield 28, 3) := by decide +kernel
theorem dX5_seekOne_60 : decode cX5_seekOne 60 = .ok (.getfield 48, 3) := by decide +kernel
theorem dX5_seekOne_63 : decode cX5_seekOne 63 = .ok (.iload_n 2, 1) := by decide +kernel
theorem dX5_seekOne_64 : decode cX5_seekOne 64 = .ok (.invokestatic 70, 3) := by decide +kernel
theorem dX5_seekOne_67 : decode cX5_seekOne 67 = .ok (.invokestatic 78, 3) := by decide +kernel
theorem dX5_seekOne_70 : decode cX5_seekOne 70 = .ok (.aload_n 0, 1) := by decide +kernel
theorem dX5_seekOne_71 : decode cX5_seekOne 71 = .ok (.getfield 15, 3) := by decide +kernel
theorem dX5_seekOne_74 : decode cX5_seekOne 74 = .ok (.iload_n 1, 1) := by decide +kernel
theorem dX5_seekOne_75 : decode cX5_seekOne 75 = .ok (.aload_n 0, 1) := by decide +kernel
theorem dX5_seekOne_76 : decode cX5_seekOne 76 = .ok (.getfield 28, 3) := by decide +kernel
theorem dX5_seekOne_79 : decode cX5_seekOne 79 = .ok (.getfield 53, 3) := by decide +kernel
theorem dX5_seekOne_82 : decode cX5_seekOne 82 = .ok (.iload_n 2, 1) := by decide +kernel
theorem dX5_seekOne_83 : decode cX5_seekOne 83 = .ok (.invokestatic 70, 3) := by decide +kernel
theorem dX5_seekOne_86 : decode cX5_seekOne 86 = .ok (.invokestatic 78, 3) := by decide +kernel
theorem dX5_seekOne_89 : decode cX5_seekOne 89 = .ok (.aload_n 0, 1) := by decide +kernel
theorem dX5_seekOne_90 : decode cX5_seekOne 90 = .ok (.invokevirtual 54, 3) := by decide +kernel
theorem dX5_seekOne_93 : decode cX5_seekOne 93 = .ok (.ifCond .eq 14, 3) := by decide +kernel
theorem dX5_seekOne_96 : decode cX5_seekOne 96 = .ok (.aload_n 0, 1) := by decide +kernel
theorem dX5_seekOne_97 : decode cX5_seekOne 97 = .ok (.iconst 1, 1) := by decide +kernel
theorem dX5_seekOne_98 : decode cX5_seekOne 98 = .ok (.putfield 58, 3) := by decide +kernel
theorem dX5_seekOne_101 : decode cX5_seekOne 101 = .ok (.aload_n 0, 1) := by decide +kernel
theorem dX5_seekOne_102 : decode cX5_seekOne 102 = .ok (.iload_n 1, 1) := by decide +kernel
theorem dX5_seekOne_103 : decode cX5_seekOne 103 = .ok (.putfield 82, 3) := by decide +kernel
theorem dX5_seekOne_106 : decode cX5_seekOne 106 = .ok (.return_, 1) := by decide +kernel
theorem dX5_seekOne_107 : decode cX5_seekOne 107 = .ok (.aload_n 0, 1) := by decide +kernel
theorem dX5_seekOne_108 : decode cX5_seekOne 108 = .ok (.iload_n 2, 1) := by decide +kernel
theorem dX5_seekOne_109 : decode cX5_seekOne 109 = .ok (.invokevirtual 85, 3) := by decide +kernel
theorem dX5_seekOne_112 : decode cX5_seekOne 112 = .ok (.iinc 1 1, 3) := by decide +kernel
theorem dX5_seekOne_115 : decode cX5_seekOne 115 = .ok (.goto (-113), 3) := by decide +kernel
theorem dX5_seekOne_118 : decode cX5_seekOne 118 = .ok (.return_, 1) := by decide +kernel
theorem dX5_seekTwo_0 : decode cX5_seekTwo 0 = .ok (.iconst 0, 1) := by decide +kernel
theorem dX5_seekTwo_1 : decode cX5_seekTwo 1 = .ok (.istore_n 1, 1) := by decide +kernel
theorem dX5_seekTwo_2 : decode cX5_seekTwo 2 = .ok (.iload_n 1, 1) := by decide +kernel
theorem dX5_seekTwo_3 : decode cX5_seekTwo 3 = .ok (.bipush 84, 2) := by decide +kernel
theorem dX5_seekTwo_5 : decode cX5_seekTwo 5 = .ok (.if_icmp .ge 66, 3) := by decide +kernel
theorem dX5_seekTwo_8 : decode cX5_seekTwo 8 = .ok (.iload_n 1, 1) := by decide +kernel
theorem dX5_seekTwo_9 : decode cX5_seekTwo 9 = .ok (.iconst 1, 1) := by decide +kernel
theorem dX5_seekTwo_10 : decode cX5_seekTwo 10 = .ok (.iadd, 1) := by decide +kernel
theorem dX5_seekTwo_11 : decode cX5_seekTwo 11 = .ok (.istore_n 2, 1) := by decide +kernel
theorem dX5_seekTwo_12 : decode cX5_seekTwo 12 = .ok (.iload_n 2, 1) := by decide +kernel
theorem dX5_seekTwo_13 : decode cX5_seekTwo 13 = .ok (.bipush 84, 2) := by decide +kernel
theorem dX5_seekTwo_15 : decode cX5_seekTwo 15 = .ok (.if_icmp .ge 50, 3) := by decide +kernel
theorem dX5_seekTwo_18 : decode cX5_seekTwo 18 = .ok (.aload_n 0, 1) := by decide +kernel
theorem dX5_seekTwo_19 : decode cX5_seekTwo 19 = .ok (.iload_n 1, 1) := by decide +kernel
theorem dX5_seekTwo_20 : decode cX5_seekTwo 20 = .ok (.invokevirtual 61, 3) := by decide +kernel
theorem dX5_seekTwo_23 : decode cX5_seekTwo 23 = .ok (.ifCond .eq 36, 3) := by decide +kernel
theorem dX5_seekTwo_26 : decode cX5_seekTwo 26 = .ok (.aload_n 0, 1) := by decide +kernel
theorem dX5_seekTwo_27 : decode cX5_seekTwo 27 = .ok (.iload_n 2, 1) := by decide +kernel
theorem dX5_seekTwo_28 : decode cX5_seekTwo 28 = .ok (.invokevirtual 61, 3) := by decide +kernel
theorem dX5_seekTwo_31 : decode cX5_seekTwo 31 = .ok (.ifCond .eq 28, 3) := by decide +kernel
theorem dX5_seekTwo_34 : decode cX5_seekTwo 34 = .ok (.aload_n 0, 1) := by decide +kernel
theorem dX5_seekTwo_35 : decode cX5_seekTwo 35 = .ok (.iload_n 1, 1) := by decide +kernel
theorem dX5_seekTwo_36 : decode cX5_seekTwo 36 = .ok (.iload_n 2, 1) := by decide +kernel
theorem dX5_seekTwo_37 : decode cX5_seekTwo 37 = .ok (.invokevirtual 89, 3) := by decide +kernel
theorem dX5_seekTwo_40 : decode cX5_seekTwo 40 = .ok (.ifCond .eq 19, 3) := by decide +kernel
theorem dX5_seekTwo_43 : decode cX5_seekTwo 43 = .ok (.aload_n 0, 1) := by decide +kernel
theorem dX5_seekTwo_44 : decode cX5_seekTwo 44 = .ok (.iconst 2, 1) := by decide +kernel
theorem dX5_seekTwo_45 : decode cX5_seekTwo 45 = .ok (.putfield 58, 3) := by decide +kernel
theorem dX5_seekTwo_48 : decode cX5_seekTwo 48 = .ok (.aload_n 0, 1) := by decide +kernel
theorem dX5_seekTwo_49 : decode cX5_seekTwo 49 = .ok (.iload_n 1, 1) := by decide +kernel
theorem dX5_seekTwo_50 : decode cX5_seekTwo 50 = .ok (.putfield 82, 3) := by decide +kernel
theorem dX5_seekTwo_53 : decode cX5_seekTwo 53 = .ok (.aload_n 0, 1) := by decide +kernel
theorem dX5_seekTwo_54 : decode cX5_seekTwo 54 = .ok (.iload_n 2, 1) := by decide +kernel
theorem dX5_seekTwo_55 : decode cX5_seekTwo 55 = .ok (.putfield 93, 3) := by decide +kernel
theorem dX5_seekTwo_58 : decode cX5_seekTwo 58 = .ok (.return_, 1) := by decide +kernel
theorem dX5_seekTwo_59 : decode cX5_seekTwo 59 = .ok (.iinc 2 1, 3) := by decide +kernel
theorem dX5_seekTwo_62 : decode cX5_seekTwo 62 = .ok (.goto (-50), 3) := by decide +kernel
theorem dX5_seekTwo_65 : decode cX5_seekTwo 65 = .ok (.iinc 1 1, 3) := by decide +kernel
theorem dX5_seekTwo_68 : decode cX5_seekTwo 68 = .ok (.goto (-66), 3) := by decide +kernel
theorem dX5_seekTwo_71 : decode cX5_seekTwo 71 = .ok (.return_, 1) := by decide +kernel
theorem dX5_areBothInTime_0 : decode cX5_areBothInTime 0 = .ok (.iload_n 1, 1) := by decide +kernel
theorem dX5_areBothInTime_1 : decode cX5_areBothInTime 1 = .ok (.bipush 14, 2) := by decide +kernel
theorem dX5_areBothInTime_3 : decode cX5_areBothInTime 3 = .ok (.idiv, 1) := by decide +kernel
theorem dX5_areBothInTime_4 : decode cX5_areBothInTime 4 = .ok (.istore_n 3, 1) := by decide +kernel
theorem dX5_areBothInTime_5 : decode cX5_areBothInTime 5 = .ok (.iload_n 2, 1) := by decide +kernel
theorem dX5_areBothInTime_6 : decode cX5_areBothInTime 6 = .ok (.bipush 14, 2) := by decide +kernel
theorem dX5_areBothInTime_8 : decode cX5_areBothInTime 8 = .ok (.idiv, 1) := by decide +kernel
theorem dX5_areBothInTime_9 : decode cX5_areBothInTime 9 = .ok (.istore 4, 2) := by decide +kernel
theorem dX5_areBothInTime_11 : decode cX5_areBothInTime 11 = .ok (.iload_n 3, 1) := by decide +kernel
theorem dX5_areBothInTime_12 : decode cX5_areBothInTime 12 = .ok (.iload 4, 2) := by decide +kernel
theorem dX5_areBothInTime_14 : decode cX5_areBothInTime 14 = .ok (.if_icmp .ne 43, 3) := by decide +kernel
theorem dX5_areBothInTime_17 : decode cX5_areBothInTime 17 = .ok (.aload_n 0, 1) := by decide +kernel
theorem dX5_areBothInTime_18 : decode cX5_areBothInTime 18 = .ok (.getfield 28, 3) := by decide +kernel
theorem dX5_areBothInTime_21 : decode cX5_areBothInTime 21 = .ok (.iload_n 3, 1) := by decide +kernel
theorem dX5_areBothInTime_22 : decode cX5_areBothInTime 22 = .ok (.aload_n 0, 1) := by decide +kernel
theorem dX5_areBothInTime_23 : decode cX5_areBothInTime 23 = .ok (.getfield 24, 3) := by decide +kernel
theorem dX5_areBothInTime_26 : decode cX5_areBothInTime 26 = .ok (.getfield 65, 3) := by decide +kernel
theorem dX5_areBothInTime_29 : decode cX5_areBothInTime 29 = .ok (.iload_n 3, 1) := by decide +kernel
theorem dX5_areBothInTime_30 : decode cX5_areBothInTime 30 = .ok (.invokestatic 70, 3) := by decide +kernel
theorem dX5_areBothInTime_33 : decode cX5_areBothInTime 33 = .ok (.iconst 1, 1) := by decide +kernel
theorem dX5_areBothInTime_34 : decode cX5_areBothInTime 34 = .ok (.iload_n 1, 1) := by decide +kernel
theorem dX5_areBothInTime_35 : decode cX5_areBothInTime 35 = .ok (.bipush 14, 2) := by decide +kernel
theorem dX5_areBothInTime_37 : decode cX5_areBothInTime 37 = .ok (.irem, 1) := by decide +kernel
theorem dX5_areBothInTime_38 : decode cX5_areBothInTime 38 = .ok (.ishl, 1) := by decide +kernel
theorem dX5_areBothInTime_39 : decode cX5_areBothInTime 39 = .ok (.ior, 1) := by decide +kernel
theorem dX5_areBothInTime_40 : decode cX5_areBothInTime 40 = .ok (.iconst 1, 1) := by decide +kernel
theorem dX5_areBothInTime_41 : decode cX5_areBothInTime 41 = .ok (.iload_n 2, 1) := by decide +kernel
theorem dX5_areBothInTime_42 : decode cX5_areBothInTime 42 = .ok (.bipush 14, 2) := by decide +kernel
theorem dX5_areBothInTime_44 : decode cX5_areBothInTime 44 = .ok (.irem, 1) := by decide +kernel
theorem dX5_areBothInTime_45 : decode cX5_areBothInTime 45 = .ok (.ishl, 1) := by decide +kernel
theorem dX5_areBothInTime_46 : decode cX5_areBothInTime 46 = .ok (.ior, 1) := by decide +kernel
theorem dX5_areBothInTime_47 : decode cX5_areBothInTime 47 = .ok (.aload_n 0, 1) := by decide +kernel
theorem dX5_areBothInTime_48 : decode cX5_areBothInTime 48 = .ok (.getfield 36, 3) := by decide +kernel
theorem dX5_areBothInTime_51 : decode cX5_areBothInTime 51 = .ok (.invokevirtual 74, 3) := by decide +kernel
theorem dX5_areBothInTime_54 : decode cX5_areBothInTime 54 = .ok (.goto 31, 3) := by decide +kernel
theorem dX5_areBothInTime_57 : decode cX5_areBothInTime 57 = .ok (.aload_n 0, 1) := by decide +kernel
theorem dX5_areBothInTime_58 : decode cX5_areBothInTime 58 = .ok (.iload_n 1, 1) := by decide +kernel
theorem dX5_areBothInTime_59 : decode cX5_areBothInTime 59 = .ok (.invokevirtual 96, 3) := by decide +kernel
theorem dX5_areBothInTime_62 : decode cX5_areBothInTime 62 = .ok (.ifCond .ne 11, 3) := by decide +kernel
theorem dX5_areBothInTime_65 : decode cX5_areBothInTime 65 = .ok (.aload_n 0, 1) := by decide +kernel
theorem dX5_areBothInTime_66 : decode cX5_areBothInTime 66 = .ok (.iload_n 2, 1) := by decide +kernel
theorem dX5_areBothInTime_67 : decode cX5_areBothInTime 67 = .ok (.invokevirtual 96, 3) := by decide +kernel
theorem dX5_areBothInTime_70 : decode cX5_areBothInTime 70 = .ok (.ifCond .eq 5, 3) := by decide +kernel
theorem dX5_areBothInTime_73 : decode cX5_areBothInTime 73 = .ok (.iconst 0, 1) := by decide +kernel
theorem dX5_areBothInTime_74 : decode cX5_areBothInTime 74 = .ok (.ireturn, 1) := by decide +kernel
theorem dX5_areBothInTime_75 : decode cX5_areBothInTime 75 = .ok (.aload_n 0, 1) := by decide +kernel
theorem dX5_areBothInTime_76 : decode cX5_areBothInTime 76 = .ok (.iload_n 1, 1) := by decide +kernel
theorem dX5_areBothInTime_77 : decode cX5_areBothInTime 77 = .ok (.invokevirtual 99, 3) := by decide +kernel
theorem dX5_areBothInTime_80 : decode cX5_areBothInTime 80 = .ok (.aload_n 0, 1) := by decide +kernel
theorem dX5_areBothInTime_81 : decode cX5_areBothInTime 81 = .ok (.iload_n 2, 1) := by decide +kernel
theorem dX5_areBothInTime_82 : decode cX5_areBothInTime 82 = .ok (.invokevirtual 99, 3) := by decide +kernel
theorem dX5_areBothInTime_85 : decode cX5_areBothInTime 85 = .ok (.aload_n 0, 1) := by decide +kernel
theorem dX5_areBothInTime_86 : decode cX5_areBothInTime 86 = .ok (.invokevirtual 54, 3) := by decide +kernel
theorem dX5_areBothInTime_89 : decode cX5_areBothInTime 89 = .ok (.istore 5, 2) := by decide +kernel
theorem dX5_areBothInTime_91 : decode cX5_areBothInTime 91 = .ok (.aload_n 0, 1) := by decide +kernel
theorem dX5_areBothInTime_92 : decode cX5_areBothInTime 92 = .ok (.iload_n 3, 1) := by decide +kernel
theorem dX5_areBothInTime_93 : decode cX5_areBothInTime 93 = .ok (.invokevirtual 85, 3) := by decide +kernel
theorem dX5_areBothInTime_96 : decode cX5_areBothInTime 96 = .ok (.aload_n 0, 1) := by decide +kernel
theorem dX5_areBothInTime_97 : decode cX5_areBothInTime 97 = .ok (.iload 4, 2) := by decide +kernel
theorem dX5_areBothInTime_99 : decode cX5_areBothInTime 99 = .ok (.invokevirtual 85, 3) := by decide +kernel
theorem dX5_areBothInTime_102 : decode cX5_areBothInTime 102 = .ok (.iload 5, 2) := by decide +kernel
theorem dX5_areBothInTime_104 : decode cX5_areBothInTime 104 = .ok (.ireturn, 1) := by decide +kernel
theorem dX5_canBeLearnt_0 : decode cX5_canBeLearnt 0 = .ok (.iload_n 1, 1) := by decide +kernel
theorem dX5_canBeLearnt_1 : decode cX5_canBeLearnt 1 = .ok (.bipush 14, 2) := by decide +kernel
theorem dX5_canBeLearnt_3 : decode cX5_canBeLearnt 3 = .ok (.idiv, 1) := by decide +kernel
theorem dX5_canBeLearnt_4 : decode cX5_canBeLearnt 4 = .ok (.istore_n 2, 1) := by decide +kernel
theorem dX5_canBeLearnt_5 : decode cX5_canBeLearnt 5 = .ok (.iload_n 1, 1) := by decide +kernel
theorem dX5_canBeLearnt_6 : decode cX5_canBeLearnt 6 = .ok (.bipush 14, 2) := by decide +kernel
theorem dX5_canBeLearnt_8 : decode cX5_canBeLearnt 8 = .ok (.irem, 1) := by decide +kernel
theorem dX5_canBeLearnt_9 : decode cX5_canBeLearnt 9 = .ok (.istore_n 3, 1) := by decide +kernel
theorem dX5_canBeLearnt_10 : decode cX5_canBeLearnt 10 = .ok (.aload_n 0, 1) := by decide +kernel
theorem dX5_canBeLearnt_11 : decode cX5_canBeLearnt 11 = .ok (.getfield 24, 3) := by decide +kernel
theorem dX5_canBeLearnt_14 : decode cX5_canBeLearnt 14 = .ok (.iload_n 2, 1) := by decide +kernel
theorem dX5_canBeLearnt_15 : decode cX5_canBeLearnt 15 = .ok (.invokevirtual 102, 3) := by decide +kernel
theorem dX5_canBeLearnt_18 : decode cX5_canBeLearnt 18 = .ok (.ifCond .eq 36, 3) := by decide +kernel
theorem dX5_canBeLearnt_21 : decode cX5_canBeLearnt 21 = .ok (.aload_n 0, 1) := by decide +kernel
theorem dX5_canBeLearnt_22 : decode cX5_canBeLearnt 22 = .ok (.getfield 24, 3) := by decide +kernel
theorem dX5_canBeLearnt_25 : decode cX5_canBeLearnt 25 = .ok (.iload_n 3, 1) := by decide +kernel
theorem dX5_canBeLearnt_26 : decode cX5_canBeLearnt 26 = .ok (.invokevirtual 105, 3) := by decide +kernel
theorem dX5_canBeLearnt_29 : decode cX5_canBeLearnt 29 = .ok (.ifCond .eq 25, 3) := by decide +kernel
theorem dX5_canBeLearnt_32 : decode cX5_canBeLearnt 32 = .ok (.aload_n 0, 1) := by decide +kernel
theorem dX5_canBeLearnt_33 : decode cX5_canBeLearnt 33 = .ok (.getfield 24, 3) := by decide +kernel
theorem dX5_canBeLearnt_36 : decode cX5_canBeLearnt 36 = .ok (.getfield 65, 3) := by decide +kernel
theorem dX5_canBeLearnt_39 : decode cX5_canBeLearnt 39 = .ok (.iload_n 2, 1) := by decide +kernel
theorem dX5_canBeLearnt_40 : decode cX5_canBeLearnt 40 = .ok (.invokestatic 70, 3) := by decide +kernel
theorem dX5_canBeLearnt_43 : decode cX5_canBeLearnt 43 = .ok (.iload_n 3, 1) := by decide +kernel
theorem dX5_canBeLearnt_44 : decode cX5_canBeLearnt 44 = .ok (.ishr, 1) := by decide +kernel
theorem dX5_canBeLearnt_45 : decode cX5_canBeLearnt 45 = .ok (.iconst 1, 1) := by decide +kernel
theorem dX5_canBeLearnt_46 : decode cX5_canBeLearnt 46 = .ok (.iand, 1) := by decide +kernel
theorem dX5_canBeLearnt_47 : decode cX5_canBeLearnt 47 = .ok (.ifCond .ne 7, 3) := by decide +kernel
theorem dX5_canBeLearnt_50 : decode cX5_canBeLearnt 50 = .ok (.iconst 1, 1) := by decide +kernel
theorem dX5_canBeLearnt_51 : decode cX5_canBeLearnt 51 = .ok (.goto 4, 3) := by decide +kernel
theorem dX5_canBeLearnt_54 : decode cX5_canBeLearnt 54 = .ok (.iconst 0, 1) := by decide +kernel
theorem dX5_canBeLearnt_55 : decode cX5_canBeLearnt 55 = .ok (.ireturn, 1) := by decide +kernel
theorem dX5_changesNothing_0 : decode cX5_changesNothing 0 = .ok (.iload_n 1, 1) := by decide +kernel
theorem dX5_changesNothing_1 : decode cX5_changesNothing 1 = .ok (.bipush 14, 2) := by decide +kernel
theorem dX5_changesNothing_3 : decode cX5_changesNothing 3 = .ok (.idiv, 1) := by decide +kernel
theorem dX5_changesNothing_4 : decode cX5_changesNothing 4 = .ok (.istore_n 2, 1) := by decide +kernel
theorem dX5_changesNothing_5 : decode cX5_changesNothing 5 = .ok (.aload_n 0, 1) := by decide +kernel
theorem dX5_changesNothing_6 : decode cX5_changesNothing 6 = .ok (.getfield 11, 3) := by decide +kernel
theorem dX5_changesNothing_9 : decode cX5_changesNothing 9 = .ok (.iload_n 1, 1) := by decide +kernel
theorem dX5_changesNothing_10 : decode cX5_changesNothing 10 = .ok (.invokestatic 70, 3) := by decide +kernel
theorem dX5_changesNothing_13 : decode cX5_changesNothing 13 = .ok (.aload_n 0, 1) := by decide +kernel
theorem dX5_changesNothing_14 : decode cX5_changesNothing 14 = .ok (.getfield 18, 3) := by decide +kernel
theorem dX5_changesNothing_17 : decode cX5_changesNothing 17 = .ok (.iload_n 2, 1) := by decide +kernel
theorem dX5_changesNothing_18 : decode cX5_changesNothing 18 = .ok (.invokestatic 70, 3) := by decide +kernel
theorem dX5_changesNothing_21 : decode cX5_changesNothing 21 = .ok (.if_icmp .ne 26, 3) := by decide +kernel
theorem dX5_changesNothing_24 : decode cX5_changesNothing 24 = .ok (.aload_n 0, 1) := by decide +kernel
theorem dX5_changesNothing_25 : decode cX5_changesNothing 25 = .ok (.getfield 15, 3) := by decide +kernel
theorem dX5_changesNothing_28 : decode cX5_changesNothing 28 = .ok (.iload_n 1, 1) := by decide +kernel
theorem dX5_changesNothing_29 : decode cX5_changesNothing 29 = .ok (.invokestatic 70, 3) := by decide +kernel
theorem dX5_changesNothing_32 : decode cX5_changesNothing 32 = .ok (.aload_n 0, 1) := by decide +kernel
theorem dX5_changesNothing_33 : decode cX5_changesNothing 33 = .ok (.getfield 21, 3) := by decide +kernel
theorem dX5_changesNothing_36 : decode cX5_changesNothing 36 = .ok (.iload_n 2, 1) := by decide +kernel
theorem dX5_changesNothing_37 : decode cX5_changesNothing 37 = .ok (.invokestatic 70, 3) := by decide +kernel
theorem dX5_changesNothing_40 : decode cX5_changesNothing 40 = .ok (.if_icmp .ne 7, 3) := by decide +kernel
theorem dX5_changesNothing_43 : decode cX5_changesNothing 43 = .ok (.iconst 1, 1) := by decide +kernel
theorem dX5_changesNothing_44 : decode cX5_changesNothing 44 = .ok (.goto 4, 3) := by decide +kernel
theorem dX5_changesNothing_47 : decode cX5_changesNothing 47 = .ok (.iconst 0, 1) := by decide +kernel
theorem dX5_changesNothing_48 : decode cX5_changesNothing 48 = .ok (.ireturn, 1) := by decide +kernel
theorem dX5_apply_0 : decode cX5_apply 0 = .ok (.aload_n 0, 1) := by decide +kernel
theorem dX5_apply_1 : decode cX5_apply 1 = .ok (.getfield 28, 3) := by decide +kernel
theorem dX5_apply_4 : decode cX5_apply 4 = .ok (.getfield 48, 3) := by decide +kernel
theorem dX5_apply_7 : decode cX5_apply 7 = .ok (.iload_n 1, 1) := by decide +kernel
theorem dX5_apply_8 : decode cX5_apply 8 = .ok (.bipush 14, 2) := by decide +kernel
theorem dX5_apply_10 : decode cX5_apply 10 = .ok (.idiv, 1) := by decide +kernel
theorem dX5_apply_11 : decode cX5_apply 11 = .ok (.aload_n 0, 1) := by decide +kernel
theorem dX5_apply_12 : decode cX5_apply 12 = .ok (.getfield 11, 3) := by decide +kernel
theorem dX5_apply_15 : decode cX5_apply 15 = .ok (.iload_n 1, 1) := by decide +kernel
theorem dX5_apply_16 : decode cX5_apply 16 = .ok (.invokestatic 70, 3) := by decide +kernel
theorem dX5_apply_19 : decode cX5_apply 19 = .ok (.invokestatic 78, 3) := by decide +kernel
theorem dX5_apply_22 : decode cX5_apply 22 = .ok (.aload_n 0, 1) := by decide +kernel
theorem dX5_apply_23 : decode cX5_apply 23 = .ok (.getfield 28, 3) := by decide +kernel
theorem dX5_apply_26 : decode cX5_apply 26 = .ok (.getfield 53, 3) := by decide +kernel
theorem dX5_apply_29 : decode cX5_apply 29 = .ok (.iload_n 1, 1) := by decide +kernel
theorem dX5_apply_30 : decode cX5_apply 30 = .ok (.bipush 14, 2) := by decide +kernel
theorem dX5_apply_32 : decode cX5_apply 32 = .ok (.idiv, 1) := by decide +kernel
theorem dX5_apply_33 : decode cX5_apply 33 = .ok (.aload_n 0, 1) := by decide +kernel
theorem dX5_apply_34 : decode cX5_apply 34 = .ok (.getfield 15, 3) := by decide +kernel
theorem dX5_apply_37 : decode cX5_apply 37 = .ok (.iload_n 1, 1) := by decide +kernel
theorem dX5_apply_38 : decode cX5_apply 38 = .ok (.invokestatic 70, 3) := by decide +kernel
theorem dX5_apply_41 : decode cX5_apply 41 = .ok (.invokestatic 78, 3) := by decide +kernel
theorem dX5_apply_44 : decode cX5_apply 44 = .ok (.return_, 1) := by decide +kernel
theorem dX5_unlearn_0 : decode cX5_unlearn 0 = .ok (.aload_n 0, 1) := by decide +kernel
theorem dX5_unlearn_1 : decode cX5_unlearn 1 = .ok (.getfield 28, 3) := by decide +kernel
theorem dX5_unlearn_4 : decode cX5_unlearn 4 = .ok (.getfield 48, 3) := by decide +kernel
theorem dX5_unlearn_7 : decode cX5_unlearn 7 = .ok (.iload_n 1, 1) := by decide +kernel
theorem dX5_unlearn_8 : decode cX5_unlearn 8 = .ok (.aload_n 0, 1) := by decide +kernel
theorem dX5_unlearn_9 : decode cX5_unlearn 9 = .ok (.getfield 18, 3) := by decide +kernel
theorem dX5_unlearn_12 : decode cX5_unlearn 12 = .ok (.iload_n 1, 1) := by decide +kernel
theorem dX5_unlearn_13 : decode cX5_unlearn 13 = .ok (.invokestatic 70, 3) := by decide +kernel
theorem dX5_unlearn_16 : decode cX5_unlearn 16 = .ok (.invokestatic 78, 3) := by decide +kernel
theorem dX5_unlearn_19 : decode cX5_unlearn 19 = .ok (.aload_n 0, 1) := by decide +kernel
theorem dX5_unlearn_20 : decode cX5_unlearn 20 = .ok (.getfield 28, 3) := by decide +kernel
theorem dX5_unlearn_23 : decode cX5_unlearn 23 = .ok (.getfield 53, 3) := by decide +kernel
theorem dX5_unlearn_26 : decode cX5_unlearn 26 = .ok (.iload_n 1, 1) := by decide +kernel
theorem dX5_unlearn_27 : decode cX5_unlearn 27 = .ok (.aload_n 0, 1) := by decide +kernel
theorem dX5_unlearn_28 : decode cX5_unlearn 28 = .ok (.getfield 21, 3) := by decide +kernel
theorem dX5_unlearn_31 : decode cX5_unlearn 31 = .ok (.iload_n 1, 1) := by decide +kernel
theorem dX5_unlearn_32 : decode cX5_unlearn 32 = .ok (.invokestatic 70, 3) := by decide +kernel
theorem dX5_unlearn_35 : decode cX5_unlearn 35 = .ok (.invokestatic 78, 3) := by decide +kernel
theorem dX5_unlearn_38 : decode cX5_unlearn 38 = .ok (.return_, 1) := by decide +kernel
theorem dX5_isInTime_0 : decode cX5_isInTime 0 = .ok (.aload_n 0, 1) := by decide +kernel
theorem dX5_isInTime_1 : decode cX5_isInTime 1 = .ok (.getfield 28, 3) := by decide +kernel
theorem dX5_isInTime_4 : decode cX5_isInTime 4 = .ok (.aload_n 0, 1) := by decide +kernel
theorem dX5_isInTime_5 : decode cX5_isInTime 5 = .ok (.getfield 32, 3) := by decide +kernel
theorem dX5_isInTime_8 : decode cX5_isInTime 8 = .ok (.aload_n 0, 1) := by decide +kernel
theorem dX5_isInTime_9 : decode cX5_isInTime 9 = .ok (.getfield 36, 3) := by decide +kernel
theorem dX5_isInTime_12 : decode cX5_isInTime 12 = .ok (.invokevirtual 108, 3) := by decide +kernel
theorem dX5_isInTime_15 : decode cX5_isInTime 15 = .ok (.istore_n 1, 1) := by decide +kernel
theorem dX5_isInTime_16 : decode cX5_isInTime 16 = .ok (.iload_n 1, 1) := by decide +kernel
theorem dX5_isInTime_17 : decode cX5_isInTime 17 = .ok (.iconst (-1), 1) := by decide +kernel
theorem dX5_isInTime_18 : decode cX5_isInTime 18 = .ok (.if_icmp .eq 15, 3) := by decide +kernel
theorem dX5_isInTime_21 : decode cX5_isInTime 21 = .ok (.iload_n 1, 1) := by decide +kernel
theorem dX5_isInTime_22 : decode cX5_isInTime 22 = .ok (.aload_n 0, 1) := by decide +kernel
theorem dX5_isInTime_23 : decode cX5_isInTime 23 = .ok (.getfield 39, 3) := by decide +kernel
theorem dX5_isInTime_26 : decode cX5_isInTime 26 = .ok (.if_icmp .gt 7, 3) := by decide +kernel
theorem dX5_isInTime_29 : decode cX5_isInTime 29 = .ok (.iconst 1, 1) := by decide +kernel
theorem dX5_isInTime_30 : decode cX5_isInTime 30 = .ok (.goto 4, 3) := by decide +kernel
theorem dX5_isInTime_33 : decode cX5_isInTime 33 = .ok (.iconst 0, 1) := by decide +kernel
theorem dX5_isInTime_34 : decode cX5_isInTime 34 = .ok (.ireturn, 1) := by decide +kernel
theorem dX5_answer_0 : decode cX5_answer 0 = .ok (.iload_n 1, 1) := by decide +kernel
theorem dX5_answer_1 : decode cX5_answer 1 = .ok (.tableswitch 96 0 3 #[31, 36, 56, 76], 31) := by decide +kernel
theorem dX5_answer_32 : decode cX5_answer 32 = .ok (.aload_n 0, 1) := by decide +kernel
theorem dX5_answer_33 : decode cX5_answer 33 = .ok (.getfield 58, 3) := by decide +kernel
theorem dX5_answer_36 : decode cX5_answer 36 = .ok (.ireturn, 1) := by decide +kernel
theorem dX5_answer_37 : decode cX5_answer 37 = .ok (.aload_n 0, 1) := by decide +kernel
theorem dX5_answer_38 : decode cX5_answer 38 = .ok (.getfield 58, 3) := by decide +kernel
theorem dX5_answer_41 : decode cX5_answer 41 = .ok (.iconst 1, 1) := by decide +kernel
theorem dX5_answer_42 : decode cX5_answer 42 = .ok (.if_icmp .ge 7, 3) := by decide +kernel
theorem dX5_answer_45 : decode cX5_answer 45 = .ok (.iconst (-1), 1) := by decide +kernel
theorem dX5_answer_46 : decode cX5_answer 46 = .ok (.goto 10, 3) := by decide +kernel
theorem dX5_answer_49 : decode cX5_answer 49 = .ok (.aload_n 0, 1) := by decide +kernel
theorem dX5_answer_50 : decode cX5_answer 50 = .ok (.getfield 82, 3) := by decide +kernel
theorem dX5_answer_53 : decode cX5_answer 53 = .ok (.bipush 14, 2) := by decide +kernel
theorem dX5_answer_55 : decode cX5_answer 55 = .ok (.idiv, 1) := by decide +kernel
theorem dX5_answer_56 : decode cX5_answer 56 = .ok (.ireturn, 1) := by decide +kernel
theorem dX5_answer_57 : decode cX5_answer 57 = .ok (.aload_n 0, 1) := by decide +kernel
theorem dX5_answer_58 : decode cX5_answer 58 = .ok (.getfield 58, 3) := by decide +kernel
theorem dX5_answer_61 : decode cX5_answer 61 = .ok (.iconst 1, 1) := by decide +kernel
theorem dX5_answer_62 : decode cX5_answer 62 = .ok (.if_icmp .ge 7, 3) := by decide +kernel
theorem dX5_answer_65 : decode cX5_answer 65 = .ok (.iconst (-1), 1) := by decide +kernel
theorem dX5_answer_66 : decode cX5_answer 66 = .ok (.goto 10, 3) := by decide +kernel
theorem dX5_answer_69 : decode cX5_answer 69 = .ok (.aload_n 0, 1) := by decide +kernel
theorem dX5_answer_70 : decode cX5_answer 70 = .ok (.getfield 82, 3) := by decide +kernel
theorem dX5_answer_73 : decode cX5_answer 73 = .ok (.bipush 14, 2) := by decide +kernel
theorem dX5_answer_75 : decode cX5_answer 75 = .ok (.irem, 1) := by decide +kernel
theorem dX5_answer_76 : decode cX5_answer 76 = .ok (.ireturn, 1) := by decide +kernel
theorem dX5_answer_77 : decode cX5_answer 77 = .ok (.aload_n 0, 1) := by decide +kernel
theorem dX5_answer_78 : decode cX5_answer 78 = .ok (.getfield 58, 3) := by decide +kernel
theorem dX5_answer_81 : decode cX5_answer 81 = .ok (.iconst 2, 1) := by decide +kernel
theorem dX5_answer_82 : decode cX5_answer 82 = .ok (.if_icmp .ge 7, 3) := by decide +kernel
theorem dX5_answer_85 : decode cX5_answer 85 = .ok (.iconst (-1), 1) := by decide +kernel
theorem dX5_answer_86 : decode cX5_answer 86 = .ok (.goto 10, 3) := by decide +kernel
theorem dX5_answer_89 : decode cX5_answer 89 = .ok (.aload_n 0, 1) := by decide +kernel
theorem dX5_answer_90 : decode cX5_answer 90 = .ok (.getfield 93, 3) := by decide +kernel
theorem dX5_answer_93 : decode cX5_answer 93 = .ok (.bipush 14, 2) := by decide +kernel
theorem dX5_answer_95 : decode cX5_answer 95 = .ok (.idiv, 1) := by decide +kernel
theorem dX5_answer_96 : decode cX5_answer 96 = .ok (.ireturn, 1) := by decide +kernel
theorem dX5_answer_97 : decode cX5_answer 97 = .ok (.aload_n 0, 1) := by decide +kernel
theorem dX5_answer_98 : decode cX5_answer 98 = .ok (.getfield 58, 3) := by decide +kernel
theorem dX5_answer_101 : decode cX5_answer 101 = .ok (.iconst 2, 1) := by decide +kernel
theorem dX5_answer_102 : decode cX5_answer 102 = .ok (.if_icmp .ge 7, 3) := by decide +kernel
theorem dX5_answer_105 : decode cX5_answer 105 = .ok (.iconst (-1), 1) := by decide +kernel
theorem dX5_answer_106 : decode cX5_answer 106 = .ok (.goto 10, 3) := by decide +kernel
theorem dX5_answer_109 : decode cX5_answer 109 = .ok (.aload_n 0, 1) := by decide +kernel
theorem dX5_answer_110 : decode cX5_answer 110 = .ok (.getfield 93, 3) := by decide +kernel
theorem dX5_answer_113 : decode cX5_answer 113 = .ok (.bipush 14, 2) := by decide +kernel
theorem dX5_answer_115 : decode cX5_answer 115 = .ok (.irem, 1) := by decide +kernel
theorem dX5_answer_116 : decode cX5_answer 116 = .ok (.ireturn, 1) := by decide +kernel
theorem dX7_init_0 : decode cX7_init 0 = .ok (.aload_n 0, 1) := by decide +kernel
theorem dX7_init_1 : decode cX7_init 1 = .ok (.invokespecial 3, 3) := by decide +kernel
theorem dX7_init_4 : decode cX7_init 4 = .ok (.aload_n 0, 1) := by decide +kernel
theorem dX7_init_5 : decode cX7_init 5 = .ok (.new 9, 3) := by decide +kernel
theorem dX7_init_8 : decode cX7_init 8 = .ok (.dup, 1) := by decide +kernel
theorem dX7_init_9 : decode cX7_init 9 = .ok (.invokespecial 11, 3) := by decide +kernel
theorem dX7_init_12 : decode cX7_init 12 = .ok (.putfield 12, 3) := by decide +kernel
theorem dX7_init_15 : decode cX7_init 15 = .ok (.aload_n 0, 1) := by decide +kernel
theorem dX7_init_16 : decode cX7_init 16 = .ok (.iconst (-1), 1) := by decide +kernel
theorem dX7_init_17 : decode cX7_init 17 = .ok (.putfield 18, 3) := by decide +kernel
theorem dX7_init_20 : decode cX7_init 20 = .ok (.return_, 1) := by decide +kernel
theorem dX7_read_0 : decode cX7_read 0 = .ok (.aload_n 0, 1) := by decide +kernel
theorem dX7_read_1 : decode cX7_read 1 = .ok (.aload_n 1, 1) := by decide +kernel
theorem dX7_read_2 : decode cX7_read 2 = .ok (.putfield 22, 3) := by decide +kernel
theorem dX7_read_5 : decode cX7_read 5 = .ok (.aload_n 0, 1) := by decide +kernel
theorem dX7_read_6 : decode cX7_read 6 = .ok (.getfield 12, 3) := by decide +kernel
theorem dX7_read_9 : decode cX7_read 9 = .ok (.invokevirtual 26, 3) := by decide +kernel
theorem dX7_read_12 : decode cX7_read 12 = .ok (.aload_n 0, 1) := by decide +kernel
theorem dX7_read_13 : decode cX7_read 13 = .ok (.iconst 0, 1) := by decide +kernel
theorem dX7_read_14 : decode cX7_read 14 = .ok (.putfield 29, 3) := by decide +kernel
theorem dX7_read_17 : decode cX7_read 17 = .ok (.aload_n 0, 1) := by decide +kernel
theorem dX7_read_18 : decode cX7_read 18 = .ok (.iconst (-1), 1) := by decide +kernel
theorem dX7_read_19 : decode cX7_read 19 = .ok (.putfield 18, 3) := by decide +kernel
theorem dX7_read_22 : decode cX7_read 22 = .ok (.aload_n 0, 1) := by decide +kernel
theorem dX7_read_23 : decode cX7_read 23 = .ok (.iconst 0, 1) := by decide +kernel
theorem dX7_read_24 : decode cX7_read 24 = .ok (.putfield 32, 3) := by decide +kernel
theorem dX7_read_27 : decode cX7_read 27 = .ok (.aload_n 0, 1) := by decide +kernel
theorem dX7_read_28 : decode cX7_read 28 = .ok (.iconst 0, 1) := by decide +kernel
theorem dX7_read_29 : decode cX7_read 29 = .ok (.putfield 35, 3) := by decide +kernel
theorem dX7_read_32 : decode cX7_read 32 = .ok (.aload_n 0, 1) := by decide +kernel
theorem dX7_read_33 : decode cX7_read 33 = .ok (.invokevirtual 38, 3) := by decide +kernel
theorem dX7_read_36 : decode cX7_read 36 = .ok (.iconst 0, 1) := by decide +kernel
theorem dX7_read_37 : decode cX7_read 37 = .ok (.istore_n 2, 1) := by decide +kernel
theorem dX7_read_38 : decode cX7_read 38 = .ok (.iload_n 2, 1) := by decide +kernel
theorem dX7_read_39 : decode cX7_read 39 = .ok (.sipush 400, 3) := by decide +kernel
theorem dX7_read_42 : decode cX7_read 42 = .ok (.if_icmp .ge 96, 3) := by decide +kernel
theorem dX7_read_45 : decode cX7_read 45 = .ok (.aload_n 0, 1) := by decide +kernel
theorem dX7_read_46 : decode cX7_read 46 = .ok (.getfield 29, 3) := by decide +kernel
theorem dX7_read_49 : decode cX7_read 49 = .ok (.ifCond .ne 89, 3) := by decide +kernel
theorem dX7_read_52 : decode cX7_read 52 = .ok (.aload_n 0, 1) := by decide +kernel
theorem dX7_read_53 : decode cX7_read 53 = .ok (.getfield 35, 3) := by decide +kernel
theorem dX7_read_56 : decode cX7_read 56 = .ok (.ifCond .le 82, 3) := by decide +kernel
theorem dX7_read_59 : decode cX7_read 59 = .ok (.aload_n 0, 1) := by decide +kernel
theorem dX7_read_60 : decode cX7_read 60 = .ok (.ldc 41, 2) := by decide +kernel
theorem dX7_read_62 : decode cX7_read 62 = .ok (.invokevirtual 43, 3) := by decide +kernel
theorem dX7_read_65 : decode cX7_read 65 = .ok (.ifCond .eq 10, 3) := by decide +kernel
theorem dX7_read_68 : decode cX7_read 68 = .ok (.aload_n 0, 1) := by decide +kernel
theorem dX7_read_69 : decode cX7_read 69 = .ok (.invokevirtual 47, 3) := by decide +kernel
theorem dX7_read_72 : decode cX7_read 72 = .ok (.goto 60, 3) := by decide +kernel
theorem dX7_read_75 : decode cX7_read 75 = .ok (.aload_n 0, 1) := by decide +kernel
theorem dX7_read_76 : decode cX7_read 76 = .ok (.getfield 12, 3) := by decide +kernel
theorem dX7_read_79 : decode cX7_read 79 = .ok (.getfield 50, 3) := by decide +kernel
theorem dX7_read_82 : decode cX7_read 82 = .ok (.ifCond .le 19, 3) := by decide +kernel
theorem dX7_read_85 : decode cX7_read 85 = .ok (.aload_n 0, 1) := by decide +kernel
theorem dX7_read_86 : decode cX7_read 86 = .ok (.ldc 52, 2) := by decide +kernel
theorem dX7_read_88 : decode cX7_read 88 = .ok (.invokevirtual 43, 3) := by decide +kernel
theorem dX7_read_91 : decode cX7_read 91 = .ok (.ifCond .eq 10, 3) := by decide +kernel
theorem dX7_read_94 : decode cX7_read 94 = .ok (.aload_n 0, 1) := by decide +kernel
theorem dX7_read_95 : decode cX7_read 95 = .ok (.invokevirtual 54, 3) := by decide +kernel
theorem dX7_read_98 : decode cX7_read 98 = .ok (.goto 34, 3) := by decide +kernel
theorem dX7_read_101 : decode cX7_read 101 = .ok (.aload_n 0, 1) := by decide +kernel
theorem dX7_read_102 : decode cX7_read 102 = .ok (.getfield 12, 3) := by decide +kernel
theorem dX7_read_105 : decode cX7_read 105 = .ok (.getfield 50, 3) := by decide +kernel
theorem dX7_read_108 : decode cX7_read 108 = .ok (.ifCond .le 19, 3) := by decide +kernel
theorem dX7_read_111 : decode cX7_read 111 = .ok (.aload_n 0, 1) := by decide +kernel
theorem dX7_read_112 : decode cX7_read 112 = .ok (.ldc 57, 2) := by decide +kernel
theorem dX7_read_114 : decode cX7_read 114 = .ok (.invokevirtual 43, 3) := by decide +kernel
theorem dX7_read_117 : decode cX7_read 117 = .ok (.ifCond .eq 10, 3) := by decide +kernel
theorem dX7_read_120 : decode cX7_read 120 = .ok (.aload_n 0, 1) := by decide +kernel
theorem dX7_read_121 : decode cX7_read 121 = .ok (.invokevirtual 59, 3) := by decide +kernel
theorem dX7_read_124 : decode cX7_read 124 = .ok (.goto 8, 3) := by decide +kernel
theorem dX7_read_127 : decode cX7_read 127 = .ok (.aload_n 0, 1) := by decide +kernel
theorem dX7_read_128 : decode cX7_read 128 = .ok (.iconst 1, 1) := by decide +kernel
theorem dX7_read_129 : decode cX7_read 129 = .ok (.invokevirtual 62, 3) := by decide +kernel
theorem dX7_read_132 : decode cX7_read 132 = .ok (.iinc 2 1, 3) := by decide +kernel
theorem dX7_read_135 : decode cX7_read 135 = .ok (.goto (-97), 3) := by decide +kernel
theorem dX7_read_138 : decode cX7_read 138 = .ok (.aload_n 0, 1) := by decide +kernel
theorem dX7_read_139 : decode cX7_read 139 = .ok (.getfield 29, 3) := by decide +kernel
theorem dX7_read_142 : decode cX7_read 142 = .ok (.ireturn, 1) := by decide +kernel
theorem dX7_readPlaces_0 : decode cX7_readPlaces 0 = .ok (.aload_n 0, 1) := by decide +kernel
theorem dX7_readPlaces_1 : decode cX7_readPlaces 1 = .ok (.getfield 12, 3) := by decide +kernel
theorem dX7_readPlaces_4 : decode cX7_readPlaces 4 = .ok (.getfield 50, 3) := by decide +kernel
theorem dX7_readPlaces_7 : decode cX7_readPlaces 7 = .ok (.ifCond .le 9, 3) := by decide +kernel
theorem dX7_readPlaces_10 : decode cX7_readPlaces 10 = .ok (.aload_n 0, 1) := by decide +kernel
theorem dX7_readPlaces_11 : decode cX7_readPlaces 11 = .ok (.iconst 3, 1) := by decide +kernel
theorem dX7_readPlaces_12 : decode cX7_readPlaces 12 = .ok (.invokevirtual 62, 3) := by decide +kernel
theorem dX7_readPlaces_15 : decode cX7_readPlaces 15 = .ok (.return_, 1) := by decide +kernel
theorem dX7_readPlaces_16 : decode cX7_readPlaces 16 = .ok (.aload_n 0, 1) := by decide +kernel
theorem dX7_readPlaces_17 : decode cX7_readPlaces 17 = .ok (.invokevirtual 38, 3) := by decide +kernel
theorem dX7_readPlaces_20 : decode cX7_readPlaces 20 = .ok (.aload_n 0, 1) := by decide +kernel
theorem dX7_readPlaces_21 : decode cX7_readPlaces 21 = .ok (.iconst 1, 1) := by decide +kernel
theorem dX7_readPlaces_22 : decode cX7_readPlaces 22 = .ok (.bipush 10, 2) := by decide +kernel
theorem dX7_readPlaces_24 : decode cX7_readPlaces 24 = .ok (.invokevirtual 66, 3) := by decide +kernel
theorem dX7_readPlaces_27 : decode cX7_readPlaces 27 = .ok (.istore_n 1, 1) := by decide +kernel
theorem dX7_readPlaces_28 : decode cX7_readPlaces 28 = .ok (.aload_n 0, 1) := by decide +kernel
theorem dX7_readPlaces_29 : decode cX7_readPlaces 29 = .ok (.bipush 59, 2) := by decide +kernel
theorem dX7_readPlaces_31 : decode cX7_readPlaces 31 = .ok (.invokevirtual 70, 3) := by decide +kernel
theorem dX7_readPlaces_34 : decode cX7_readPlaces 34 = .ok (.aload_n 0, 1) := by decide +kernel
theorem dX7_readPlaces_35 : decode cX7_readPlaces 35 = .ok (.getfield 12, 3) := by decide +kernel
theorem dX7_readPlaces_38 : decode cX7_readPlaces 38 = .ok (.iload_n 1, 1) := by decide +kernel
theorem dX7_readPlaces_39 : decode cX7_readPlaces 39 = .ok (.putfield 50, 3) := by decide +kernel
theorem dX7_readPlaces_42 : decode cX7_readPlaces 42 = .ok (.return_, 1) := by decide +kernel
theorem dX7_readWay_0 : decode cX7_readWay 0 = .ok (.aload_n 0, 1) := by decide +kernel
theorem dX7_readWay_1 : decode cX7_readWay 1 = .ok (.getfield 12, 3) := by decide +kernel
theorem dX7_readWay_4 : decode cX7_readWay 4 = .ok (.getfield 74, 3) := by decide +kernel
theorem dX7_readWay_7 : decode cX7_readWay 7 = .ok (.bipush 14, 2) := by decide +kernel
theorem dX7_readWay_9 : decode cX7_readWay 9 = .ok (.if_icmp .lt 9, 3) := by decide +kernel
theorem dX7_readWay_12 : decode cX7_readWay 12 = .ok (.aload_n 0, 1) := by decide +kernel
theorem dX7_readWay_13 : decode cX7_readWay 13 = .ok (.iconst 3, 1) := by decide +kernel
theorem dX7_readWay_14 : decode cX7_readWay 14 = .ok (.invokevirtual 62, 3) := by decide +kernel
theorem dX7_readWay_17 : decode cX7_readWay 17 = .ok (.return_, 1) := by decide +kernel
theorem dX7_readWay_18 : decode cX7_readWay 18 = .ok (.aload_n 0, 1) := by decide +kernel
theorem dX7_readWay_19 : decode cX7_readWay 19 = .ok (.invokevirtual 38, 3) := by decide +kernel
theorem dX7_readWay_22 : decode cX7_readWay 22 = .ok (.aload_n 0, 1) := by decide +kernel
theorem dX7_readWay_23 : decode cX7_readWay 23 = .ok (.iconst 0, 1) := by decide +kernel
theorem dX7_readWay_24 : decode cX7_readWay 24 = .ok (.aload_n 0, 1) := by decide +kernel
theorem dX7_readWay_25 : decode cX7_readWay 25 = .ok (.getfield 12, 3) := by decide +kernel
theorem dX7_readWay_28 : decode cX7_readWay 28 = .ok (.getfield 50, 3) := by decide +kernel
theorem dX7_readWay_31 : decode cX7_readWay 31 = .ok (.iconst 1, 1) := by decide +kernel
theorem dX7_readWay_32 : decode cX7_readWay 32 = .ok (.isub, 1) := by decide +kernel
theorem dX7_readWay_33 : decode cX7_readWay 33 = .ok (.invokevirtual 66, 3) := by decide +kernel
theorem dX7_readWay_36 : decode cX7_readWay 36 = .ok (.istore_n 1, 1) := by decide +kernel
theorem dX7_readWay_37 : decode cX7_readWay 37 = .ok (.aload_n 0, 1) := by decide +kernel
theorem dX7_readWay_38 : decode cX7_readWay 38 = .ok (.iconst 0, 1) := by decide +kernel
theorem dX7_readWay_39 : decode cX7_readWay 39 = .ok (.aload_n 0, 1) := by decide +kernel
theorem dX7_readWay_40 : decode cX7_readWay 40 = .ok (.getfield 12, 3) := by decide +kernel
theorem dX7_readWay_43 : decode cX7_readWay 43 = .ok (.getfield 50, 3) := by decide +kernel
theorem dX7_readWay_46 : decode cX7_readWay 46 = .ok (.iconst 1, 1) := by decide +kernel
theorem dX7_readWay_47 : decode cX7_readWay 47 = .ok (.isub, 1) := by decide +kernel
theorem dX7_readWay_48 : decode cX7_readWay 48 = .ok (.invokevirtual 77, 3) := by decide +kernel
theorem dX7_readWay_51 : decode cX7_readWay 51 = .ok (.istore_n 2, 1) := by decide +kernel
theorem dX7_readWay_52 : decode cX7_readWay 52 = .ok (.iload_n 1, 1) := by decide +kernel
theorem dX7_readWay_53 : decode cX7_readWay 53 = .ok (.iload_n 2, 1) := by decide +kernel
theorem dX7_readWay_54 : decode cX7_readWay 54 = .ok (.if_icmp .eq 15, 3) := by decide +kernel
theorem dX7_readWay_57 : decode cX7_readWay 57 = .ok (.aload_n 0, 1) := by decide +kernel
theorem dX7_readWay_58 : decode cX7_readWay 58 = .ok (.getfield 12, 3) := by decide +kernel
theorem dX7_readWay_61 : decode cX7_readWay 61 = .ok (.iload_n 1, 1) := by decide +kernel
theorem dX7_readWay_62 : decode cX7_readWay 62 = .ok (.iload_n 2, 1) := by decide +kernel
theorem dX7_readWay_63 : decode cX7_readWay 63 = .ok (.invokevirtual 80, 3) := by decide +kernel
theorem dX7_readWay_66 : decode cX7_readWay 66 = .ok (.ifCond .eq 8, 3) := by decide +kernel
theorem dX7_readWay_69 : decode cX7_readWay 69 = .ok (.aload_n 0, 1) := by decide +kernel
theorem dX7_readWay_70 : decode cX7_readWay 70 = .ok (.iconst 4, 1) := by decide +kernel
theorem dX7_readWay_71 : decode cX7_readWay 71 = .ok (.invokevirtual 62, 3) := by decide +kernel
theorem dX7_readWay_74 : decode cX7_readWay 74 = .ok (.aload_n 0, 1) := by decide +kernel
theorem dX7_readWay_75 : decode cX7_readWay 75 = .ok (.invokevirtual 38, 3) := by decide +kernel
theorem dX7_readWay_78 : decode cX7_readWay 78 = .ok (.aload_n 0, 1) := by decide +kernel
theorem dX7_readWay_79 : decode cX7_readWay 79 = .ok (.iconst 1, 1) := by decide +kernel
theorem dX7_readWay_80 : decode cX7_readWay 80 = .ok (.bipush 99, 2) := by decide +kernel
theorem dX7_readWay_82 : decode cX7_readWay 82 = .ok (.invokevirtual 66, 3) := by decide +kernel
theorem dX7_readWay_85 : decode cX7_readWay 85 = .ok (.istore_n 3, 1) := by decide +kernel
theorem dX7_readWay_86 : decode cX7_readWay 86 = .ok (.aload_n 0, 1) := by decide +kernel
theorem dX7_readWay_87 : decode cX7_readWay 87 = .ok (.bipush 59, 2) := by decide +kernel
theorem dX7_readWay_89 : decode cX7_readWay 89 = .ok (.invokevirtual 70, 3) := by decide +kernel
theorem dX7_readWay_92 : decode cX7_readWay 92 = .ok (.aload_n 0, 1) := by decide +kernel
theorem dX7_readWay_93 : decode cX7_readWay 93 = .ok (.getfield 12, 3) := by decide +kernel
theorem dX7_readWay_96 : decode cX7_readWay 96 = .ok (.getfield 84, 3) := by decide +kernel
theorem dX7_readWay_99 : decode cX7_readWay 99 = .ok (.aload_n 0, 1) := by decide +kernel
theorem dX7_readWay_100 : decode cX7_readWay 100 = .ok (.getfield 12, 3) := by decide +kernel
theorem dX7_readWay_103 : decode cX7_readWay 103 = .ok (.getfield 74, 3) := by decide +kernel
theorem dX7_readWay_106 : decode cX7_readWay 106 = .ok (.iload_n 1, 1) := by decide +kernel
theorem dX7_readWay_107 : decode cX7_readWay 107 = .ok (.invokestatic 88, 3) := by decide +kernel
theorem dX7_readWay_110 : decode cX7_readWay 110 = .ok (.aload_n 0, 1) := by decide +kernel
theorem dX7_readWay_111 : decode cX7_readWay 111 = .ok (.getfield 12, 3) := by decide +kernel
theorem dX7_readWay_114 : decode cX7_readWay 114 = .ok (.getfield 92, 3) := by decide +kernel
theorem dX7_readWay_117 : decode cX7_readWay 117 = .ok (.aload_n 0, 1) := by decide +kernel
theorem dX7_readWay_118 : decode cX7_readWay 118 = .ok (.getfield 12, 3) := by decide +kernel
theorem dX7_readWay_121 : decode cX7_readWay 121 = .ok (.getfield 74, 3) := by decide +kernel
theorem dX7_readWay_124 : decode cX7_readWay 124 = .ok (.iload_n 2, 1) := by decide +kernel
theorem dX7_readWay_125 : decode cX7_readWay 125 = .ok (.invokestatic 88, 3) := by decide +kernel
theorem dX7_readWay_128 : decode cX7_readWay 128 = .ok (.aload_n 0, 1) := by decide +kernel
theorem dX7_readWay_129 : decode cX7_readWay 129 = .ok (.getfield 12, 3) := by decide +kernel
theorem dX7_readWay_132 : decode cX7_readWay 132 = .ok (.getfield 95, 3) := by decide +kernel
theorem dX7_readWay_135 : decode cX7_readWay 135 = .ok (.aload_n 0, 1) := by decide +kernel
theorem dX7_readWay_136 : decode cX7_readWay 136 = .ok (.getfield 12, 3) := by decide +kernel
theorem dX7_readWay_139 : decode cX7_readWay 139 = .ok (.getfield 74, 3) := by decide +kernel
theorem dX7_readWay_142 : decode cX7_readWay 142 = .ok (.iload_n 3, 1) := by decide +kernel
theorem dX7_readWay_143 : decode cX7_readWay 143 = .ok (.invokestatic 88, 3) := by decide +kernel
theorem dX7_readWay_146 : decode cX7_readWay 146 = .ok (.aload_n 0, 1) := by decide +kernel
theorem dX7_readWay_147 : decode cX7_readWay 147 = .ok (.getfield 12, 3) := by decide +kernel
theorem dX7_readWay_150 : decode cX7_readWay 150 = .ok (.dup, 1) := by decide +kernel
theorem dX7_readWay_151 : decode cX7_readWay 151 = .ok (.getfield 74, 3) := by decide +kernel
theorem dX7_readWay_154 : decode cX7_readWay 154 = .ok (.iconst 1, 1) := by decide +kernel
theorem dX7_readWay_155 : decode cX7_readWay 155 = .ok (.iadd, 1) := by decide +kernel
theorem dX7_readWay_156 : decode cX7_readWay 156 = .ok (.putfield 74, 3) := by decide +kernel
theorem dX7_readWay_159 : decode cX7_readWay 159 = .ok (.return_, 1) := by decide +kernel
theorem dX7_readPerson_0 : decode cX7_readPerson 0 = .ok (.aload_n 0, 1) := by decide +kernel
theorem dX7_readPerson_1 : decode cX7_readPerson 1 = .ok (.getfield 12, 3) := by decide +kernel
theorem dX7_readPerson_4 : decode cX7_readPerson 4 = .ok (.getfield 98, 3) := by decide +kernel
theorem dX7_readPerson_7 : decode cX7_readPerson 7 = .ok (.istore_n 1, 1) := by decide +kernel
theorem dX7_readPerson_8 : decode cX7_readPerson 8 = .ok (.iload_n 1, 1) := by decide +kernel
theorem dX7_readPerson_9 : decode cX7_readPerson 9 = .ok (.bipush 6, 2) := by decide +kernel
theorem dX7_readPerson_11 : decode cX7_readPerson 11 = .ok (.if_icmp .lt 9, 3) := by decide +kernel
theorem dX7_readPerson_14 : decode cX7_readPerson 14 = .ok (.aload_n 0, 1) := by decide +kernel
theorem dX7_readPerson_15 : decode cX7_readPerson 15 = .ok (.iconst 3, 1) := by decide +kernel
theorem dX7_readPerson_16 : decode cX7_readPerson 16 = .ok (.invokevirtual 62, 3) := by decide +kernel
theorem dX7_readPerson_19 : decode cX7_readPerson 19 = .ok (.return_, 1) := by decide +kernel
theorem dX7_readPerson_20 : decode cX7_readPerson 20 = .ok (.aload_n 0, 1) := by decide +kernel
theorem dX7_readPerson_21 : decode cX7_readPerson 21 = .ok (.invokevirtual 38, 3) := by decide +kernel
theorem dX7_readPerson_24 : decode cX7_readPerson 24 = .ok (.aload_n 0, 1) := by decide +kernel
theorem dX7_readPerson_25 : decode cX7_readPerson 25 = .ok (.getfield 12, 3) := by decide +kernel
theorem dX7_readPerson_28 : decode cX7_readPerson 28 = .ok (.getfield 101, 3) := by decide +kernel
theorem dX7_readPerson_31 : decode cX7_readPerson 31 = .ok (.iload_n 1, 1) := by decide +kernel
theorem dX7_readPerson_32 : decode cX7_readPerson 32 = .ok (.aload_n 0, 1) := by decide +kernel
theorem dX7_readPerson_33 : decode cX7_readPerson 33 = .ok (.iconst 0, 1) := by decide +kernel
theorem dX7_readPerson_34 : decode cX7_readPerson 34 = .ok (.aload_n 0, 1) := by decide +kernel
theorem dX7_readPerson_35 : decode cX7_readPerson 35 = .ok (.getfield 12, 3) := by decide +kernel
theorem dX7_readPerson_38 : decode cX7_readPerson 38 = .ok (.getfield 50, 3) := by decide +kernel
theorem dX7_readPerson_41 : decode cX7_readPerson 41 = .ok (.iconst 1, 1) := by decide +kernel
theorem dX7_readPerson_42 : decode cX7_readPerson 42 = .ok (.isub, 1) := by decide +kernel
theorem dX7_readPerson_43 : decode cX7_readPerson 43 = .ok (.invokevirtual 66, 3) := by decide +kernel
theorem dX7_readPerson_46 : decode cX7_readPerson 46 = .ok (.invokestatic 88, 3) := by decide +kernel
theorem dX7_readPerson_49 : decode cX7_readPerson 49 = .ok (.aload_n 0, 1) := by decide +kernel
theorem dX7_readPerson_50 : decode cX7_readPerson 50 = .ok (.getfield 12, 3) := by decide +kernel
theorem dX7_readPerson_53 : decode cX7_readPerson 53 = .ok (.getfield 104, 3) := by decide +kernel
theorem dX7_readPerson_56 : decode cX7_readPerson 56 = .ok (.iload_n 1, 1) := by decide +kernel
theorem dX7_readPerson_57 : decode cX7_readPerson 57 = .ok (.aload_n 0, 1) := by decide +kernel
theorem dX7_readPerson_58 : decode cX7_readPerson 58 = .ok (.iconst 0, 1) := by decide +kernel
theorem dX7_readPerson_59 : decode cX7_readPerson 59 = .ok (.aload_n 0, 1) := by decide +kernel
theorem dX7_readPerson_60 : decode cX7_readPerson 60 = .ok (.getfield 12, 3) := by decide +kernel
theorem dX7_readPerson_63 : decode cX7_readPerson 63 = .ok (.getfield 50, 3) := by decide +kernel
theorem dX7_readPerson_66 : decode cX7_readPerson 66 = .ok (.iconst 1, 1) := by decide +kernel
theorem dX7_readPerson_67 : decode cX7_readPerson 67 = .ok (.isub, 1) := by decide +kernel
theorem dX7_readPerson_68 : decode cX7_readPerson 68 = .ok (.invokevirtual 66, 3) := by decide +kernel
theorem dX7_readPerson_71 : decode cX7_readPerson 71 = .ok (.invokestatic 88, 3) := by decide +kernel
theorem dX7_readPerson_74 : decode cX7_readPerson 74 = .ok (.aload_n 0, 1) := by decide +kernel
theorem dX7_readPerson_75 : decode cX7_readPerson 75 = .ok (.getfield 12, 3) := by decide +kernel
theorem dX7_readPerson_78 : decode cX7_readPerson 78 = .ok (.getfield 107, 3) := by decide +kernel
theorem dX7_readPerson_81 : decode cX7_readPerson 81 = .ok (.iload_n 1, 1) := by decide +kernel
theorem dX7_readPerson_82 : decode cX7_readPerson 82 = .ok (.aload_n 0, 1) := by decide +kernel
theorem dX7_readPerson_83 : decode cX7_readPerson 83 = .ok (.iconst 0, 1) := by decide +kernel
theorem dX7_readPerson_84 : decode cX7_readPerson 84 = .ok (.bipush 99, 2) := by decide +kernel
theorem dX7_readPerson_86 : decode cX7_readPerson 86 = .ok (.invokevirtual 66, 3) := by decide +kernel
theorem dX7_readPerson_89 : decode cX7_readPerson 89 = .ok (.invokestatic 88, 3) := by decide +kernel
theorem dX7_readPerson_92 : decode cX7_readPerson 92 = .ok (.aload_n 0, 1) := by decide +kernel
theorem dX7_readPerson_93 : decode cX7_readPerson 93 = .ok (.getfield 12, 3) := by decide +kernel
theorem dX7_readPerson_96 : decode cX7_readPerson 96 = .ok (.getfield 110, 3) := by decide +kernel
theorem dX7_readPerson_99 : decode cX7_readPerson 99 = .ok (.iload_n 1, 1) := by decide +kernel
theorem dX7_readPerson_100 : decode cX7_readPerson 100 = .ok (.aload_n 0, 1) := by decide +kernel
theorem dX7_readPerson_101 : decode cX7_readPerson 101 = .ok (.invokevirtual 113, 3) := by decide +kernel
theorem dX7_readPerson_104 : decode cX7_readPerson 104 = .ok (.invokestatic 88, 3) := by decide +kernel
theorem dX7_readPerson_107 : decode cX7_readPerson 107 = .ok (.aload_n 0, 1) := by decide +kernel
theorem dX7_readPerson_108 : decode cX7_readPerson 108 = .ok (.getfield 12, 3) := by decide +kernel
theorem dX7_readPerson_111 : decode cX7_readPerson 111 = .ok (.getfield 117, 3) := by decide +kernel
theorem dX7_readPerson_114 : decode cX7_readPerson 114 = .ok (.iload_n 1, 1) := by decide +kernel
theorem dX7_readPerson_115 : decode cX7_readPerson 115 = .ok (.aload_n 0, 1) := by decide +kernel
theorem dX7_readPerson_116 : decode cX7_readPerson 116 = .ok (.ldc 120, 2) := by decide +kernel
theorem dX7_readPerson_118 : decode cX7_readPerson 118 = .ok (.invokevirtual 43, 3) := by decide +kernel
theorem dX7_readPerson_121 : decode cX7_readPerson 121 = .ok (.ifCond .eq 10, 3) := by decide +kernel
theorem dX7_readPerson_124 : decode cX7_readPerson 124 = .ok (.aload_n 0, 1) := by decide +kernel
theorem dX7_readPerson_125 : decode cX7_readPerson 125 = .ok (.invokevirtual 122, 3) := by decide +kernel
theorem dX7_readPerson_128 : decode cX7_readPerson 128 = .ok (.goto 4, 3) := by decide +kernel
theorem dX7_readPerson_131 : decode cX7_readPerson 131 = .ok (.iconst 0, 1) := by decide +kernel
theorem dX7_readPerson_132 : decode cX7_readPerson 132 = .ok (.invokestatic 88, 3) := by decide +kernel
theorem dX7_readPerson_135 : decode cX7_readPerson 135 = .ok (.aload_n 0, 1) := by decide +kernel
theorem dX7_readPerson_136 : decode cX7_readPerson 136 = .ok (.bipush 59, 2) := by decide +kernel
theorem dX7_readPerson_138 : decode cX7_readPerson 138 = .ok (.invokevirtual 70, 3) := by decide +kernel
theorem dX7_readPerson_141 : decode cX7_readPerson 141 = .ok (.aload_n 0, 1) := by decide +kernel
theorem dX7_readPerson_142 : decode cX7_readPerson 142 = .ok (.getfield 12, 3) := by decide +kernel
theorem dX7_readPerson_145 : decode cX7_readPerson 145 = .ok (.dup, 1) := by decide +kernel
theorem dX7_readPerson_146 : decode cX7_readPerson 146 = .ok (.getfield 98, 3) := by decide +kernel
theorem dX7_readPerson_149 : decode cX7_readPerson 149 = .ok (.iconst 1, 1) := by decide +kernel
theorem dX7_readPerson_150 : decode cX7_readPerson 150 = .ok (.iadd, 1) := by decide +kernel
theorem dX7_readPerson_151 : decode cX7_readPerson 151 = .ok (.putfield 98, 3) := by decide +kernel
theorem dX7_readPerson_154 : decode cX7_readPerson 154 = .ok (.return_, 1) := by decide +kernel
theorem dX7_takeHabit_0 : decode cX7_takeHabit 0 = .ok (.aload_n 0, 1) := by decide +kernel
theorem dX7_takeHabit_1 : decode cX7_takeHabit 1 = .ok (.ldc 125, 2) := by decide +kernel
theorem dX7_takeHabit_3 : decode cX7_takeHabit 3 = .ok (.invokevirtual 43, 3) := by decide +kernel
theorem dX7_takeHabit_6 : decode cX7_takeHabit 6 = .ok (.ifCond .eq 7, 3) := by decide +kernel
theorem dX7_takeHabit_9 : decode cX7_takeHabit 9 = .ok (.iconst 0, 1) := by decide +kernel
theorem dX7_takeHabit_10 : decode cX7_takeHabit 10 = .ok (.goto 43, 3) := by decide +kernel
theorem dX7_takeHabit_13 : decode cX7_takeHabit 13 = .ok (.aload_n 0, 1) := by decide +kernel
theorem dX7_takeHabit_14 : decode cX7_takeHabit 14 = .ok (.ldc 127, 2) := by decide +kernel
theorem dX7_takeHabit_16 : decode cX7_takeHabit 16 = .ok (.invokevirtual 43, 3) := by decide +kernel
theorem dX7_takeHabit_19 : decode cX7_takeHabit 19 = .ok (.ifCond .eq 7, 3) := by decide +kernel
theorem dX7_takeHabit_22 : decode cX7_takeHabit 22 = .ok (.iconst 1, 1) := by decide +kernel
theorem dX7_takeHabit_23 : decode cX7_takeHabit 23 = .ok (.goto 30, 3) := by decide +kernel
theorem dX7_takeHabit_26 : decode cX7_takeHabit 26 = .ok (.aload_n 0, 1) := by decide +kernel
theorem dX7_takeHabit_27 : decode cX7_takeHabit 27 = .ok (.ldc 129, 2) := by decide +kernel
theorem dX7_takeHabit_29 : decode cX7_takeHabit 29 = .ok (.invokevirtual 43, 3) := by decide +kernel
theorem dX7_takeHabit_32 : decode cX7_takeHabit 32 = .ok (.ifCond .eq 7, 3) := by decide +kernel
theorem dX7_takeHabit_35 : decode cX7_takeHabit 35 = .ok (.iconst 2, 1) := by decide +kernel
theorem dX7_takeHabit_36 : decode cX7_takeHabit 36 = .ok (.goto 17, 3) := by decide +kernel
theorem dX7_takeHabit_39 : decode cX7_takeHabit 39 = .ok (.aload_n 0, 1) := by decide +kernel
theorem dX7_takeHabit_40 : decode cX7_takeHabit 40 = .ok (.ldc 131, 2) := by decide +kernel
theorem dX7_takeHabit_42 : decode cX7_takeHabit 42 = .ok (.invokevirtual 43, 3) := by decide +kernel
theorem dX7_takeHabit_45 : decode cX7_takeHabit 45 = .ok (.ifCond .eq 7, 3) := by decide +kernel
theorem dX7_takeHabit_48 : decode cX7_takeHabit 48 = .ok (.iconst 3, 1) := by decide +kernel
theorem dX7_takeHabit_49 : decode cX7_takeHabit 49 = .ok (.goto 4, 3) := by decide +kernel
theorem dX7_takeHabit_52 : decode cX7_takeHabit 52 = .ok (.iconst (-1), 1) := by decide +kernel
theorem dX7_takeHabit_53 : decode cX7_takeHabit 53 = .ok (.istore_n 1, 1) := by decide +kernel
theorem dX7_takeHabit_54 : decode cX7_takeHabit 54 = .ok (.iload_n 1, 1) := by decide +kernel
theorem dX7_takeHabit_55 : decode cX7_takeHabit 55 = .ok (.iconst (-1), 1) := by decide +kernel
theorem dX7_takeHabit_56 : decode cX7_takeHabit 56 = .ok (.if_icmp .ne 8, 3) := by decide +kernel
theorem dX7_takeHabit_59 : decode cX7_takeHabit 59 = .ok (.aload_n 0, 1) := by decide +kernel
theorem dX7_takeHabit_60 : decode cX7_takeHabit 60 = .ok (.iconst 1, 1) := by decide +kernel
theorem dX7_takeHabit_61 : decode cX7_takeHabit 61 = .ok (.invokevirtual 62, 3) := by decide +kernel
theorem dX7_takeHabit_64 : decode cX7_takeHabit 64 = .ok (.aload_n 0, 1) := by decide +kernel
theorem dX7_takeHabit_65 : decode cX7_takeHabit 65 = .ok (.invokevirtual 38, 3) := by decide +kernel
theorem dX7_takeHabit_68 : decode cX7_takeHabit 68 = .ok (.iload_n 1, 1) := by decide +kernel
theorem dX7_takeHabit_69 : decode cX7_takeHabit 69 = .ok (.ireturn, 1) := by decide +kernel
theorem dX7_takeKnown_0 : decode cX7_takeKnown 0 = .ok (.iconst 0, 1) := by decide +kernel
theorem dX7_takeKnown_1 : decode cX7_takeKnown 1 = .ok (.istore_n 1, 1) := by decide +kernel
theorem dX7_takeKnown_2 : decode cX7_takeKnown 2 = .ok (.iconst 1, 1) := by decide +kernel
theorem dX7_takeKnown_3 : decode cX7_takeKnown 3 = .ok (.istore_n 2, 1) := by decide +kernel
theorem dX7_takeKnown_4 : decode cX7_takeKnown 4 = .ok (.iconst 0, 1) := by decide +kernel
theorem dX7_takeKnown_5 : decode cX7_takeKnown 5 = .ok (.istore_n 3, 1) := by decide +kernel
theorem dX7_takeKnown_6 : decode cX7_takeKnown 6 = .ok (.iload_n 3, 1) := by decide +kernel
theorem dX7_takeKnown_7 : decode cX7_takeKnown 7 = .ok (.sipush 400, 3) := by decide +kernel
theorem dX7_takeKnown_10 : decode cX7_takeKnown 10 = .ok (.if_icmp .ge 89, 3) := by decide +kernel
theorem dX7_takeKnown_13 : decode cX7_takeKnown 13 = .ok (.iload_n 2, 1) := by decide +kernel
theorem dX7_takeKnown_14 : decode cX7_takeKnown 14 = .ok (.ifCond .eq 85, 3) := by decide +kernel
theorem dX7_takeKnown_17 : decode cX7_takeKnown 17 = .ok (.aload_n 0, 1) := by decide +kernel
theorem dX7_takeKnown_18 : decode cX7_takeKnown 18 = .ok (.getfield 29, 3) := by decide +kernel
theorem dX7_takeKnown_21 : decode cX7_takeKnown 21 = .ok (.ifCond .ne 78, 3) := by decide +kernel
theorem dX7_takeKnown_24 : decode cX7_takeKnown 24 = .ok (.aload_n 0, 1) := by decide +kernel
theorem dX7_takeKnown_25 : decode cX7_takeKnown 25 = .ok (.invokevirtual 38, 3) := by decide +kernel
theorem dX7_takeKnown_28 : decode cX7_takeKnown 28 = .ok (.aload_n 0, 1) := by decide +kernel
theorem dX7_takeKnown_29 : decode cX7_takeKnown 29 = .ok (.iconst 0, 1) := by decide +kernel
theorem dX7_takeKnown_30 : decode cX7_takeKnown 30 = .ok (.aload_n 0, 1) := by decide +kernel
theorem dX7_takeKnown_31 : decode cX7_takeKnown 31 = .ok (.getfield 12, 3) := by decide +kernel
theorem dX7_takeKnown_34 : decode cX7_takeKnown 34 = .ok (.getfield 74, 3) := by decide +kernel
theorem dX7_takeKnown_37 : decode cX7_takeKnown 37 = .ok (.iconst 1, 1) := by decide +kernel
theorem dX7_takeKnown_38 : decode cX7_takeKnown 38 = .ok (.isub, 1) := by decide +kernel
theorem dX7_takeKnown_39 : decode cX7_takeKnown 39 = .ok (.invokevirtual 77, 3) := by decide +kernel
theorem dX7_takeKnown_42 : decode cX7_takeKnown 42 = .ok (.istore 4, 2) := by decide +kernel
theorem dX7_takeKnown_44 : decode cX7_takeKnown 44 = .ok (.iload 4, 2) := by decide +kernel
theorem dX7_takeKnown_46 : decode cX7_takeKnown 46 = .ok (.iconst (-1), 1) := by decide +kernel
theorem dX7_takeKnown_47 : decode cX7_takeKnown 47 = .ok (.if_icmp .eq 18, 3) := by decide +kernel
theorem dX7_takeKnown_50 : decode cX7_takeKnown 50 = .ok (.iload_n 1, 1) := by decide +kernel
theorem dX7_takeKnown_51 : decode cX7_takeKnown 51 = .ok (.iload 4, 2) := by decide +kernel
theorem dX7_takeKnown_53 : decode cX7_takeKnown 53 = .ok (.ishr, 1) := by decide +kernel
theorem dX7_takeKnown_54 : decode cX7_takeKnown 54 = .ok (.iconst 1, 1) := by decide +kernel
theorem dX7_takeKnown_55 : decode cX7_takeKnown 55 = .ok (.iand, 1) := by decide +kernel
theorem dX7_takeKnown_56 : decode cX7_takeKnown 56 = .ok (.iconst 1, 1) := by decide +kernel
theorem dX7_takeKnown_57 : decode cX7_takeKnown 57 = .ok (.if_icmp .ne 8, 3) := by decide +kernel
theorem dX7_takeKnown_60 : decode cX7_takeKnown 60 = .ok (.aload_n 0, 1) := by decide +kernel
theorem dX7_takeKnown_61 : decode cX7_takeKnown 61 = .ok (.iconst 4, 1) := by decide +kernel
theorem dX7_takeKnown_62 : decode cX7_takeKnown 62 = .ok (.invokevirtual 62, 3) := by decide +kernel
theorem dX7_takeKnown_65 : decode cX7_takeKnown 65 = .ok (.iload_n 1, 1) := by decide +kernel
theorem dX7_takeKnown_66 : decode cX7_takeKnown 66 = .ok (.iload 4, 2) := by decide +kernel
theorem dX7_takeKnown_68 : decode cX7_takeKnown 68 = .ok (.iconst (-1), 1) := by decide +kernel
theorem dX7_takeKnown_69 : decode cX7_takeKnown 69 = .ok (.if_icmp .ne 7, 3) := by decide +kernel
theorem dX7_takeKnown_72 : decode cX7_takeKnown 72 = .ok (.iconst 0, 1) := by decide +kernel
theorem dX7_takeKnown_73 : decode cX7_takeKnown 73 = .ok (.goto 7, 3) := by decide +kernel
theorem dX7_takeKnown_76 : decode cX7_takeKnown 76 = .ok (.iconst 1, 1) := by decide +kernel
theorem dX7_takeKnown_77 : decode cX7_takeKnown 77 = .ok (.iload 4, 2) := by decide +kernel
theorem dX7_takeKnown_79 : decode cX7_takeKnown 79 = .ok (.ishl, 1) := by decide +kernel
theorem dX7_takeKnown_80 : decode cX7_takeKnown 80 = .ok (.ior, 1) := by decide +kernel
theorem dX7_takeKnown_81 : decode cX7_takeKnown 81 = .ok (.istore_n 1, 1) := by decide +kernel
theorem dX7_takeKnown_82 : decode cX7_takeKnown 82 = .ok (.aload_n 0, 1) := by decide +kernel
theorem dX7_takeKnown_83 : decode cX7_takeKnown 83 = .ok (.invokevirtual 38, 3) := by decide +kernel
theorem dX7_takeKnown_86 : decode cX7_takeKnown 86 = .ok (.aload_n 0, 1) := by decide +kernel
theorem dX7_takeKnown_87 : decode cX7_takeKnown 87 = .ok (.bipush 44, 2) := by decide +kernel
theorem dX7_takeKnown_89 : decode cX7_takeKnown 89 = .ok (.invokevirtual 133, 3) := by decide +kernel
theorem dX7_takeKnown_92 : decode cX7_takeKnown 92 = .ok (.istore_n 2, 1) := by decide +kernel
theorem dX7_takeKnown_93 : decode cX7_takeKnown 93 = .ok (.iinc 3 1, 3) := by decide +kernel
theorem dX7_takeKnown_96 : decode cX7_takeKnown 96 = .ok (.goto (-90), 3) := by decide +kernel
theorem dX7_takeKnown_99 : decode cX7_takeKnown 99 = .ok (.iload_n 1, 1) := by decide +kernel
theorem dX7_takeKnown_100 : decode cX7_takeKnown 100 = .ok (.ireturn, 1) := by decide +kernel
theorem dX7_takeNumber_0 : decode cX7_takeNumber 0 = .ok (.aload_n 0, 1) := by decide +kernel
theorem dX7_takeNumber_1 : decode cX7_takeNumber 1 = .ok (.iload_n 1, 1) := by decide +kernel
theorem dX7_takeNumber_2 : decode cX7_takeNumber 2 = .ok (.iload_n 2, 1) := by decide +kernel
theorem dX7_takeNumber_3 : decode cX7_takeNumber 3 = .ok (.invokevirtual 77, 3) := by decide +kernel
theorem dX7_takeNumber_6 : decode cX7_takeNumber 6 = .ok (.istore_n 3, 1) := by decide +kernel
theorem dX7_takeNumber_7 : decode cX7_takeNumber 7 = .ok (.aload_n 0, 1) := by decide +kernel
theorem dX7_takeNumber_8 : decode cX7_takeNumber 8 = .ok (.invokevirtual 38, 3) := by decide +kernel
theorem dX7_takeNumber_11 : decode cX7_takeNumber 11 = .ok (.iload_n 3, 1) := by decide +kernel
theorem dX7_takeNumber_12 : decode cX7_takeNumber 12 = .ok (.ireturn, 1) := by decide +kernel
theorem dX7_seeNumber_0 : decode cX7_seeNumber 0 = .ok (.aload_n 0, 1) := by decide +kernel
theorem dX7_seeNumber_1 : decode cX7_seeNumber 1 = .ok (.getfield 137, 3) := by decide +kernel
theorem dX7_seeNumber_4 : decode cX7_seeNumber 4 = .ok (.ifCond .ne 11, 3) := by decide +kernel
theorem dX7_seeNumber_7 : decode cX7_seeNumber 7 = .ok (.aload_n 0, 1) := by decide +kernel
theorem dX7_seeNumber_8 : decode cX7_seeNumber 8 = .ok (.iconst 1, 1) := by decide +kernel
theorem dX7_seeNumber_9 : decode cX7_seeNumber 9 = .ok (.invokevirtual 62, 3) := by decide +kernel
theorem dX7_seeNumber_12 : decode cX7_seeNumber 12 = .ok (.goto 32, 3) := by decide +kernel
theorem dX7_seeNumber_15 : decode cX7_seeNumber 15 = .ok (.aload_n 0, 1) := by decide +kernel
theorem dX7_seeNumber_16 : decode cX7_seeNumber 16 = .ok (.getfield 35, 3) := by decide +kernel
theorem dX7_seeNumber_19 : decode cX7_seeNumber 19 = .ok (.iconst 3, 1) := by decide +kernel
theorem dX7_seeNumber_20 : decode cX7_seeNumber 20 = .ok (.if_icmp .gt 19, 3) := by decide +kernel
theorem dX7_seeNumber_23 : decode cX7_seeNumber 23 = .ok (.aload_n 0, 1) := by decide +kernel
theorem dX7_seeNumber_24 : decode cX7_seeNumber 24 = .ok (.getfield 141, 3) := by decide +kernel
theorem dX7_seeNumber_27 : decode cX7_seeNumber 27 = .ok (.iload_n 1, 1) := by decide +kernel
theorem dX7_seeNumber_28 : decode cX7_seeNumber 28 = .ok (.if_icmp .lt 11, 3) := by decide +kernel
theorem dX7_seeNumber_31 : decode cX7_seeNumber 31 = .ok (.aload_n 0, 1) := by decide +kernel
theorem dX7_seeNumber_32 : decode cX7_seeNumber 32 = .ok (.getfield 141, 3) := by decide +kernel
theorem dX7_seeNumber_35 : decode cX7_seeNumber 35 = .ok (.iload_n 2, 1) := by decide +kernel
theorem dX7_seeNumber_36 : decode cX7_seeNumber 36 = .ok (.if_icmp .le 8, 3) := by decide +kernel
theorem dX7_seeNumber_39 : decode cX7_seeNumber 39 = .ok (.aload_n 0, 1) := by decide +kernel
theorem dX7_seeNumber_40 : decode cX7_seeNumber 40 = .ok (.iconst 2, 1) := by decide +kernel
theorem dX7_seeNumber_41 : decode cX7_seeNumber 41 = .ok (.invokevirtual 62, 3) := by decide +kernel
theorem dX7_seeNumber_44 : decode cX7_seeNumber 44 = .ok (.aload_n 0, 1) := by decide +kernel
theorem dX7_seeNumber_45 : decode cX7_seeNumber 45 = .ok (.getfield 29, 3) := by decide +kernel
theorem dX7_seeNumber_48 : decode cX7_seeNumber 48 = .ok (.ifCond .ne 10, 3) := by decide +kernel
theorem dX7_seeNumber_51 : decode cX7_seeNumber 51 = .ok (.aload_n 0, 1) := by decide +kernel
theorem dX7_seeNumber_52 : decode cX7_seeNumber 52 = .ok (.getfield 141, 3) := by decide +kernel
theorem dX7_seeNumber_55 : decode cX7_seeNumber 55 = .ok (.goto 4, 3) := by decide +kernel
theorem dX7_seeNumber_58 : decode cX7_seeNumber 58 = .ok (.iconst (-1), 1) := by decide +kernel
theorem dX7_seeNumber_59 : decode cX7_seeNumber 59 = .ok (.ireturn, 1) := by decide +kernel
theorem dX7_takeSign_0 : decode cX7_takeSign 0 = .ok (.aload_n 0, 1) := by decide +kernel
theorem dX7_takeSign_1 : decode cX7_takeSign 1 = .ok (.iload_n 1, 1) := by decide +kernel
theorem dX7_takeSign_2 : decode cX7_takeSign 2 = .ok (.invokevirtual 133, 3) := by decide +kernel
theorem dX7_takeSign_5 : decode cX7_takeSign 5 = .ok (.ifCond .ne 8, 3) := by decide +kernel
theorem dX7_takeSign_8 : decode cX7_takeSign 8 = .ok (.aload_n 0, 1) := by decide +kernel
theorem dX7_takeSign_9 : decode cX7_takeSign 9 = .ok (.iconst 1, 1) := by decide +kernel
theorem dX7_takeSign_10 : decode cX7_takeSign 10 = .ok (.invokevirtual 62, 3) := by decide +kernel
theorem dX7_takeSign_13 : decode cX7_takeSign 13 = .ok (.aload_n 0, 1) := by decide +kernel
theorem dX7_takeSign_14 : decode cX7_takeSign 14 = .ok (.invokevirtual 38, 3) := by decide +kernel
theorem dX7_takeSign_17 : decode cX7_takeSign 17 = .ok (.return_, 1) := by decide +kernel
theorem dX7_isSign_0 : decode cX7_isSign 0 = .ok (.aload_n 0, 1) := by decide +kernel
theorem dX7_isSign_1 : decode cX7_isSign 1 = .ok (.getfield 35, 3) := by decide +kernel
theorem dX7_isSign_4 : decode cX7_isSign 4 = .ok (.iconst 1, 1) := by decide +kernel
theorem dX7_isSign_5 : decode cX7_isSign 5 = .ok (.if_icmp .ne 19, 3) := by decide +kernel
theorem dX7_isSign_8 : decode cX7_isSign 8 = .ok (.aload_n 0, 1) := by decide +kernel
theorem dX7_isSign_9 : decode cX7_isSign 9 = .ok (.aload_n 0, 1) := by decide +kernel
theorem dX7_isSign_10 : decode cX7_isSign 10 = .ok (.getfield 32, 3) := by decide +kernel
theorem dX7_isSign_13 : decode cX7_isSign 13 = .ok (.invokevirtual 144, 3) := by decide +kernel
theorem dX7_isSign_16 : decode cX7_isSign 16 = .ok (.iload_n 1, 1) := by decide +kernel
theorem dX7_isSign_17 : decode cX7_isSign 17 = .ok (.if_icmp .ne 7, 3) := by decide +kernel
theorem dX7_isSign_20 : decode cX7_isSign 20 = .ok (.iconst 1, 1) := by decide +kernel
theorem dX7_isSign_21 : decode cX7_isSign 21 = .ok (.goto 4, 3) := by decide +kernel
theorem dX7_isSign_24 : decode cX7_isSign 24 = .ok (.iconst 0, 1) := by decide +kernel
theorem dX7_isSign_25 : decode cX7_isSign 25 = .ok (.ireturn, 1) := by decide +kernel
theorem dX7_isWord_0 : decode cX7_isWord 0 = .ok (.aload_n 0, 1) := by decide +kernel
theorem dX7_isWord_1 : decode cX7_isWord 1 = .ok (.getfield 148, 3) := by decide +kernel
theorem dX7_isWord_4 : decode cX7_isWord 4 = .ok (.ifCond .eq 18, 3) := by decide +kernel
theorem dX7_isWord_7 : decode cX7_isWord 7 = .ok (.aload_n 0, 1) := by decide +kernel
theorem dX7_isWord_8 : decode cX7_isWord 8 = .ok (.getfield 35, 3) := by decide +kernel
theorem dX7_isWord_11 : decode cX7_isWord 11 = .ok (.aload_n 1, 1) := by decide +kernel
theorem dX7_isWord_12 : decode cX7_isWord 12 = .ok (.invokevirtual 151, 3) := by decide +kernel
theorem dX7_isWord_15 : decode cX7_isWord 15 = .ok (.if_icmp .ne 7, 3) := by decide +kernel
theorem dX7_isWord_18 : decode cX7_isWord 18 = .ok (.iconst 1, 1) := by decide +kernel
theorem dX7_isWord_19 : decode cX7_isWord 19 = .ok (.goto 4, 3) := by decide +kernel
theorem dX7_isWord_22 : decode cX7_isWord 22 = .ok (.iconst 0, 1) := by decide +kernel
theorem dX7_isWord_23 : decode cX7_isWord 23 = .ok (.istore_n 2, 1) := by decide +kernel
theorem dX7_isWord_24 : decode cX7_isWord 24 = .ok (.iconst 0, 1) := by decide +kernel
theorem dX7_isWord_25 : decode cX7_isWord 25 = .ok (.istore_n 3, 1) := by decide +kernel
theorem dX7_isWord_26 : decode cX7_isWord 26 = .ok (.iload_n 3, 1) := by decide +kernel
theorem dX7_isWord_27 : decode cX7_isWord 27 = .ok (.aload_n 1, 1) := by decide +kernel
theorem dX7_isWord_28 : decode cX7_isWord 28 = .ok (.invokevirtual 151, 3) := by decide +kernel
theorem dX7_isWord_31 : decode cX7_isWord 31 = .ok (.if_icmp .ge 37, 3) := by decide +kernel
theorem dX7_isWord_34 : decode cX7_isWord 34 = .ok (.iload_n 2, 1) := by decide +kernel
theorem dX7_isWord_35 : decode cX7_isWord 35 = .ok (.ifCond .eq 33, 3) := by decide +kernel
theorem dX7_isWord_38 : decode cX7_isWord 38 = .ok (.aload_n 0, 1) := by decide +kernel
theorem dX7_isWord_39 : decode cX7_isWord 39 = .ok (.aload_n 0, 1) := by decide +kernel
theorem dX7_isWord_40 : decode cX7_isWord 40 = .ok (.getfield 32, 3) := by decide +kernel
theorem dX7_isWord_43 : decode cX7_isWord 43 = .ok (.iload_n 3, 1) := by decide +kernel
theorem dX7_isWord_44 : decode cX7_isWord 44 = .ok (.iadd, 1) := by decide +kernel
theorem dX7_isWord_45 : decode cX7_isWord 45 = .ok (.invokevirtual 144, 3) := by decide +kernel
theorem dX7_isWord_48 : decode cX7_isWord 48 = .ok (.aload_n 1, 1) := by decide +kernel
theorem dX7_isWord_49 : decode cX7_isWord 49 = .ok (.iload_n 3, 1) := by decide +kernel
theorem dX7_isWord_50 : decode cX7_isWord 50 = .ok (.invokevirtual 155, 3) := by decide +kernel
theorem dX7_isWord_53 : decode cX7_isWord 53 = .ok (.if_icmp .ne 7, 3) := by decide +kernel
theorem dX7_isWord_56 : decode cX7_isWord 56 = .ok (.iconst 1, 1) := by decide +kernel
theorem dX7_isWord_57 : decode cX7_isWord 57 = .ok (.goto 4, 3) := by decide +kernel
theorem dX7_isWord_60 : decode cX7_isWord 60 = .ok (.iconst 0, 1) := by decide +kernel
theorem dX7_isWord_61 : decode cX7_isWord 61 = .ok (.istore_n 2, 1) := by decide +kernel
theorem dX7_isWord_62 : decode cX7_isWord 62 = .ok (.iinc 3 1, 3) := by decide +kernel
theorem dX7_isWord_65 : decode cX7_isWord 65 = .ok (.goto (-39), 3) := by decide +kernel
theorem dX7_isWord_68 : decode cX7_isWord 68 = .ok (.iload_n 2, 1) := by decide +kernel
theorem dX7_isWord_69 : decode cX7_isWord 69 = .ok (.ireturn, 1) := by decide +kernel
theorem dX7_blame_0 : decode cX7_blame 0 = .ok (.aload_n 0, 1) := by decide +kernel
theorem dX7_blame_1 : decode cX7_blame 1 = .ok (.getfield 29, 3) := by decide +kernel
theorem dX7_blame_4 : decode cX7_blame 4 = .ok (.ifCond .ne 16, 3) := by decide +kernel
theorem dX7_blame_7 : decode cX7_blame 7 = .ok (.aload_n 0, 1) := by decide +kernel
theorem dX7_blame_8 : decode cX7_blame 8 = .ok (.iload_n 1, 1) := by decide +kernel
theorem dX7_blame_9 : decode cX7_blame 9 = .ok (.putfield 29, 3) := by decide +kernel
theorem dX7_blame_12 : decode cX7_blame 12 = .ok (.aload_n 0, 1) := by decide +kernel
theorem dX7_blame_13 : decode cX7_blame 13 = .ok (.aload_n 0, 1) := by decide +kernel
theorem dX7_blame_14 : decode cX7_blame 14 = .ok (.getfield 32, 3) := by decide +kernel
theorem dX7_blame_17 : decode cX7_blame 17 = .ok (.putfield 18, 3) := by decide +kernel
theorem dX7_blame_20 : decode cX7_blame 20 = .ok (.return_, 1) := by decide +kernel
theorem dX7_step_0 : decode cX7_step 0 = .ok (.aload_n 0, 1) := by decide +kernel
theorem dX7_step_1 : decode cX7_step 1 = .ok (.dup, 1) := by decide +kernel
theorem dX7_step_2 : decode cX7_step 2 = .ok (.getfield 32, 3) := by decide +kernel
theorem dX7_step_5 : decode cX7_step 5 = .ok (.aload_n 0, 1) := by decide +kernel
theorem dX7_step_6 : decode cX7_step 6 = .ok (.getfield 35, 3) := by decide +kernel
theorem dX7_step_9 : decode cX7_step 9 = .ok (.iadd, 1) := by decide +kernel
theorem dX7_step_10 : decode cX7_step 10 = .ok (.putfield 32, 3) := by decide +kernel
theorem dX7_step_13 : decode cX7_step 13 = .ok (.iconst 0, 1) := by decide +kernel
theorem dX7_step_14 : decode cX7_step 14 = .ok (.istore_n 1, 1) := by decide +kernel
theorem dX7_step_15 : decode cX7_step 15 = .ok (.iload_n 1, 1) := by decide +kernel
theorem dX7_step_16 : decode cX7_step 16 = .ok (.sipush 400, 3) := by decide +kernel
theorem dX7_step_19 : decode cX7_step 19 = .ok (.if_icmp .ge 32, 3) := by decide +kernel
theorem dX7_step_22 : decode cX7_step 22 = .ok (.aload_n 0, 1) := by decide +kernel
theorem dX7_step_23 : decode cX7_step 23 = .ok (.aload_n 0, 1) := by decide +kernel
theorem dX7_step_24 : decode cX7_step 24 = .ok (.getfield 32, 3) := by decide +kernel
theorem dX7_step_27 : decode cX7_step 27 = .ok (.invokevirtual 144, 3) := by decide +kernel
theorem dX7_step_30 : decode cX7_step 30 = .ok (.bipush 32, 2) := by decide +kernel
theorem dX7_step_32 : decode cX7_step 32 = .ok (.if_icmp .ne 19, 3) := by decide +kernel
theorem dX7_step_35 : decode cX7_step 35 = .ok (.aload_n 0, 1) := by decide +kernel
theorem dX7_step_36 : decode cX7_step 36 = .ok (.dup, 1) := by decide +kernel
theorem dX7_step_37 : decode cX7_step 37 = .ok (.getfield 32, 3) := by decide +kernel
theorem dX7_step_40 : decode cX7_step 40 = .ok (.iconst 1, 1) := by decide +kernel
theorem dX7_step_41 : decode cX7_step 41 = .ok (.iadd, 1) := by decide +kernel
theorem dX7_step_42 : decode cX7_step 42 = .ok (.putfield 32, 3) := by decide +kernel
theorem dX7_step_45 : decode cX7_step 45 = .ok (.iinc 1 1, 3) := by decide +kernel
theorem dX7_step_48 : decode cX7_step 48 = .ok (.goto (-33), 3) := by decide +kernel
theorem dX7_step_51 : decode cX7_step 51 = .ok (.aload_n 0, 1) := by decide +kernel
theorem dX7_step_52 : decode cX7_step 52 = .ok (.aload_n 0, 1) := by decide +kernel
theorem dX7_step_53 : decode cX7_step 53 = .ok (.aload_n 0, 1) := by decide +kernel
theorem dX7_step_54 : decode cX7_step 54 = .ok (.getfield 32, 3) := by decide +kernel
theorem dX7_step_57 : decode cX7_step 57 = .ok (.invokevirtual 144, 3) := by decide +kernel
theorem dX7_step_60 : decode cX7_step 60 = .ok (.invokestatic 159, 3) := by decide +kernel
theorem dX7_step_63 : decode cX7_step 63 = .ok (.putfield 148, 3) := by decide +kernel
theorem dX7_step_66 : decode cX7_step 66 = .ok (.aload_n 0, 1) := by decide +kernel
theorem dX7_step_67 : decode cX7_step 67 = .ok (.aload_n 0, 1) := by decide +kernel
theorem dX7_step_68 : decode cX7_step 68 = .ok (.aload_n 0, 1) := by decide +kernel
theorem dX7_step_69 : decode cX7_step 69 = .ok (.getfield 32, 3) := by decide +kernel
theorem dX7_step_72 : decode cX7_step 72 = .ok (.invokevirtual 144, 3) := by decide +kernel
theorem dX7_step_75 : decode cX7_step 75 = .ok (.invokestatic 163, 3) := by decide +kernel
theorem dX7_step_78 : decode cX7_step 78 = .ok (.putfield 137, 3) := by decide +kernel
theorem dX7_step_81 : decode cX7_step 81 = .ok (.aload_n 0, 1) := by decide +kernel
theorem dX7_step_82 : decode cX7_step 82 = .ok (.aload_n 0, 1) := by decide +kernel
theorem dX7_step_83 : decode cX7_step 83 = .ok (.aload_n 0, 1) := by decide +kernel
theorem dX7_step_84 : decode cX7_step 84 = .ok (.getfield 32, 3) := by decide +kernel
theorem dX7_step_87 : decode cX7_step 87 = .ok (.invokevirtual 144, 3) := by decide +kernel
theorem dX7_step_90 : decode cX7_step 90 = .ok (.iconst (-1), 1) := by decide +kernel
theorem dX7_step_91 : decode cX7_step 91 = .ok (.if_icmp .ne 7, 3) := by decide +kernel
theorem dX7_step_94 : decode cX7_step 94 = .ok (.iconst 0, 1) := by decide +kernel
theorem dX7_step_95 : decode cX7_step 95 = .ok (.goto 4, 3) := by decide +kernel
theorem dX7_step_98 : decode cX7_step 98 = .ok (.iconst 1, 1) := by decide +kernel
theorem dX7_step_99 : decode cX7_step 99 = .ok (.putfield 35, 3) := by decide +kernel
theorem dX7_step_102 : decode cX7_step 102 = .ok (.aload_n 0, 1) := by decide +kernel
theorem dX7_step_103 : decode cX7_step 103 = .ok (.aload_n 0, 1) := by decide +kernel
theorem dX7_step_104 : decode cX7_step 104 = .ok (.aload_n 0, 1) := by decide +kernel
theorem dX7_step_105 : decode cX7_step 105 = .ok (.getfield 32, 3) := by decide +kernel
theorem dX7_step_108 : decode cX7_step 108 = .ok (.invokevirtual 144, 3) := by decide +kernel
theorem dX7_step_111 : decode cX7_step 111 = .ok (.bipush 48, 2) := by decide +kernel
theorem dX7_step_113 : decode cX7_step 113 = .ok (.isub, 1) := by decide +kernel
theorem dX7_step_114 : decode cX7_step 114 = .ok (.putfield 141, 3) := by decide +kernel
theorem dX7_step_117 : decode cX7_step 117 = .ok (.iconst 1, 1) := by decide +kernel
theorem dX7_step_118 : decode cX7_step 118 = .ok (.istore_n 1, 1) := by decide +kernel
theorem dX7_step_119 : decode cX7_step 119 = .ok (.iload_n 1, 1) := by decide +kernel
theorem dX7_step_120 : decode cX7_step 120 = .ok (.sipush 400, 3) := by decide +kernel
theorem dX7_step_123 : decode cX7_step 123 = .ok (.if_icmp .ge 76, 3) := by decide +kernel
theorem dX7_step_126 : decode cX7_step 126 = .ok (.aload_n 0, 1) := by decide +kernel
theorem dX7_step_127 : decode cX7_step 127 = .ok (.aload_n 0, 1) := by decide +kernel
theorem dX7_step_128 : decode cX7_step 128 = .ok (.aload_n 0, 1) := by decide +kernel
theorem dX7_step_129 : decode cX7_step 129 = .ok (.getfield 32, 3) := by decide +kernel
theorem dX7_step_132 : decode cX7_step 132 = .ok (.iload_n 1, 1) := by decide +kernel
theorem dX7_step_133 : decode cX7_step 133 = .ok (.iadd, 1) := by decide +kernel
theorem dX7_step_134 : decode cX7_step 134 = .ok (.invokevirtual 144, 3) := by decide +kernel
theorem dX7_step_137 : decode cX7_step 137 = .ok (.invokevirtual 166, 3) := by decide +kernel
theorem dX7_step_140 : decode cX7_step 140 = .ok (.ifCond .eq 59, 3) := by decide +kernel
theorem dX7_step_143 : decode cX7_step 143 = .ok (.aload_n 0, 1) := by decide +kernel
theorem dX7_step_144 : decode cX7_step 144 = .ok (.dup, 1) := by decide +kernel
theorem dX7_step_145 : decode cX7_step 145 = .ok (.getfield 35, 3) := by decide +kernel
theorem dX7_step_148 : decode cX7_step 148 = .ok (.iconst 1, 1) := by decide +kernel
theorem dX7_step_149 : decode cX7_step 149 = .ok (.iadd, 1) := by decide +kernel
theorem dX7_step_150 : decode cX7_step 150 = .ok (.putfield 35, 3) := by decide +kernel
theorem dX7_step_153 : decode cX7_step 153 = .ok (.aload_n 0, 1) := by decide +kernel
theorem dX7_step_154 : decode cX7_step 154 = .ok (.aload_n 0, 1) := by decide +kernel
theorem dX7_step_155 : decode cX7_step 155 = .ok (.getfield 35, 3) := by decide +kernel
theorem dX7_step_158 : decode cX7_step 158 = .ok (.iconst 3, 1) := by decide +kernel
theorem dX7_step_159 : decode cX7_step 159 = .ok (.if_icmp .le 10, 3) := by decide +kernel
theorem dX7_step_162 : decode cX7_step 162 = .ok (.aload_n 0, 1) := by decide +kernel
theorem dX7_step_163 : decode cX7_step 163 = .ok (.getfield 141, 3) := by decide +kernel
theorem dX7_step_166 : decode cX7_step 166 = .ok (.goto 24, 3) := by decide +kernel
theorem dX7_step_169 : decode cX7_step 169 = .ok (.aload_n 0, 1) := by decide +kernel
theorem dX7_step_170 : decode cX7_step 170 = .ok (.getfield 141, 3) := by decide +kernel
theorem dX7_step_173 : decode cX7_step 173 = .ok (.bipush 10, 2) := by decide +kernel
theorem dX7_step_175 : decode cX7_step 175 = .ok (.imul, 1) := by decide +kernel
theorem dX7_step_176 : decode cX7_step 176 = .ok (.aload_n 0, 1) := by decide +kernel
theorem dX7_step_177 : decode cX7_step 177 = .ok (.aload_n 0, 1) := by decide +kernel
theorem dX7_step_178 : decode cX7_step 178 = .ok (.getfield 32, 3) := by decide +kernel
theorem dX7_step_181 : decode cX7_step 181 = .ok (.iload_n 1, 1) := by decide +kernel
theorem dX7_step_182 : decode cX7_step 182 = .ok (.iadd, 1) := by decide +kernel
theorem dX7_step_183 : decode cX7_step 183 = .ok (.invokevirtual 144, 3) := by decide +kernel
theorem dX7_step_186 : decode cX7_step 186 = .ok (.iadd, 1) := by decide +kernel
theorem dX7_step_187 : decode cX7_step 187 = .ok (.bipush 48, 2) := by decide +kernel
theorem dX7_step_189 : decode cX7_step 189 = .ok (.isub, 1) := by decide +kernel
theorem dX7_step_190 : decode cX7_step 190 = .ok (.putfield 141, 3) := by decide +kernel
theorem dX7_step_193 : decode cX7_step 193 = .ok (.iinc 1 1, 3) := by decide +kernel
theorem dX7_step_196 : decode cX7_step 196 = .ok (.goto (-77), 3) := by decide +kernel
theorem dX7_step_199 : decode cX7_step 199 = .ok (.return_, 1) := by decide +kernel
theorem dX7_goesOn_0 : decode cX7_goesOn 0 = .ok (.aload_n 0, 1) := by decide +kernel
theorem dX7_goesOn_1 : decode cX7_goesOn 1 = .ok (.getfield 148, 3) := by decide +kernel
theorem dX7_goesOn_4 : decode cX7_goesOn 4 = .ok (.ifCond .eq 10, 3) := by decide +kernel
theorem dX7_goesOn_7 : decode cX7_goesOn 7 = .ok (.iload_n 1, 1) := by decide +kernel
theorem dX7_goesOn_8 : decode cX7_goesOn 8 = .ok (.invokestatic 159, 3) := by decide +kernel
theorem dX7_goesOn_11 : decode cX7_goesOn 11 = .ok (.ifCond .ne 17, 3) := by decide +kernel
theorem dX7_goesOn_14 : decode cX7_goesOn 14 = .ok (.aload_n 0, 1) := by decide +kernel
theorem dX7_goesOn_15 : decode cX7_goesOn 15 = .ok (.getfield 137, 3) := by decide +kernel
theorem dX7_goesOn_18 : decode cX7_goesOn 18 = .ok (.ifCond .eq 14, 3) := by decide +kernel
theorem dX7_goesOn_21 : decode cX7_goesOn 21 = .ok (.iload_n 1, 1) := by decide +kernel
theorem dX7_goesOn_22 : decode cX7_goesOn 22 = .ok (.invokestatic 163, 3) := by decide +kernel
theorem dX7_goesOn_25 : decode cX7_goesOn 25 = .ok (.ifCond .eq 7, 3) := by decide +kernel
theorem dX7_goesOn_28 : decode cX7_goesOn 28 = .ok (.iconst 1, 1) := by decide +kernel
theorem dX7_goesOn_29 : decode cX7_goesOn 29 = .ok (.goto 4, 3) := by decide +kernel
theorem dX7_goesOn_32 : decode cX7_goesOn 32 = .ok (.iconst 0, 1) := by decide +kernel
theorem dX7_goesOn_33 : decode cX7_goesOn 33 = .ok (.ireturn, 1) := by decide +kernel
theorem dX7_byteAt_0 : decode cX7_byteAt 0 = .ok (.aload_n 0, 1) := by decide +kernel
theorem dX7_byteAt_1 : decode cX7_byteAt 1 = .ok (.getfield 22, 3) := by decide +kernel
theorem dX7_byteAt_4 : decode cX7_byteAt 4 = .ok (.ifnull 28, 3) := by decide +kernel
theorem dX7_byteAt_7 : decode cX7_byteAt 7 = .ok (.iload_n 1, 1) := by decide +kernel
theorem dX7_byteAt_8 : decode cX7_byteAt 8 = .ok (.aload_n 0, 1) := by decide +kernel
theorem dX7_byteAt_9 : decode cX7_byteAt 9 = .ok (.getfield 22, 3) := by decide +kernel
theorem dX7_byteAt_12 : decode cX7_byteAt 12 = .ok (.getfield 169, 3) := by decide +kernel
theorem dX7_byteAt_15 : decode cX7_byteAt 15 = .ok (.if_icmp .ge 17, 3) := by decide +kernel
theorem dX7_byteAt_18 : decode cX7_byteAt 18 = .ok (.aload_n 0, 1) := by decide +kernel
theorem dX7_byteAt_19 : decode cX7_byteAt 19 = .ok (.getfield 22, 3) := by decide +kernel
theorem dX7_byteAt_22 : decode cX7_byteAt 22 = .ok (.getfield 172, 3) := by decide +kernel
theorem dX7_byteAt_25 : decode cX7_byteAt 25 = .ok (.iload_n 1, 1) := by decide +kernel
theorem dX7_byteAt_26 : decode cX7_byteAt 26 = .ok (.invokestatic 175, 3) := by decide +kernel
theorem dX7_byteAt_29 : decode cX7_byteAt 29 = .ok (.goto 4, 3) := by decide +kernel
theorem dX7_byteAt_32 : decode cX7_byteAt 32 = .ok (.iconst (-1), 1) := by decide +kernel
theorem dX7_byteAt_33 : decode cX7_byteAt 33 = .ok (.ireturn, 1) := by decide +kernel
theorem dX7_isLetter_0 : decode cX7_isLetter 0 = .ok (.iload_n 0, 1) := by decide +kernel
theorem dX7_isLetter_1 : decode cX7_isLetter 1 = .ok (.bipush 97, 2) := by decide +kernel
theorem dX7_isLetter_3 : decode cX7_isLetter 3 = .ok (.if_icmp .lt 13, 3) := by decide +kernel
theorem dX7_isLetter_6 : decode cX7_isLetter 6 = .ok (.iload_n 0, 1) := by decide +kernel
theorem dX7_isLetter_7 : decode cX7_isLetter 7 = .ok (.bipush 122, 2) := by decide +kernel
theorem dX7_isLetter_9 : decode cX7_isLetter 9 = .ok (.if_icmp .gt 7, 3) := by decide +kernel
theorem dX7_isLetter_12 : decode cX7_isLetter 12 = .ok (.iconst 1, 1) := by decide +kernel
theorem dX7_isLetter_13 : decode cX7_isLetter 13 = .ok (.goto 4, 3) := by decide +kernel
theorem dX7_isLetter_16 : decode cX7_isLetter 16 = .ok (.iconst 0, 1) := by decide +kernel
theorem dX7_isLetter_17 : decode cX7_isLetter 17 = .ok (.ireturn, 1) := by decide +kernel
theorem dX7_isFigure_0 : decode cX7_isFigure 0 = .ok (.iload_n 0, 1) := by decide +kernel
theorem dX7_isFigure_1 : decode cX7_isFigure 1 = .ok (.bipush 48, 2) := by decide +kernel
theorem dX7_isFigure_3 : decode cX7_isFigure 3 = .ok (.if_icmp .lt 13, 3) := by decide +kernel
theorem dX7_isFigure_6 : decode cX7_isFigure 6 = .ok (.iload_n 0, 1) := by decide +kernel
theorem dX7_isFigure_7 : decode cX7_isFigure 7 = .ok (.bipush 57, 2) := by decide +kernel
theorem dX7_isFigure_9 : decode cX7_isFigure 9 = .ok (.if_icmp .gt 7, 3) := by decide +kernel
theorem dX7_isFigure_12 : decode cX7_isFigure 12 = .ok (.iconst 1, 1) := by decide +kernel
theorem dX7_isFigure_13 : decode cX7_isFigure 13 = .ok (.goto 4, 3) := by decide +kernel
theorem dX7_isFigure_16 : decode cX7_isFigure 16 = .ok (.iconst 0, 1) := by decide +kernel
theorem dX7_isFigure_17 : decode cX7_isFigure 17 = .ok (.ireturn, 1) := by decide +kernel
