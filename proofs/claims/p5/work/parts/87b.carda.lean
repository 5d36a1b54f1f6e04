/-! THE TAPE'S CALLS, RESET, ANSWER, HISTORICAL, EXACTLY (by program: wip/p4/m_card.py) -/
theorem dX7_feedEight_0 : decode cX7_feedEight 0 = .ok (.bipush 56, 2) := by decide +kernel
theorem dX7_feedEight_2 : decode cX7_feedEight 2 = .ok (.istore_n 3, 1) := by decide +kernel
theorem dX7_feedEight_3 : decode cX7_feedEight 3 = .ok (.iload_n 3, 1) := by decide +kernel
theorem dX7_feedEight_4 : decode cX7_feedEight 4 = .ok (.ifCond .lt 24, 3) := by decide +kernel
theorem dX7_feedEight_7 : decode cX7_feedEight 7 = .ok (.aload_n 0, 1) := by decide +kernel
theorem dX7_feedEight_8 : decode cX7_feedEight 8 = .ok (.getfield 14, 3) := by decide +kernel
theorem dX7_feedEight_11 : decode cX7_feedEight 11 = .ok (.lload_n 1, 1) := by decide +kernel
theorem dX7_feedEight_12 : decode cX7_feedEight 12 = .ok (.iload_n 3, 1) := by decide +kernel
theorem dX7_feedEight_13 : decode cX7_feedEight 13 = .ok (.lushr, 1) := by decide +kernel
theorem dX7_feedEight_14 : decode cX7_feedEight 14 = .ok (.l2i, 1) := by decide +kernel
theorem dX7_feedEight_15 : decode cX7_feedEight 15 = .ok (.sipush 255, 3) := by decide +kernel
theorem dX7_feedEight_18 : decode cX7_feedEight 18 = .ok (.iand, 1) := by decide +kernel
theorem dX7_feedEight_19 : decode cX7_feedEight 19 = .ok (.invokevirtual 63, 3) := by decide +kernel
theorem dX7_feedEight_22 : decode cX7_feedEight 22 = .ok (.iinc 3 (-8), 3) := by decide +kernel
theorem dX7_feedEight_25 : decode cX7_feedEight 25 = .ok (.goto (-22), 3) := by decide +kernel
theorem dX7_feedEight_28 : decode cX7_feedEight 28 = .ok (.return_, 1) := by decide +kernel
theorem dX7_feed_0 : decode cX7_feed 0 = .ok (.aload_n 0, 1) := by decide +kernel
theorem dX7_feed_1 : decode cX7_feed 1 = .ok (.getfield 14, 3) := by decide +kernel
theorem dX7_feed_4 : decode cX7_feed 4 = .ok (.invokevirtual 55, 3) := by decide +kernel
theorem dX7_feed_7 : decode cX7_feed 7 = .ok (.bipush 16, 2) := by decide +kernel
theorem dX7_feed_9 : decode cX7_feed 9 = .ok (.iadd, 1) := by decide +kernel
theorem dX7_feed_10 : decode cX7_feed 10 = .ok (.bipush 96, 2) := by decide +kernel
theorem dX7_feed_12 : decode cX7_feed 12 = .ok (.if_icmp .le 5, 3) := by decide +kernel
theorem dX7_feed_15 : decode cX7_feed 15 = .ok (.iconst (-1), 1) := by decide +kernel
theorem dX7_feed_16 : decode cX7_feed 16 = .ok (.ireturn, 1) := by decide +kernel
theorem dX7_feed_17 : decode cX7_feed 17 = .ok (.aload_n 0, 1) := by decide +kernel
theorem dX7_feed_18 : decode cX7_feed 18 = .ok (.lload_n 1, 1) := by decide +kernel
theorem dX7_feed_19 : decode cX7_feed 19 = .ok (.invokevirtual 59, 3) := by decide +kernel
theorem dX7_feed_22 : decode cX7_feed 22 = .ok (.aload_n 0, 1) := by decide +kernel
theorem dX7_feed_23 : decode cX7_feed 23 = .ok (.lload_n 3, 1) := by decide +kernel
theorem dX7_feed_24 : decode cX7_feed 24 = .ok (.invokevirtual 59, 3) := by decide +kernel
theorem dX7_feed_27 : decode cX7_feed 27 = .ok (.aload_n 0, 1) := by decide +kernel
theorem dX7_feed_28 : decode cX7_feed 28 = .ok (.getfield 14, 3) := by decide +kernel
theorem dX7_feed_31 : decode cX7_feed 31 = .ok (.invokevirtual 55, 3) := by decide +kernel
theorem dX7_feed_34 : decode cX7_feed 34 = .ok (.ireturn, 1) := by decide +kernel
theorem dX7_end_0 : decode cX7_end 0 = .ok (.iload_n 1, 1) := by decide +kernel
theorem dX7_end_1 : decode cX7_end 1 = .ok (.ifCond .lt 14, 3) := by decide +kernel
theorem dX7_end_4 : decode cX7_end 4 = .ok (.iload_n 1, 1) := by decide +kernel
theorem dX7_end_5 : decode cX7_end 5 = .ok (.aload_n 0, 1) := by decide +kernel
theorem dX7_end_6 : decode cX7_end 6 = .ok (.getfield 14, 3) := by decide +kernel
theorem dX7_end_9 : decode cX7_end 9 = .ok (.invokevirtual 55, 3) := by decide +kernel
theorem dX7_end_12 : decode cX7_end 12 = .ok (.if_icmp .le 5, 3) := by decide +kernel
theorem dX7_end_15 : decode cX7_end 15 = .ok (.iconst (-1), 1) := by decide +kernel
theorem dX7_end_16 : decode cX7_end 16 = .ok (.ireturn, 1) := by decide +kernel
theorem dX7_end_17 : decode cX7_end 17 = .ok (.aload_n 0, 1) := by decide +kernel
theorem dX7_end_18 : decode cX7_end 18 = .ok (.getfield 14, 3) := by decide +kernel
theorem dX7_end_21 : decode cX7_end 21 = .ok (.iload_n 1, 1) := by decide +kernel
theorem dX7_end_22 : decode cX7_end 22 = .ok (.invokevirtual 67, 3) := by decide +kernel
theorem dX7_end_25 : decode cX7_end 25 = .ok (.iload_n 1, 1) := by decide +kernel
theorem dX7_end_26 : decode cX7_end 26 = .ok (.ireturn, 1) := by decide +kernel
theorem dX7_reset_0 : decode cX7_reset 0 = .ok (.aload_n 0, 1) := by decide +kernel
theorem dX7_reset_1 : decode cX7_reset 1 = .ok (.getfield 48, 3) := by decide +kernel
theorem dX7_reset_4 : decode cX7_reset 4 = .ok (.aload_n 0, 1) := by decide +kernel
theorem dX7_reset_5 : decode cX7_reset 5 = .ok (.getfield 14, 3) := by decide +kernel
theorem dX7_reset_8 : decode cX7_reset 8 = .ok (.invokevirtual 70, 3) := by decide +kernel
theorem dX7_reset_11 : decode cX7_reset 11 = .ok (.istore_n 1, 1) := by decide +kernel
theorem dX7_reset_12 : decode cX7_reset 12 = .ok (.aload_n 0, 1) := by decide +kernel
theorem dX7_reset_13 : decode cX7_reset 13 = .ok (.getfield 14, 3) := by decide +kernel
theorem dX7_reset_16 : decode cX7_reset 16 = .ok (.iconst 0, 1) := by decide +kernel
theorem dX7_reset_17 : decode cX7_reset 17 = .ok (.invokevirtual 67, 3) := by decide +kernel
theorem dX7_reset_20 : decode cX7_reset 20 = .ok (.iload_n 1, 1) := by decide +kernel
theorem dX7_reset_21 : decode cX7_reset 21 = .ok (.ifCond .eq 8, 3) := by decide +kernel
theorem dX7_reset_24 : decode cX7_reset 24 = .ok (.bipush (-2), 2) := by decide +kernel
theorem dX7_reset_26 : decode cX7_reset 26 = .ok (.iload_n 1, 1) := by decide +kernel
theorem dX7_reset_27 : decode cX7_reset 27 = .ok (.isub, 1) := by decide +kernel
theorem dX7_reset_28 : decode cX7_reset 28 = .ok (.ireturn, 1) := by decide +kernel
theorem dX7_reset_29 : decode cX7_reset 29 = .ok (.aload_n 0, 1) := by decide +kernel
theorem dX7_reset_30 : decode cX7_reset 30 = .ok (.getfield 44, 3) := by decide +kernel
theorem dX7_reset_33 : decode cX7_reset 33 = .ok (.astore_n 2, 1) := by decide +kernel
theorem dX7_reset_34 : decode cX7_reset 34 = .ok (.aload_n 0, 1) := by decide +kernel
theorem dX7_reset_35 : decode cX7_reset 35 = .ok (.aload_n 0, 1) := by decide +kernel
theorem dX7_reset_36 : decode cX7_reset 36 = .ok (.getfield 48, 3) := by decide +kernel
theorem dX7_reset_39 : decode cX7_reset 39 = .ok (.putfield 44, 3) := by decide +kernel
theorem dX7_reset_42 : decode cX7_reset 42 = .ok (.aload_n 0, 1) := by decide +kernel
theorem dX7_reset_43 : decode cX7_reset 43 = .ok (.aload_n 2, 1) := by decide +kernel
theorem dX7_reset_44 : decode cX7_reset 44 = .ok (.putfield 48, 3) := by decide +kernel
theorem dX7_reset_47 : decode cX7_reset 47 = .ok (.aload_n 0, 1) := by decide +kernel
theorem dX7_reset_48 : decode cX7_reset 48 = .ok (.iconst 1, 1) := by decide +kernel
theorem dX7_reset_49 : decode cX7_reset 49 = .ok (.putfield 51, 3) := by decide +kernel
theorem dX7_reset_52 : decode cX7_reset 52 = .ok (.aload_n 0, 1) := by decide +kernel
theorem dX7_reset_53 : decode cX7_reset 53 = .ok (.getfield 21, 3) := by decide +kernel
theorem dX7_reset_56 : decode cX7_reset 56 = .ok (.invokevirtual 74, 3) := by decide +kernel
theorem dX7_reset_59 : decode cX7_reset 59 = .ok (.aload_n 0, 1) := by decide +kernel
theorem dX7_reset_60 : decode cX7_reset 60 = .ok (.getfield 30, 3) := by decide +kernel
theorem dX7_reset_63 : decode cX7_reset 63 = .ok (.aload_n 0, 1) := by decide +kernel
theorem dX7_reset_64 : decode cX7_reset 64 = .ok (.getfield 44, 3) := by decide +kernel
theorem dX7_reset_67 : decode cX7_reset 67 = .ok (.invokevirtual 77, 3) := by decide +kernel
theorem dX7_reset_70 : decode cX7_reset 70 = .ok (.invokevirtual 80, 3) := by decide +kernel
theorem dX7_reset_73 : decode cX7_reset 73 = .ok (.aload_n 0, 1) := by decide +kernel
theorem dX7_reset_74 : decode cX7_reset 74 = .ok (.getfield 37, 3) := by decide +kernel
theorem dX7_reset_77 : decode cX7_reset 77 = .ok (.invokevirtual 83, 3) := by decide +kernel
theorem dX7_reset_80 : decode cX7_reset 80 = .ok (.aload_n 0, 1) := by decide +kernel
theorem dX7_reset_81 : decode cX7_reset 81 = .ok (.getfield 44, 3) := by decide +kernel
theorem dX7_reset_84 : decode cX7_reset 84 = .ok (.invokevirtual 86, 3) := by decide +kernel
theorem dX7_reset_87 : decode cX7_reset 87 = .ok (.ireturn, 1) := by decide +kernel
theorem dX7_message_0 : decode cX7_message 0 = .ok (.iconst (-1), 1) := by decide +kernel
theorem dX7_message_1 : decode cX7_message 1 = .ok (.istore_n 1, 1) := by decide +kernel
theorem dX7_message_2 : decode cX7_message 2 = .ok (.aload_n 0, 1) := by decide +kernel
theorem dX7_message_3 : decode cX7_message 3 = .ok (.invokevirtual 96, 3) := by decide +kernel
theorem dX7_message_6 : decode cX7_message 6 = .ok (.ifCond .eq 41, 3) := by decide +kernel
theorem dX7_message_9 : decode cX7_message 9 = .ok (.aload_n 0, 1) := by decide +kernel
theorem dX7_message_10 : decode cX7_message 10 = .ok (.getfield 14, 3) := by decide +kernel
theorem dX7_message_13 : decode cX7_message 13 = .ok (.invokevirtual 55, 3) := by decide +kernel
theorem dX7_message_16 : decode cX7_message 16 = .ok (.bipush 60, 2) := by decide +kernel
theorem dX7_message_18 : decode cX7_message 18 = .ok (.if_icmp .gt 29, 3) := by decide +kernel
theorem dX7_message_21 : decode cX7_message 21 = .ok (.aload_n 0, 1) := by decide +kernel
theorem dX7_message_22 : decode cX7_message 22 = .ok (.getfield 30, 3) := by decide +kernel
theorem dX7_message_25 : decode cX7_message 25 = .ok (.aload_n 0, 1) := by decide +kernel
theorem dX7_message_26 : decode cX7_message 26 = .ok (.getfield 14, 3) := by decide +kernel
theorem dX7_message_29 : decode cX7_message 29 = .ok (.invokevirtual 100, 3) := by decide +kernel
theorem dX7_message_32 : decode cX7_message 32 = .ok (.aload_n 0, 1) := by decide +kernel
theorem dX7_message_33 : decode cX7_message 33 = .ok (.getfield 37, 3) := by decide +kernel
theorem dX7_message_36 : decode cX7_message 36 = .ok (.invokevirtual 83, 3) := by decide +kernel
theorem dX7_message_39 : decode cX7_message 39 = .ok (.aload_n 0, 1) := by decide +kernel
theorem dX7_message_40 : decode cX7_message 40 = .ok (.getfield 30, 3) := by decide +kernel
theorem dX7_message_43 : decode cX7_message 43 = .ok (.invokevirtual 104, 3) := by decide +kernel
theorem dX7_message_46 : decode cX7_message 46 = .ok (.istore_n 1, 1) := by decide +kernel
theorem dX7_message_47 : decode cX7_message 47 = .ok (.aload_n 0, 1) := by decide +kernel
theorem dX7_message_48 : decode cX7_message 48 = .ok (.getfield 14, 3) := by decide +kernel
theorem dX7_message_51 : decode cX7_message 51 = .ok (.iconst 0, 1) := by decide +kernel
theorem dX7_message_52 : decode cX7_message 52 = .ok (.invokevirtual 67, 3) := by decide +kernel
theorem dX7_message_55 : decode cX7_message 55 = .ok (.iload_n 1, 1) := by decide +kernel
theorem dX7_message_56 : decode cX7_message 56 = .ok (.ireturn, 1) := by decide +kernel
theorem dX7_answer_0 : decode cX7_answer 0 = .ok (.aload_n 0, 1) := by decide +kernel
theorem dX7_answer_1 : decode cX7_answer 1 = .ok (.getfield 51, 3) := by decide +kernel
theorem dX7_answer_4 : decode cX7_answer 4 = .ok (.ifCond .eq 14, 3) := by decide +kernel
theorem dX7_answer_7 : decode cX7_answer 7 = .ok (.aload_n 0, 1) := by decide +kernel
theorem dX7_answer_8 : decode cX7_answer 8 = .ok (.getfield 44, 3) := by decide +kernel
theorem dX7_answer_11 : decode cX7_answer 11 = .ok (.iload_n 1, 1) := by decide +kernel
theorem dX7_answer_12 : decode cX7_answer 12 = .ok (.invokevirtual 89, 3) := by decide +kernel
theorem dX7_answer_15 : decode cX7_answer 15 = .ok (.goto 4, 3) := by decide +kernel
theorem dX7_answer_18 : decode cX7_answer 18 = .ok (.iconst (-1), 1) := by decide +kernel
theorem dX7_answer_19 : decode cX7_answer 19 = .ok (.ireturn, 1) := by decide +kernel
theorem dX7_historical_0 : decode cX7_historical 0 = .ok (.aload_n 0, 1) := by decide +kernel
theorem dX7_historical_1 : decode cX7_historical 1 = .ok (.getfield 51, 3) := by decide +kernel
theorem dX7_historical_4 : decode cX7_historical 4 = .ok (.ifCond .eq 18, 3) := by decide +kernel
theorem dX7_historical_7 : decode cX7_historical 7 = .ok (.iload_n 1, 1) := by decide +kernel
theorem dX7_historical_8 : decode cX7_historical 8 = .ok (.ifCond .lt 14, 3) := by decide +kernel
theorem dX7_historical_11 : decode cX7_historical 11 = .ok (.iload_n 1, 1) := by decide +kernel
theorem dX7_historical_12 : decode cX7_historical 12 = .ok (.aload_n 0, 1) := by decide +kernel
theorem dX7_historical_13 : decode cX7_historical 13 = .ok (.getfield 44, 3) := by decide +kernel
theorem dX7_historical_16 : decode cX7_historical 16 = .ok (.invokevirtual 86, 3) := by decide +kernel
theorem dX7_historical_19 : decode cX7_historical 19 = .ok (.if_icmp .lt 5, 3) := by decide +kernel
theorem dX7_historical_22 : decode cX7_historical 22 = .ok (.iconst (-1), 1) := by decide +kernel
theorem dX7_historical_23 : decode cX7_historical 23 = .ok (.ireturn, 1) := by decide +kernel
theorem dX7_historical_24 : decode cX7_historical 24 = .ok (.aload_n 0, 1) := by decide +kernel
theorem dX7_historical_25 : decode cX7_historical 25 = .ok (.getfield 44, 3) := by decide +kernel
theorem dX7_historical_28 : decode cX7_historical 28 = .ok (.iload_n 1, 1) := by decide +kernel
theorem dX7_historical_29 : decode cX7_historical 29 = .ok (.invokevirtual 93, 3) := by decide +kernel
theorem dX7_historical_32 : decode cX7_historical 32 = .ok (.ireturn, 1) := by decide +kernel
