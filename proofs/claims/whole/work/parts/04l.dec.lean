theorem dL_city_0 : decode cL_city 0 = .ok (.aload_n 2, 1) := by decide +kernel
theorem dL_city_1 : decode cL_city 1 = .ok (.iconst 0, 1) := by decide +kernel
theorem dL_city_2 : decode cL_city 2 = .ok (.aload_n 0, 1) := by decide +kernel
theorem dL_city_3 : decode cL_city 3 = .ok (.iload_n 1, 1) := by decide +kernel
theorem dL_city_4 : decode cL_city 4 = .ok (.invokevirtual 7, 3) := by decide +kernel
theorem dL_city_7 : decode cL_city 7 = .ok (.i2l, 1) := by decide +kernel
theorem dL_city_8 : decode cL_city 8 = .ok (.lastore, 1) := by decide +kernel
theorem dL_city_9 : decode cL_city 9 = .ok (.goto 6, 3) := by decide +kernel
theorem dL_city_12 : decode cL_city 12 = .ok (.astore_n 3, 1) := by decide +kernel
theorem dL_city_13 : decode cL_city 13 = .ok (.iconst 1, 1) := by decide +kernel
theorem dL_city_14 : decode cL_city 14 = .ok (.ireturn, 1) := by decide +kernel
theorem dL_city_15 : decode cL_city 15 = .ok (.iconst 0, 1) := by decide +kernel
theorem dL_city_16 : decode cL_city 16 = .ok (.ireturn, 1) := by decide +kernel
theorem dL_count_0 : decode cL_count 0 = .ok (.aload_n 2, 1) := by decide +kernel
theorem dL_count_1 : decode cL_count 1 = .ok (.iconst 0, 1) := by decide +kernel
theorem dL_count_2 : decode cL_count 2 = .ok (.aload_n 0, 1) := by decide +kernel
theorem dL_count_3 : decode cL_count 3 = .ok (.iload_n 1, 1) := by decide +kernel
theorem dL_count_4 : decode cL_count 4 = .ok (.invokevirtual 15, 3) := by decide +kernel
theorem dL_count_7 : decode cL_count 7 = .ok (.i2l, 1) := by decide +kernel
theorem dL_count_8 : decode cL_count 8 = .ok (.lastore, 1) := by decide +kernel
theorem dL_count_9 : decode cL_count 9 = .ok (.goto 6, 3) := by decide +kernel
theorem dL_count_12 : decode cL_count 12 = .ok (.astore_n 3, 1) := by decide +kernel
theorem dL_count_13 : decode cL_count 13 = .ok (.iconst 1, 1) := by decide +kernel
theorem dL_count_14 : decode cL_count 14 = .ok (.ireturn, 1) := by decide +kernel
theorem dL_count_15 : decode cL_count 15 = .ok (.iconst 0, 1) := by decide +kernel
theorem dL_count_16 : decode cL_count 16 = .ok (.ireturn, 1) := by decide +kernel
theorem dL_person_0 : decode cL_person 0 = .ok (.aload_n 3, 1) := by decide +kernel
theorem dL_person_1 : decode cL_person 1 = .ok (.iconst 0, 1) := by decide +kernel
theorem dL_person_2 : decode cL_person 2 = .ok (.aload_n 0, 1) := by decide +kernel
theorem dL_person_3 : decode cL_person 3 = .ok (.iload_n 1, 1) := by decide +kernel
theorem dL_person_4 : decode cL_person 4 = .ok (.iload_n 2, 1) := by decide +kernel
theorem dL_person_5 : decode cL_person 5 = .ok (.invokevirtual 20, 3) := by decide +kernel
theorem dL_person_8 : decode cL_person 8 = .ok (.i2l, 1) := by decide +kernel
theorem dL_person_9 : decode cL_person 9 = .ok (.lastore, 1) := by decide +kernel
theorem dL_person_10 : decode cL_person 10 = .ok (.goto 7, 3) := by decide +kernel
theorem dL_person_13 : decode cL_person 13 = .ok (.astore 4, 2) := by decide +kernel
theorem dL_person_15 : decode cL_person 15 = .ok (.iconst 1, 1) := by decide +kernel
theorem dL_person_16 : decode cL_person 16 = .ok (.ireturn, 1) := by decide +kernel
theorem dL_person_17 : decode cL_person 17 = .ok (.iconst 0, 1) := by decide +kernel
theorem dL_person_18 : decode cL_person 18 = .ok (.ireturn, 1) := by decide +kernel
theorem dL_thing_0 : decode cL_thing 0 = .ok (.aload_n 3, 1) := by decide +kernel
theorem dL_thing_1 : decode cL_thing 1 = .ok (.iconst 0, 1) := by decide +kernel
theorem dL_thing_2 : decode cL_thing 2 = .ok (.aload_n 0, 1) := by decide +kernel
theorem dL_thing_3 : decode cL_thing 3 = .ok (.iload_n 1, 1) := by decide +kernel
theorem dL_thing_4 : decode cL_thing 4 = .ok (.iload_n 2, 1) := by decide +kernel
theorem dL_thing_5 : decode cL_thing 5 = .ok (.invokevirtual 24, 3) := by decide +kernel
theorem dL_thing_8 : decode cL_thing 8 = .ok (.i2l, 1) := by decide +kernel
theorem dL_thing_9 : decode cL_thing 9 = .ok (.lastore, 1) := by decide +kernel
theorem dL_thing_10 : decode cL_thing 10 = .ok (.goto 7, 3) := by decide +kernel
theorem dL_thing_13 : decode cL_thing 13 = .ok (.astore 4, 2) := by decide +kernel
theorem dL_thing_15 : decode cL_thing 15 = .ok (.iconst 1, 1) := by decide +kernel
theorem dL_thing_16 : decode cL_thing 16 = .ok (.ireturn, 1) := by decide +kernel
theorem dL_thing_17 : decode cL_thing 17 = .ok (.iconst 0, 1) := by decide +kernel
theorem dL_thing_18 : decode cL_thing 18 = .ok (.ireturn, 1) := by decide +kernel
theorem dL_steal_0 : decode cL_steal 0 = .ok (.aload_n 3, 1) := by decide +kernel
theorem dL_steal_1 : decode cL_steal 1 = .ok (.iconst 0, 1) := by decide +kernel
theorem dL_steal_2 : decode cL_steal 2 = .ok (.aload_n 0, 1) := by decide +kernel
theorem dL_steal_3 : decode cL_steal 3 = .ok (.iload_n 1, 1) := by decide +kernel
theorem dL_steal_4 : decode cL_steal 4 = .ok (.iload_n 2, 1) := by decide +kernel
theorem dL_steal_5 : decode cL_steal 5 = .ok (.invokevirtual 27, 3) := by decide +kernel
theorem dL_steal_8 : decode cL_steal 8 = .ok (.i2l, 1) := by decide +kernel
theorem dL_steal_9 : decode cL_steal 9 = .ok (.lastore, 1) := by decide +kernel
theorem dL_steal_10 : decode cL_steal 10 = .ok (.goto 7, 3) := by decide +kernel
theorem dL_steal_13 : decode cL_steal 13 = .ok (.astore 4, 2) := by decide +kernel
theorem dL_steal_15 : decode cL_steal 15 = .ok (.iconst 1, 1) := by decide +kernel
theorem dL_steal_16 : decode cL_steal 16 = .ok (.ireturn, 1) := by decide +kernel
theorem dL_steal_17 : decode cL_steal 17 = .ok (.iconst 0, 1) := by decide +kernel
theorem dL_steal_18 : decode cL_steal 18 = .ok (.ireturn, 1) := by decide +kernel
theorem dL_back_0 : decode cL_back 0 = .ok (.aload_n 2, 1) := by decide +kernel
theorem dL_back_1 : decode cL_back 1 = .ok (.iconst 0, 1) := by decide +kernel
theorem dL_back_2 : decode cL_back 2 = .ok (.aload_n 0, 1) := by decide +kernel
theorem dL_back_3 : decode cL_back 3 = .ok (.iload_n 1, 1) := by decide +kernel
theorem dL_back_4 : decode cL_back 4 = .ok (.invokevirtual 30, 3) := by decide +kernel
theorem dL_back_7 : decode cL_back 7 = .ok (.i2l, 1) := by decide +kernel
theorem dL_back_8 : decode cL_back 8 = .ok (.lastore, 1) := by decide +kernel
theorem dL_back_9 : decode cL_back 9 = .ok (.goto 6, 3) := by decide +kernel
theorem dL_back_12 : decode cL_back 12 = .ok (.astore_n 3, 1) := by decide +kernel
theorem dL_back_13 : decode cL_back 13 = .ok (.iconst 1, 1) := by decide +kernel
theorem dL_back_14 : decode cL_back 14 = .ok (.ireturn, 1) := by decide +kernel
theorem dL_back_15 : decode cL_back 15 = .ok (.iconst 0, 1) := by decide +kernel
theorem dL_back_16 : decode cL_back 16 = .ok (.ireturn, 1) := by decide +kernel
theorem dL_walk_0 : decode cL_walk 0 = .ok (.aload 4, 2) := by decide +kernel
theorem dL_walk_2 : decode cL_walk 2 = .ok (.iconst 0, 1) := by decide +kernel
theorem dL_walk_3 : decode cL_walk 3 = .ok (.aload_n 0, 1) := by decide +kernel
theorem dL_walk_4 : decode cL_walk 4 = .ok (.iload_n 1, 1) := by decide +kernel
theorem dL_walk_5 : decode cL_walk 5 = .ok (.iload_n 2, 1) := by decide +kernel
theorem dL_walk_6 : decode cL_walk 6 = .ok (.iload_n 3, 1) := by decide +kernel
theorem dL_walk_7 : decode cL_walk 7 = .ok (.invokevirtual 33, 3) := by decide +kernel
theorem dL_walk_10 : decode cL_walk 10 = .ok (.i2l, 1) := by decide +kernel
theorem dL_walk_11 : decode cL_walk 11 = .ok (.lastore, 1) := by decide +kernel
theorem dL_walk_12 : decode cL_walk 12 = .ok (.goto 7, 3) := by decide +kernel
theorem dL_walk_15 : decode cL_walk 15 = .ok (.astore 5, 2) := by decide +kernel
theorem dL_walk_17 : decode cL_walk 17 = .ok (.iconst 1, 1) := by decide +kernel
theorem dL_walk_18 : decode cL_walk 18 = .ok (.ireturn, 1) := by decide +kernel
theorem dL_walk_19 : decode cL_walk 19 = .ok (.iconst 0, 1) := by decide +kernel
theorem dL_walk_20 : decode cL_walk 20 = .ok (.ireturn, 1) := by decide +kernel
theorem dL_dye_0 : decode cL_dye 0 = .ok (.aload_n 3, 1) := by decide +kernel
theorem dL_dye_1 : decode cL_dye 1 = .ok (.iconst 0, 1) := by decide +kernel
theorem dL_dye_2 : decode cL_dye 2 = .ok (.aload_n 0, 1) := by decide +kernel
theorem dL_dye_3 : decode cL_dye 3 = .ok (.iload_n 1, 1) := by decide +kernel
theorem dL_dye_4 : decode cL_dye 4 = .ok (.iload_n 2, 1) := by decide +kernel
theorem dL_dye_5 : decode cL_dye 5 = .ok (.invokevirtual 37, 3) := by decide +kernel
theorem dL_dye_8 : decode cL_dye 8 = .ok (.i2l, 1) := by decide +kernel
theorem dL_dye_9 : decode cL_dye 9 = .ok (.lastore, 1) := by decide +kernel
theorem dL_dye_10 : decode cL_dye 10 = .ok (.goto 7, 3) := by decide +kernel
theorem dL_dye_13 : decode cL_dye 13 = .ok (.astore 4, 2) := by decide +kernel
theorem dL_dye_15 : decode cL_dye 15 = .ok (.iconst 1, 1) := by decide +kernel
theorem dL_dye_16 : decode cL_dye 16 = .ok (.ireturn, 1) := by decide +kernel
theorem dL_dye_17 : decode cL_dye 17 = .ok (.iconst 0, 1) := by decide +kernel
theorem dL_dye_18 : decode cL_dye 18 = .ok (.ireturn, 1) := by decide +kernel
theorem dL_then_0 : decode cL_then 0 = .ok (.aload 4, 2) := by decide +kernel
theorem dL_then_2 : decode cL_then 2 = .ok (.iconst 0, 1) := by decide +kernel
theorem dL_then_3 : decode cL_then 3 = .ok (.aload_n 0, 1) := by decide +kernel
theorem dL_then_4 : decode cL_then 4 = .ok (.iload_n 1, 1) := by decide +kernel
theorem dL_then_5 : decode cL_then 5 = .ok (.iload_n 2, 1) := by decide +kernel
theorem dL_then_6 : decode cL_then 6 = .ok (.iload_n 3, 1) := by decide +kernel
theorem dL_then_7 : decode cL_then 7 = .ok (.invokevirtual 40, 3) := by decide +kernel
theorem dL_then_10 : decode cL_then 10 = .ok (.i2l, 1) := by decide +kernel
theorem dL_then_11 : decode cL_then 11 = .ok (.lastore, 1) := by decide +kernel
theorem dL_then_12 : decode cL_then 12 = .ok (.goto 11, 3) := by decide +kernel
theorem dL_then_15 : decode cL_then 15 = .ok (.astore 5, 2) := by decide +kernel
theorem dL_then_17 : decode cL_then 17 = .ok (.iconst 1, 1) := by decide +kernel
theorem dL_then_18 : decode cL_then 18 = .ok (.ireturn, 1) := by decide +kernel
theorem dL_then_19 : decode cL_then 19 = .ok (.astore 5, 2) := by decide +kernel
theorem dL_then_21 : decode cL_then 21 = .ok (.iconst 2, 1) := by decide +kernel
theorem dL_then_22 : decode cL_then 22 = .ok (.ireturn, 1) := by decide +kernel
theorem dL_then_23 : decode cL_then 23 = .ok (.iconst 0, 1) := by decide +kernel
theorem dL_then_24 : decode cL_then 24 = .ok (.ireturn, 1) := by decide +kernel
theorem dL_later_0 : decode cL_later 0 = .ok (.aload 4, 2) := by decide +kernel
theorem dL_later_2 : decode cL_later 2 = .ok (.iconst 0, 1) := by decide +kernel
theorem dL_later_3 : decode cL_later 3 = .ok (.aload_n 0, 1) := by decide +kernel
theorem dL_later_4 : decode cL_later 4 = .ok (.iload_n 1, 1) := by decide +kernel
theorem dL_later_5 : decode cL_later 5 = .ok (.iload_n 2, 1) := by decide +kernel
theorem dL_later_6 : decode cL_later 6 = .ok (.iload_n 3, 1) := by decide +kernel
theorem dL_later_7 : decode cL_later 7 = .ok (.invokevirtual 43, 3) := by decide +kernel
theorem dL_later_10 : decode cL_later 10 = .ok (.i2l, 1) := by decide +kernel
theorem dL_later_11 : decode cL_later 11 = .ok (.lastore, 1) := by decide +kernel
theorem dL_later_12 : decode cL_later 12 = .ok (.goto 11, 3) := by decide +kernel
theorem dL_later_15 : decode cL_later 15 = .ok (.astore 5, 2) := by decide +kernel
theorem dL_later_17 : decode cL_later 17 = .ok (.iconst 1, 1) := by decide +kernel
theorem dL_later_18 : decode cL_later 18 = .ok (.ireturn, 1) := by decide +kernel
theorem dL_later_19 : decode cL_later 19 = .ok (.astore 5, 2) := by decide +kernel
theorem dL_later_21 : decode cL_later 21 = .ok (.iconst 2, 1) := by decide +kernel
theorem dL_later_22 : decode cL_later 22 = .ok (.ireturn, 1) := by decide +kernel
theorem dL_later_23 : decode cL_later 23 = .ok (.iconst 0, 1) := by decide +kernel
theorem dL_later_24 : decode cL_later 24 = .ok (.ireturn, 1) := by decide +kernel
theorem dL_when_0 : decode cL_when 0 = .ok (.aload_n 3, 1) := by decide +kernel
theorem dL_when_1 : decode cL_when 1 = .ok (.iconst 0, 1) := by decide +kernel
theorem dL_when_2 : decode cL_when 2 = .ok (.aload_n 0, 1) := by decide +kernel
theorem dL_when_3 : decode cL_when 3 = .ok (.iload_n 1, 1) := by decide +kernel
theorem dL_when_4 : decode cL_when 4 = .ok (.iload_n 2, 1) := by decide +kernel
theorem dL_when_5 : decode cL_when 5 = .ok (.invokevirtual 46, 3) := by decide +kernel
theorem dL_when_8 : decode cL_when 8 = .ok (.i2l, 1) := by decide +kernel
theorem dL_when_9 : decode cL_when 9 = .ok (.lastore, 1) := by decide +kernel
theorem dL_when_10 : decode cL_when 10 = .ok (.goto 7, 3) := by decide +kernel
theorem dL_when_13 : decode cL_when 13 = .ok (.astore 4, 2) := by decide +kernel
theorem dL_when_15 : decode cL_when 15 = .ok (.iconst 1, 1) := by decide +kernel
theorem dL_when_16 : decode cL_when 16 = .ok (.ireturn, 1) := by decide +kernel
theorem dL_when_17 : decode cL_when 17 = .ok (.iconst 0, 1) := by decide +kernel
theorem dL_when_18 : decode cL_when 18 = .ok (.ireturn, 1) := by decide +kernel
theorem dL_all_0 : decode cL_all 0 = .ok (.aload_n 3, 1) := by decide +kernel
theorem dL_all_1 : decode cL_all 1 = .ok (.iconst 0, 1) := by decide +kernel
theorem dL_all_2 : decode cL_all 2 = .ok (.aload_n 0, 1) := by decide +kernel
theorem dL_all_3 : decode cL_all 3 = .ok (.iload_n 1, 1) := by decide +kernel
theorem dL_all_4 : decode cL_all 4 = .ok (.iload_n 2, 1) := by decide +kernel
theorem dL_all_5 : decode cL_all 5 = .ok (.invokevirtual 49, 3) := by decide +kernel
theorem dL_all_8 : decode cL_all 8 = .ok (.i2l, 1) := by decide +kernel
theorem dL_all_9 : decode cL_all 9 = .ok (.lastore, 1) := by decide +kernel
theorem dL_all_10 : decode cL_all 10 = .ok (.goto 11, 3) := by decide +kernel
theorem dL_all_13 : decode cL_all 13 = .ok (.astore 4, 2) := by decide +kernel
theorem dL_all_15 : decode cL_all 15 = .ok (.iconst 1, 1) := by decide +kernel
theorem dL_all_16 : decode cL_all 16 = .ok (.ireturn, 1) := by decide +kernel
theorem dL_all_17 : decode cL_all 17 = .ok (.astore 4, 2) := by decide +kernel
theorem dL_all_19 : decode cL_all 19 = .ok (.iconst 2, 1) := by decide +kernel
theorem dL_all_20 : decode cL_all 20 = .ok (.ireturn, 1) := by decide +kernel
theorem dL_all_21 : decode cL_all 21 = .ok (.iconst 0, 1) := by decide +kernel
theorem dL_all_22 : decode cL_all 22 = .ok (.ireturn, 1) := by decide +kernel
theorem dL_where_0 : decode cL_where 0 = .ok (.aload 4, 2) := by decide +kernel
theorem dL_where_2 : decode cL_where 2 = .ok (.iconst 0, 1) := by decide +kernel
theorem dL_where_3 : decode cL_where 3 = .ok (.aload_n 0, 1) := by decide +kernel
theorem dL_where_4 : decode cL_where 4 = .ok (.iload_n 1, 1) := by decide +kernel
theorem dL_where_5 : decode cL_where 5 = .ok (.iload_n 2, 1) := by decide +kernel
theorem dL_where_6 : decode cL_where 6 = .ok (.iload_n 3, 1) := by decide +kernel
theorem dL_where_7 : decode cL_where 7 = .ok (.invokevirtual 52, 3) := by decide +kernel
theorem dL_where_10 : decode cL_where 10 = .ok (.i2l, 1) := by decide +kernel
theorem dL_where_11 : decode cL_where 11 = .ok (.lastore, 1) := by decide +kernel
theorem dL_where_12 : decode cL_where 12 = .ok (.goto 11, 3) := by decide +kernel
theorem dL_where_15 : decode cL_where 15 = .ok (.astore 5, 2) := by decide +kernel
theorem dL_where_17 : decode cL_where 17 = .ok (.iconst 1, 1) := by decide +kernel
theorem dL_where_18 : decode cL_where 18 = .ok (.ireturn, 1) := by decide +kernel
theorem dL_where_19 : decode cL_where 19 = .ok (.astore 5, 2) := by decide +kernel
theorem dL_where_21 : decode cL_where 21 = .ok (.iconst 2, 1) := by decide +kernel
theorem dL_where_22 : decode cL_where 22 = .ok (.ireturn, 1) := by decide +kernel
theorem dL_where_23 : decode cL_where 23 = .ok (.iconst 0, 1) := by decide +kernel
theorem dL_where_24 : decode cL_where 24 = .ok (.ireturn, 1) := by decide +kernel
theorem dL_toStand_0 : decode cL_toStand 0 = .ok (.aload_n 3, 1) := by decide +kernel
theorem dL_toStand_1 : decode cL_toStand 1 = .ok (.iconst 0, 1) := by decide +kernel
theorem dL_toStand_2 : decode cL_toStand 2 = .ok (.aload_n 0, 1) := by decide +kernel
theorem dL_toStand_3 : decode cL_toStand 3 = .ok (.iload_n 1, 1) := by decide +kernel
theorem dL_toStand_4 : decode cL_toStand 4 = .ok (.iload_n 2, 1) := by decide +kernel
theorem dL_toStand_5 : decode cL_toStand 5 = .ok (.invokevirtual 55, 3) := by decide +kernel
theorem dL_toStand_8 : decode cL_toStand 8 = .ok (.i2l, 1) := by decide +kernel
theorem dL_toStand_9 : decode cL_toStand 9 = .ok (.lastore, 1) := by decide +kernel
theorem dL_toStand_10 : decode cL_toStand 10 = .ok (.goto 7, 3) := by decide +kernel
theorem dL_toStand_13 : decode cL_toStand 13 = .ok (.astore 4, 2) := by decide +kernel
theorem dL_toStand_15 : decode cL_toStand 15 = .ok (.iconst 1, 1) := by decide +kernel
theorem dL_toStand_16 : decode cL_toStand 16 = .ok (.ireturn, 1) := by decide +kernel
theorem dL_toStand_17 : decode cL_toStand 17 = .ok (.iconst 0, 1) := by decide +kernel
theorem dL_toStand_18 : decode cL_toStand 18 = .ok (.ireturn, 1) := by decide +kernel
theorem dL_toSteal_0 : decode cL_toSteal 0 = .ok (.aload_n 3, 1) := by decide +kernel
theorem dL_toSteal_1 : decode cL_toSteal 1 = .ok (.iconst 0, 1) := by decide +kernel
theorem dL_toSteal_2 : decode cL_toSteal 2 = .ok (.aload_n 0, 1) := by decide +kernel
theorem dL_toSteal_3 : decode cL_toSteal 3 = .ok (.iload_n 1, 1) := by decide +kernel
theorem dL_toSteal_4 : decode cL_toSteal 4 = .ok (.iload_n 2, 1) := by decide +kernel
theorem dL_toSteal_5 : decode cL_toSteal 5 = .ok (.invokevirtual 58, 3) := by decide +kernel
theorem dL_toSteal_8 : decode cL_toSteal 8 = .ok (.i2l, 1) := by decide +kernel
theorem dL_toSteal_9 : decode cL_toSteal 9 = .ok (.lastore, 1) := by decide +kernel
theorem dL_toSteal_10 : decode cL_toSteal 10 = .ok (.goto 7, 3) := by decide +kernel
theorem dL_toSteal_13 : decode cL_toSteal 13 = .ok (.astore 4, 2) := by decide +kernel
theorem dL_toSteal_15 : decode cL_toSteal 15 = .ok (.iconst 1, 1) := by decide +kernel
theorem dL_toSteal_16 : decode cL_toSteal 16 = .ok (.ireturn, 1) := by decide +kernel
theorem dL_toSteal_17 : decode cL_toSteal 17 = .ok (.iconst 0, 1) := by decide +kernel
theorem dL_toSteal_18 : decode cL_toSteal 18 = .ok (.ireturn, 1) := by decide +kernel
theorem dL_watch_0 : decode cL_watch 0 = .ok (.aload_n 2, 1) := by decide +kernel
theorem dL_watch_1 : decode cL_watch 1 = .ok (.iconst 0, 1) := by decide +kernel
theorem dL_watch_2 : decode cL_watch 2 = .ok (.aload_n 0, 1) := by decide +kernel
theorem dL_watch_3 : decode cL_watch 3 = .ok (.iload_n 1, 1) := by decide +kernel
theorem dL_watch_4 : decode cL_watch 4 = .ok (.invokevirtual 61, 3) := by decide +kernel
theorem dL_watch_7 : decode cL_watch 7 = .ok (.i2l, 1) := by decide +kernel
theorem dL_watch_8 : decode cL_watch 8 = .ok (.lastore, 1) := by decide +kernel
theorem dL_watch_9 : decode cL_watch 9 = .ok (.goto 6, 3) := by decide +kernel
theorem dL_watch_12 : decode cL_watch 12 = .ok (.astore_n 3, 1) := by decide +kernel
theorem dL_watch_13 : decode cL_watch 13 = .ok (.iconst 1, 1) := by decide +kernel
theorem dL_watch_14 : decode cL_watch 14 = .ok (.ireturn, 1) := by decide +kernel
theorem dL_watch_15 : decode cL_watch 15 = .ok (.iconst 0, 1) := by decide +kernel
theorem dL_watch_16 : decode cL_watch 16 = .ok (.ireturn, 1) := by decide +kernel
theorem dL_least_0 : decode cL_least 0 = .ok (.aload_n 2, 1) := by decide +kernel
theorem dL_least_1 : decode cL_least 1 = .ok (.iconst 0, 1) := by decide +kernel
theorem dL_least_2 : decode cL_least 2 = .ok (.aload_n 0, 1) := by decide +kernel
theorem dL_least_3 : decode cL_least 3 = .ok (.iload_n 1, 1) := by decide +kernel
theorem dL_least_4 : decode cL_least 4 = .ok (.invokevirtual 64, 3) := by decide +kernel
theorem dL_least_7 : decode cL_least 7 = .ok (.i2l, 1) := by decide +kernel
theorem dL_least_8 : decode cL_least 8 = .ok (.lastore, 1) := by decide +kernel
theorem dL_least_9 : decode cL_least 9 = .ok (.goto 6, 3) := by decide +kernel
theorem dL_least_12 : decode cL_least 12 = .ok (.astore_n 3, 1) := by decide +kernel
theorem dL_least_13 : decode cL_least 13 = .ok (.iconst 1, 1) := by decide +kernel
theorem dL_least_14 : decode cL_least 14 = .ok (.ireturn, 1) := by decide +kernel
theorem dL_least_15 : decode cL_least 15 = .ok (.iconst 0, 1) := by decide +kernel
theorem dL_least_16 : decode cL_least 16 = .ok (.ireturn, 1) := by decide +kernel
theorem dL_whose_0 : decode cL_whose 0 = .ok (.aload_n 2, 1) := by decide +kernel
theorem dL_whose_1 : decode cL_whose 1 = .ok (.iconst 0, 1) := by decide +kernel
theorem dL_whose_2 : decode cL_whose 2 = .ok (.aload_n 0, 1) := by decide +kernel
theorem dL_whose_3 : decode cL_whose 3 = .ok (.iload_n 1, 1) := by decide +kernel
theorem dL_whose_4 : decode cL_whose 4 = .ok (.invokevirtual 67, 3) := by decide +kernel
theorem dL_whose_7 : decode cL_whose 7 = .ok (.i2l, 1) := by decide +kernel
theorem dL_whose_8 : decode cL_whose 8 = .ok (.lastore, 1) := by decide +kernel
theorem dL_whose_9 : decode cL_whose 9 = .ok (.goto 6, 3) := by decide +kernel
theorem dL_whose_12 : decode cL_whose 12 = .ok (.astore_n 3, 1) := by decide +kernel
theorem dL_whose_13 : decode cL_whose 13 = .ok (.iconst 1, 1) := by decide +kernel
theorem dL_whose_14 : decode cL_whose 14 = .ok (.ireturn, 1) := by decide +kernel
theorem dL_whose_15 : decode cL_whose 15 = .ok (.iconst 0, 1) := by decide +kernel
theorem dL_whose_16 : decode cL_whose 16 = .ok (.ireturn, 1) := by decide +kernel
theorem dL_note_0 : decode cL_note 0 = .ok (.aload 4, 2) := by decide +kernel
theorem dL_note_2 : decode cL_note 2 = .ok (.iconst 0, 1) := by decide +kernel
theorem dL_note_3 : decode cL_note 3 = .ok (.aload_n 0, 1) := by decide +kernel
theorem dL_note_4 : decode cL_note 4 = .ok (.iload_n 1, 1) := by decide +kernel
theorem dL_note_5 : decode cL_note 5 = .ok (.iload_n 2, 1) := by decide +kernel
theorem dL_note_6 : decode cL_note 6 = .ok (.iload_n 3, 1) := by decide +kernel
theorem dL_note_7 : decode cL_note 7 = .ok (.invokevirtual 70, 3) := by decide +kernel
theorem dL_note_10 : decode cL_note 10 = .ok (.i2l, 1) := by decide +kernel
theorem dL_note_11 : decode cL_note 11 = .ok (.lastore, 1) := by decide +kernel
theorem dL_note_12 : decode cL_note 12 = .ok (.goto 7, 3) := by decide +kernel
theorem dL_note_15 : decode cL_note 15 = .ok (.astore 5, 2) := by decide +kernel
theorem dL_note_17 : decode cL_note 17 = .ok (.iconst 1, 1) := by decide +kernel
theorem dL_note_18 : decode cL_note 18 = .ok (.ireturn, 1) := by decide +kernel
theorem dL_note_19 : decode cL_note 19 = .ok (.iconst 0, 1) := by decide +kernel
theorem dL_note_20 : decode cL_note 20 = .ok (.ireturn, 1) := by decide +kernel
theorem dL_vain_0 : decode cL_vain 0 = .ok (.aload_n 2, 1) := by decide +kernel
theorem dL_vain_1 : decode cL_vain 1 = .ok (.iconst 0, 1) := by decide +kernel
theorem dL_vain_2 : decode cL_vain 2 = .ok (.aload_n 0, 1) := by decide +kernel
theorem dL_vain_3 : decode cL_vain 3 = .ok (.iload_n 1, 1) := by decide +kernel
theorem dL_vain_4 : decode cL_vain 4 = .ok (.invokevirtual 74, 3) := by decide +kernel
theorem dL_vain_7 : decode cL_vain 7 = .ok (.i2l, 1) := by decide +kernel
theorem dL_vain_8 : decode cL_vain 8 = .ok (.lastore, 1) := by decide +kernel
theorem dL_vain_9 : decode cL_vain 9 = .ok (.goto 6, 3) := by decide +kernel
theorem dL_vain_12 : decode cL_vain 12 = .ok (.astore_n 3, 1) := by decide +kernel
theorem dL_vain_13 : decode cL_vain 13 = .ok (.iconst 1, 1) := by decide +kernel
theorem dL_vain_14 : decode cL_vain 14 = .ok (.ireturn, 1) := by decide +kernel
theorem dL_vain_15 : decode cL_vain 15 = .ok (.iconst 0, 1) := by decide +kernel
theorem dL_vain_16 : decode cL_vain 16 = .ok (.ireturn, 1) := by decide +kernel
theorem dL_ask_0 : decode cL_ask 0 = .ok (.aload_n 2, 1) := by decide +kernel
theorem dL_ask_1 : decode cL_ask 1 = .ok (.iconst 0, 1) := by decide +kernel
theorem dL_ask_2 : decode cL_ask 2 = .ok (.aload_n 0, 1) := by decide +kernel
theorem dL_ask_3 : decode cL_ask 3 = .ok (.iload_n 1, 1) := by decide +kernel
theorem dL_ask_4 : decode cL_ask 4 = .ok (.invokevirtual 77, 3) := by decide +kernel
theorem dL_ask_7 : decode cL_ask 7 = .ok (.i2l, 1) := by decide +kernel
theorem dL_ask_8 : decode cL_ask 8 = .ok (.lastore, 1) := by decide +kernel
theorem dL_ask_9 : decode cL_ask 9 = .ok (.goto 6, 3) := by decide +kernel
theorem dL_ask_12 : decode cL_ask 12 = .ok (.astore_n 3, 1) := by decide +kernel
theorem dL_ask_13 : decode cL_ask 13 = .ok (.iconst 1, 1) := by decide +kernel
theorem dL_ask_14 : decode cL_ask 14 = .ok (.ireturn, 1) := by decide +kernel
theorem dL_ask_15 : decode cL_ask 15 = .ok (.iconst 0, 1) := by decide +kernel
theorem dL_ask_16 : decode cL_ask 16 = .ok (.ireturn, 1) := by decide +kernel
theorem dL_fog_0 : decode cL_fog 0 = .ok (.aload 4, 2) := by decide +kernel
theorem dL_fog_2 : decode cL_fog 2 = .ok (.iconst 0, 1) := by decide +kernel
theorem dL_fog_3 : decode cL_fog 3 = .ok (.aload_n 0, 1) := by decide +kernel
theorem dL_fog_4 : decode cL_fog 4 = .ok (.iload_n 1, 1) := by decide +kernel
theorem dL_fog_5 : decode cL_fog 5 = .ok (.iload_n 2, 1) := by decide +kernel
theorem dL_fog_6 : decode cL_fog 6 = .ok (.iload_n 3, 1) := by decide +kernel
theorem dL_fog_7 : decode cL_fog 7 = .ok (.invokevirtual 80, 3) := by decide +kernel
theorem dL_fog_10 : decode cL_fog 10 = .ok (.i2l, 1) := by decide +kernel
theorem dL_fog_11 : decode cL_fog 11 = .ok (.lastore, 1) := by decide +kernel
theorem dL_fog_12 : decode cL_fog 12 = .ok (.goto 11, 3) := by decide +kernel
theorem dL_fog_15 : decode cL_fog 15 = .ok (.astore 5, 2) := by decide +kernel
theorem dL_fog_17 : decode cL_fog 17 = .ok (.iconst 1, 1) := by decide +kernel
theorem dL_fog_18 : decode cL_fog 18 = .ok (.ireturn, 1) := by decide +kernel
theorem dL_fog_19 : decode cL_fog 19 = .ok (.astore 5, 2) := by decide +kernel
theorem dL_fog_21 : decode cL_fog 21 = .ok (.iconst 2, 1) := by decide +kernel
theorem dL_fog_22 : decode cL_fog 22 = .ok (.ireturn, 1) := by decide +kernel
theorem dL_fog_23 : decode cL_fog 23 = .ok (.iconst 0, 1) := by decide +kernel
theorem dL_fog_24 : decode cL_fog 24 = .ok (.ireturn, 1) := by decide +kernel
theorem dL_game_0 : decode cL_game 0 = .ok (.aload 4, 2) := by decide +kernel
theorem dL_game_2 : decode cL_game 2 = .ok (.iconst 0, 1) := by decide +kernel
theorem dL_game_3 : decode cL_game 3 = .ok (.aload_n 0, 1) := by decide +kernel
theorem dL_game_4 : decode cL_game 4 = .ok (.iload_n 1, 1) := by decide +kernel
theorem dL_game_5 : decode cL_game 5 = .ok (.iload_n 2, 1) := by decide +kernel
theorem dL_game_6 : decode cL_game 6 = .ok (.iload_n 3, 1) := by decide +kernel
theorem dL_game_7 : decode cL_game 7 = .ok (.invokevirtual 83, 3) := by decide +kernel
theorem dL_game_10 : decode cL_game 10 = .ok (.i2l, 1) := by decide +kernel
theorem dL_game_11 : decode cL_game 11 = .ok (.lastore, 1) := by decide +kernel
theorem dL_game_12 : decode cL_game 12 = .ok (.goto 11, 3) := by decide +kernel
theorem dL_game_15 : decode cL_game 15 = .ok (.astore 5, 2) := by decide +kernel
theorem dL_game_17 : decode cL_game 17 = .ok (.iconst 1, 1) := by decide +kernel
theorem dL_game_18 : decode cL_game 18 = .ok (.ireturn, 1) := by decide +kernel
theorem dL_game_19 : decode cL_game 19 = .ok (.astore 5, 2) := by decide +kernel
theorem dL_game_21 : decode cL_game 21 = .ok (.iconst 2, 1) := by decide +kernel
theorem dL_game_22 : decode cL_game 22 = .ok (.ireturn, 1) := by decide +kernel
theorem dL_game_23 : decode cL_game 23 = .ok (.iconst 0, 1) := by decide +kernel
theorem dL_game_24 : decode cL_game 24 = .ok (.ireturn, 1) := by decide +kernel
theorem dL_years_0 : decode cL_years 0 = .ok (.aload 4, 2) := by decide +kernel
theorem dL_years_2 : decode cL_years 2 = .ok (.iconst 0, 1) := by decide +kernel
theorem dL_years_3 : decode cL_years 3 = .ok (.aload_n 0, 1) := by decide +kernel
theorem dL_years_4 : decode cL_years 4 = .ok (.iload_n 1, 1) := by decide +kernel
theorem dL_years_5 : decode cL_years 5 = .ok (.iload_n 2, 1) := by decide +kernel
theorem dL_years_6 : decode cL_years 6 = .ok (.iload_n 3, 1) := by decide +kernel
theorem dL_years_7 : decode cL_years 7 = .ok (.invokevirtual 86, 3) := by decide +kernel
theorem dL_years_10 : decode cL_years 10 = .ok (.i2l, 1) := by decide +kernel
theorem dL_years_11 : decode cL_years 11 = .ok (.lastore, 1) := by decide +kernel
theorem dL_years_12 : decode cL_years 12 = .ok (.goto 11, 3) := by decide +kernel
theorem dL_years_15 : decode cL_years 15 = .ok (.astore 5, 2) := by decide +kernel
theorem dL_years_17 : decode cL_years 17 = .ok (.iconst 1, 1) := by decide +kernel
theorem dL_years_18 : decode cL_years 18 = .ok (.ireturn, 1) := by decide +kernel
theorem dL_years_19 : decode cL_years 19 = .ok (.astore 5, 2) := by decide +kernel
theorem dL_years_21 : decode cL_years 21 = .ok (.iconst 2, 1) := by decide +kernel
theorem dL_years_22 : decode cL_years 22 = .ok (.ireturn, 1) := by decide +kernel
theorem dL_years_23 : decode cL_years 23 = .ok (.iconst 0, 1) := by decide +kernel
theorem dL_years_24 : decode cL_years 24 = .ok (.ireturn, 1) := by decide +kernel
theorem dL_meet_0 : decode cL_meet 0 = .ok (.aload_n 3, 1) := by decide +kernel
theorem dL_meet_1 : decode cL_meet 1 = .ok (.iconst 0, 1) := by decide +kernel
theorem dL_meet_2 : decode cL_meet 2 = .ok (.aload_n 0, 1) := by decide +kernel
theorem dL_meet_3 : decode cL_meet 3 = .ok (.iload_n 1, 1) := by decide +kernel
theorem dL_meet_4 : decode cL_meet 4 = .ok (.iload_n 2, 1) := by decide +kernel
theorem dL_meet_5 : decode cL_meet 5 = .ok (.invokevirtual 89, 3) := by decide +kernel
theorem dL_meet_8 : decode cL_meet 8 = .ok (.i2l, 1) := by decide +kernel
theorem dL_meet_9 : decode cL_meet 9 = .ok (.lastore, 1) := by decide +kernel
theorem dL_meet_10 : decode cL_meet 10 = .ok (.goto 7, 3) := by decide +kernel
theorem dL_meet_13 : decode cL_meet 13 = .ok (.astore 4, 2) := by decide +kernel
theorem dL_meet_15 : decode cL_meet 15 = .ok (.iconst 1, 1) := by decide +kernel
theorem dL_meet_16 : decode cL_meet 16 = .ok (.ireturn, 1) := by decide +kernel
theorem dL_meet_17 : decode cL_meet 17 = .ok (.iconst 0, 1) := by decide +kernel
theorem dL_meet_18 : decode cL_meet 18 = .ok (.ireturn, 1) := by decide +kernel
theorem dL_faced_0 : decode cL_faced 0 = .ok (.aload_n 2, 1) := by decide +kernel
theorem dL_faced_1 : decode cL_faced 1 = .ok (.iconst 0, 1) := by decide +kernel
theorem dL_faced_2 : decode cL_faced 2 = .ok (.aload_n 0, 1) := by decide +kernel
theorem dL_faced_3 : decode cL_faced 3 = .ok (.iload_n 1, 1) := by decide +kernel
theorem dL_faced_4 : decode cL_faced 4 = .ok (.invokevirtual 92, 3) := by decide +kernel
theorem dL_faced_7 : decode cL_faced 7 = .ok (.i2l, 1) := by decide +kernel
theorem dL_faced_8 : decode cL_faced 8 = .ok (.lastore, 1) := by decide +kernel
theorem dL_faced_9 : decode cL_faced 9 = .ok (.goto 6, 3) := by decide +kernel
theorem dL_faced_12 : decode cL_faced 12 = .ok (.astore_n 3, 1) := by decide +kernel
theorem dL_faced_13 : decode cL_faced 13 = .ok (.iconst 1, 1) := by decide +kernel
theorem dL_faced_14 : decode cL_faced 14 = .ok (.ireturn, 1) := by decide +kernel
theorem dL_faced_15 : decode cL_faced 15 = .ok (.iconst 0, 1) := by decide +kernel
theorem dL_faced_16 : decode cL_faced 16 = .ok (.ireturn, 1) := by decide +kernel
theorem dL_walks_0 : decode cL_walks 0 = .ok (.aload_n 3, 1) := by decide +kernel
theorem dL_walks_1 : decode cL_walks 1 = .ok (.iconst 0, 1) := by decide +kernel
theorem dL_walks_2 : decode cL_walks 2 = .ok (.aload_n 0, 1) := by decide +kernel
theorem dL_walks_3 : decode cL_walks 3 = .ok (.iload_n 1, 1) := by decide +kernel
theorem dL_walks_4 : decode cL_walks 4 = .ok (.iload_n 2, 1) := by decide +kernel
theorem dL_walks_5 : decode cL_walks 5 = .ok (.invokevirtual 95, 3) := by decide +kernel
theorem dL_walks_8 : decode cL_walks 8 = .ok (.i2l, 1) := by decide +kernel
theorem dL_walks_9 : decode cL_walks 9 = .ok (.lastore, 1) := by decide +kernel
theorem dL_walks_10 : decode cL_walks 10 = .ok (.goto 11, 3) := by decide +kernel
theorem dL_walks_13 : decode cL_walks 13 = .ok (.astore 4, 2) := by decide +kernel
theorem dL_walks_15 : decode cL_walks 15 = .ok (.iconst 1, 1) := by decide +kernel
theorem dL_walks_16 : decode cL_walks 16 = .ok (.ireturn, 1) := by decide +kernel
theorem dL_walks_17 : decode cL_walks 17 = .ok (.astore 4, 2) := by decide +kernel
theorem dL_walks_19 : decode cL_walks 19 = .ok (.iconst 2, 1) := by decide +kernel
theorem dL_walks_20 : decode cL_walks 20 = .ok (.ireturn, 1) := by decide +kernel
theorem dL_walks_21 : decode cL_walks 21 = .ok (.iconst 0, 1) := by decide +kernel
theorem dL_walks_22 : decode cL_walks 22 = .ok (.ireturn, 1) := by decide +kernel
theorem dL_shamed_0 : decode cL_shamed 0 = .ok (.aload_n 3, 1) := by decide +kernel
theorem dL_shamed_1 : decode cL_shamed 1 = .ok (.iconst 0, 1) := by decide +kernel
theorem dL_shamed_2 : decode cL_shamed 2 = .ok (.aload_n 0, 1) := by decide +kernel
theorem dL_shamed_3 : decode cL_shamed 3 = .ok (.iload_n 1, 1) := by decide +kernel
theorem dL_shamed_4 : decode cL_shamed 4 = .ok (.iload_n 2, 1) := by decide +kernel
theorem dL_shamed_5 : decode cL_shamed 5 = .ok (.invokevirtual 98, 3) := by decide +kernel
theorem dL_shamed_8 : decode cL_shamed 8 = .ok (.i2l, 1) := by decide +kernel
theorem dL_shamed_9 : decode cL_shamed 9 = .ok (.lastore, 1) := by decide +kernel
theorem dL_shamed_10 : decode cL_shamed 10 = .ok (.goto 11, 3) := by decide +kernel
theorem dL_shamed_13 : decode cL_shamed 13 = .ok (.astore 4, 2) := by decide +kernel
theorem dL_shamed_15 : decode cL_shamed 15 = .ok (.iconst 1, 1) := by decide +kernel
theorem dL_shamed_16 : decode cL_shamed 16 = .ok (.ireturn, 1) := by decide +kernel
theorem dL_shamed_17 : decode cL_shamed 17 = .ok (.astore 4, 2) := by decide +kernel
theorem dL_shamed_19 : decode cL_shamed 19 = .ok (.iconst 2, 1) := by decide +kernel
theorem dL_shamed_20 : decode cL_shamed 20 = .ok (.ireturn, 1) := by decide +kernel
theorem dL_shamed_21 : decode cL_shamed 21 = .ok (.iconst 0, 1) := by decide +kernel
theorem dL_shamed_22 : decode cL_shamed 22 = .ok (.ireturn, 1) := by decide +kernel
theorem dL_has_0 : decode cL_has 0 = .ok (.aload_n 3, 1) := by decide +kernel
theorem dL_has_1 : decode cL_has 1 = .ok (.iconst 0, 1) := by decide +kernel
theorem dL_has_2 : decode cL_has 2 = .ok (.aload_n 0, 1) := by decide +kernel
theorem dL_has_3 : decode cL_has 3 = .ok (.iload_n 1, 1) := by decide +kernel
theorem dL_has_4 : decode cL_has 4 = .ok (.iload_n 2, 1) := by decide +kernel
theorem dL_has_5 : decode cL_has 5 = .ok (.invokevirtual 101, 3) := by decide +kernel
theorem dL_has_8 : decode cL_has 8 = .ok (.i2l, 1) := by decide +kernel
theorem dL_has_9 : decode cL_has 9 = .ok (.lastore, 1) := by decide +kernel
theorem dL_has_10 : decode cL_has 10 = .ok (.goto 11, 3) := by decide +kernel
theorem dL_has_13 : decode cL_has 13 = .ok (.astore 4, 2) := by decide +kernel
theorem dL_has_15 : decode cL_has 15 = .ok (.iconst 1, 1) := by decide +kernel
theorem dL_has_16 : decode cL_has 16 = .ok (.ireturn, 1) := by decide +kernel
theorem dL_has_17 : decode cL_has 17 = .ok (.astore 4, 2) := by decide +kernel
theorem dL_has_19 : decode cL_has 19 = .ok (.iconst 2, 1) := by decide +kernel
theorem dL_has_20 : decode cL_has 20 = .ok (.ireturn, 1) := by decide +kernel
theorem dL_has_21 : decode cL_has 21 = .ok (.iconst 0, 1) := by decide +kernel
theorem dL_has_22 : decode cL_has 22 = .ok (.ireturn, 1) := by decide +kernel
theorem dL_takes_0 : decode cL_takes 0 = .ok (.aload_n 3, 1) := by decide +kernel
theorem dL_takes_1 : decode cL_takes 1 = .ok (.iconst 0, 1) := by decide +kernel
theorem dL_takes_2 : decode cL_takes 2 = .ok (.aload_n 0, 1) := by decide +kernel
theorem dL_takes_3 : decode cL_takes 3 = .ok (.iload_n 1, 1) := by decide +kernel
theorem dL_takes_4 : decode cL_takes 4 = .ok (.iload_n 2, 1) := by decide +kernel
theorem dL_takes_5 : decode cL_takes 5 = .ok (.invokevirtual 104, 3) := by decide +kernel
theorem dL_takes_8 : decode cL_takes 8 = .ok (.i2l, 1) := by decide +kernel
theorem dL_takes_9 : decode cL_takes 9 = .ok (.lastore, 1) := by decide +kernel
theorem dL_takes_10 : decode cL_takes 10 = .ok (.goto 7, 3) := by decide +kernel
theorem dL_takes_13 : decode cL_takes 13 = .ok (.astore 4, 2) := by decide +kernel
theorem dL_takes_15 : decode cL_takes 15 = .ok (.iconst 1, 1) := by decide +kernel
theorem dL_takes_16 : decode cL_takes 16 = .ok (.ireturn, 1) := by decide +kernel
theorem dL_takes_17 : decode cL_takes 17 = .ok (.iconst 0, 1) := by decide +kernel
theorem dL_takes_18 : decode cL_takes 18 = .ok (.ireturn, 1) := by decide +kernel
theorem dL_quiet_0 : decode cL_quiet 0 = .ok (.aload_n 2, 1) := by decide +kernel
theorem dL_quiet_1 : decode cL_quiet 1 = .ok (.iconst 0, 1) := by decide +kernel
theorem dL_quiet_2 : decode cL_quiet 2 = .ok (.aload_n 0, 1) := by decide +kernel
theorem dL_quiet_3 : decode cL_quiet 3 = .ok (.iload_n 1, 1) := by decide +kernel
theorem dL_quiet_4 : decode cL_quiet 4 = .ok (.invokevirtual 107, 3) := by decide +kernel
theorem dL_quiet_7 : decode cL_quiet 7 = .ok (.i2l, 1) := by decide +kernel
theorem dL_quiet_8 : decode cL_quiet 8 = .ok (.lastore, 1) := by decide +kernel
theorem dL_quiet_9 : decode cL_quiet 9 = .ok (.goto 6, 3) := by decide +kernel
theorem dL_quiet_12 : decode cL_quiet 12 = .ok (.astore_n 3, 1) := by decide +kernel
theorem dL_quiet_13 : decode cL_quiet 13 = .ok (.iconst 1, 1) := by decide +kernel
theorem dL_quiet_14 : decode cL_quiet 14 = .ok (.ireturn, 1) := by decide +kernel
theorem dL_quiet_15 : decode cL_quiet 15 = .ok (.iconst 0, 1) := by decide +kernel
theorem dL_quiet_16 : decode cL_quiet 16 = .ok (.ireturn, 1) := by decide +kernel
theorem dL_law_0 : decode cL_law 0 = .ok (.new 8, 3) := by decide +kernel
theorem dL_law_3 : decode cL_law 3 = .ok (.dup, 1) := by decide +kernel
theorem dL_law_4 : decode cL_law 4 = .ok (.invokespecial 110, 3) := by decide +kernel
theorem dL_law_7 : decode cL_law 7 = .ok (.astore_n 1, 1) := by decide +kernel
theorem dL_law_8 : decode cL_law 8 = .ok (.new 111, 3) := by decide +kernel
theorem dL_law_11 : decode cL_law 11 = .ok (.dup, 1) := by decide +kernel
theorem dL_law_12 : decode cL_law 12 = .ok (.invokespecial 113, 3) := by decide +kernel
theorem dL_law_15 : decode cL_law 15 = .ok (.astore_n 2, 1) := by decide +kernel
theorem dL_law_16 : decode cL_law 16 = .ok (.iconst 1, 1) := by decide +kernel
theorem dL_law_17 : decode cL_law 17 = .ok (.newarray .long, 2) := by decide +kernel
theorem dL_law_19 : decode cL_law 19 = .ok (.astore_n 3, 1) := by decide +kernel
theorem dL_law_20 : decode cL_law 20 = .ok (.iconst 0, 1) := by decide +kernel
theorem dL_law_21 : decode cL_law 21 = .ok (.istore 4, 2) := by decide +kernel
theorem dL_law_23 : decode cL_law 23 = .ok (.iload 4, 2) := by decide +kernel
theorem dL_law_25 : decode cL_law 25 = .ok (.aload_n 0, 1) := by decide +kernel
theorem dL_law_26 : decode cL_law 26 = .ok (.arraylength, 1) := by decide +kernel
theorem dL_law_27 : decode cL_law 27 = .ok (.bipush 6, 2) := by decide +kernel
theorem dL_law_29 : decode cL_law 29 = .ok (.isub, 1) := by decide +kernel
theorem dL_law_30 : decode cL_law 30 = .ok (.if_icmp .gt 2443, 3) := by decide +kernel
theorem dL_law_33 : decode cL_law 33 = .ok (.aload_n 0, 1) := by decide +kernel
theorem dL_law_34 : decode cL_law 34 = .ok (.iload 4, 2) := by decide +kernel
theorem dL_law_36 : decode cL_law 36 = .ok (.iaload, 1) := by decide +kernel
theorem dL_law_37 : decode cL_law 37 = .ok (.bipush 63, 2) := by decide +kernel
theorem dL_law_39 : decode cL_law 39 = .ok (.iand, 1) := by decide +kernel
theorem dL_law_40 : decode cL_law 40 = .ok (.tableswitch 2427 0 37 #[168, 241, 297, 310, 366, 434, 502, 527, 595, 651, 731, 799, 812, 892, 972, 1040, 1108, 1188, 1256, 1324, 1380, 1436, 1492, 1588, 1599, 1655, 1711, 1791, 1871, 1951, 2019, 2075, 2143, 2211, 2279, 2347, 2403, 2414], 168) := by decide +kernel
theorem dL_law_208 : decode cL_law 208 = .ok (.aload_n 1, 1) := by decide +kernel
theorem dL_law_209 : decode cL_law 209 = .ok (.aload_n 0, 1) := by decide +kernel
theorem dL_law_210 : decode cL_law 210 = .ok (.iload 4, 2) := by decide +kernel
theorem dL_law_212 : decode cL_law 212 = .ok (.iconst 1, 1) := by decide +kernel
theorem dL_law_213 : decode cL_law 213 = .ok (.iadd, 1) := by decide +kernel
theorem dL_law_214 : decode cL_law 214 = .ok (.iaload, 1) := by decide +kernel
theorem dL_law_215 : decode cL_law 215 = .ok (.aload_n 0, 1) := by decide +kernel
theorem dL_law_216 : decode cL_law 216 = .ok (.iload 4, 2) := by decide +kernel
theorem dL_law_218 : decode cL_law 218 = .ok (.iconst 2, 1) := by decide +kernel
theorem dL_law_219 : decode cL_law 219 = .ok (.iadd, 1) := by decide +kernel
theorem dL_law_220 : decode cL_law 220 = .ok (.iaload, 1) := by decide +kernel
theorem dL_law_221 : decode cL_law 221 = .ok (.aload_n 0, 1) := by decide +kernel
theorem dL_law_222 : decode cL_law 222 = .ok (.iload 4, 2) := by decide +kernel
theorem dL_law_224 : decode cL_law 224 = .ok (.iconst 3, 1) := by decide +kernel
theorem dL_law_225 : decode cL_law 225 = .ok (.iadd, 1) := by decide +kernel
theorem dL_law_226 : decode cL_law 226 = .ok (.iaload, 1) := by decide +kernel
theorem dL_law_227 : decode cL_law 227 = .ok (.aload_n 0, 1) := by decide +kernel
theorem dL_law_228 : decode cL_law 228 = .ok (.iload 4, 2) := by decide +kernel
theorem dL_law_230 : decode cL_law 230 = .ok (.iconst 4, 1) := by decide +kernel
theorem dL_law_231 : decode cL_law 231 = .ok (.iadd, 1) := by decide +kernel
theorem dL_law_232 : decode cL_law 232 = .ok (.iaload, 1) := by decide +kernel
theorem dL_law_233 : decode cL_law 233 = .ok (.aload_n 0, 1) := by decide +kernel
theorem dL_law_234 : decode cL_law 234 = .ok (.iload 4, 2) := by decide +kernel
theorem dL_law_236 : decode cL_law 236 = .ok (.iconst 5, 1) := by decide +kernel
theorem dL_law_237 : decode cL_law 237 = .ok (.iadd, 1) := by decide +kernel
theorem dL_law_238 : decode cL_law 238 = .ok (.iaload, 1) := by decide +kernel
theorem dL_law_239 : decode cL_law 239 = .ok (.invokevirtual 114, 3) := by decide +kernel
theorem dL_law_242 : decode cL_law 242 = .ok (.aload_n 2, 1) := by decide +kernel
theorem dL_law_243 : decode cL_law 243 = .ok (.aload_n 0, 1) := by decide +kernel
theorem dL_law_244 : decode cL_law 244 = .ok (.iload 4, 2) := by decide +kernel
theorem dL_law_246 : decode cL_law 246 = .ok (.iconst 1, 1) := by decide +kernel
theorem dL_law_247 : decode cL_law 247 = .ok (.iadd, 1) := by decide +kernel
theorem dL_law_248 : decode cL_law 248 = .ok (.iaload, 1) := by decide +kernel
theorem dL_law_249 : decode cL_law 249 = .ok (.aload_n 0, 1) := by decide +kernel
theorem dL_law_250 : decode cL_law 250 = .ok (.iload 4, 2) := by decide +kernel
theorem dL_law_252 : decode cL_law 252 = .ok (.iconst 2, 1) := by decide +kernel
theorem dL_law_253 : decode cL_law 253 = .ok (.iadd, 1) := by decide +kernel
theorem dL_law_254 : decode cL_law 254 = .ok (.iaload, 1) := by decide +kernel
theorem dL_law_255 : decode cL_law 255 = .ok (.aload_n 0, 1) := by decide +kernel
theorem dL_law_256 : decode cL_law 256 = .ok (.iload 4, 2) := by decide +kernel
theorem dL_law_258 : decode cL_law 258 = .ok (.iconst 3, 1) := by decide +kernel
theorem dL_law_259 : decode cL_law 259 = .ok (.iadd, 1) := by decide +kernel
theorem dL_law_260 : decode cL_law 260 = .ok (.iaload, 1) := by decide +kernel
theorem dL_law_261 : decode cL_law 261 = .ok (.aload_n 0, 1) := by decide +kernel
theorem dL_law_262 : decode cL_law 262 = .ok (.iload 4, 2) := by decide +kernel
theorem dL_law_264 : decode cL_law 264 = .ok (.iconst 4, 1) := by decide +kernel
theorem dL_law_265 : decode cL_law 265 = .ok (.iadd, 1) := by decide +kernel
theorem dL_law_266 : decode cL_law 266 = .ok (.iaload, 1) := by decide +kernel
theorem dL_law_267 : decode cL_law 267 = .ok (.aload_n 0, 1) := by decide +kernel
theorem dL_law_268 : decode cL_law 268 = .ok (.iload 4, 2) := by decide +kernel
theorem dL_law_270 : decode cL_law 270 = .ok (.iconst 5, 1) := by decide +kernel
theorem dL_law_271 : decode cL_law 271 = .ok (.iadd, 1) := by decide +kernel
theorem dL_law_272 : decode cL_law 272 = .ok (.iaload, 1) := by decide +kernel
theorem dL_law_273 : decode cL_law 273 = .ok (.invokevirtual 118, 3) := by decide +kernel
theorem dL_law_276 : decode cL_law 276 = .ok (.if_icmp .eq 2191, 3) := by decide +kernel
theorem dL_law_279 : decode cL_law 279 = .ok (.iconst 0, 1) := by decide +kernel
theorem dL_law_280 : decode cL_law 280 = .ok (.ireturn, 1) := by decide +kernel
theorem dL_law_281 : decode cL_law 281 = .ok (.aload_n 1, 1) := by decide +kernel
theorem dL_law_282 : decode cL_law 282 = .ok (.aload_n 0, 1) := by decide +kernel
theorem dL_law_283 : decode cL_law 283 = .ok (.iload 4, 2) := by decide +kernel
theorem dL_law_285 : decode cL_law 285 = .ok (.iconst 1, 1) := by decide +kernel
theorem dL_law_286 : decode cL_law 286 = .ok (.iadd, 1) := by decide +kernel
theorem dL_law_287 : decode cL_law 287 = .ok (.iaload, 1) := by decide +kernel
theorem dL_law_288 : decode cL_law 288 = .ok (.aload_n 3, 1) := by decide +kernel
theorem dL_law_289 : decode cL_law 289 = .ok (.invokestatic 119, 3) := by decide +kernel
theorem dL_law_292 : decode cL_law 292 = .ok (.istore 5, 2) := by decide +kernel
theorem dL_law_294 : decode cL_law 294 = .ok (.aload_n 2, 1) := by decide +kernel
theorem dL_law_295 : decode cL_law 295 = .ok (.aload_n 0, 1) := by decide +kernel
theorem dL_law_296 : decode cL_law 296 = .ok (.iload 4, 2) := by decide +kernel
theorem dL_law_298 : decode cL_law 298 = .ok (.iconst 1, 1) := by decide +kernel
theorem dL_law_299 : decode cL_law 299 = .ok (.iadd, 1) := by decide +kernel
theorem dL_law_300 : decode cL_law 300 = .ok (.iaload, 1) := by decide +kernel
theorem dL_law_301 : decode cL_law 301 = .ok (.invokevirtual 124, 3) := by decide +kernel
theorem dL_law_304 : decode cL_law 304 = .ok (.istore 6, 2) := by decide +kernel
theorem dL_law_306 : decode cL_law 306 = .ok (.aload_n 2, 1) := by decide +kernel
theorem dL_law_307 : decode cL_law 307 = .ok (.invokevirtual 125, 3) := by decide +kernel
theorem dL_law_310 : decode cL_law 310 = .ok (.iload 5, 2) := by decide +kernel
theorem dL_law_312 : decode cL_law 312 = .ok (.if_icmp .eq 5, 3) := by decide +kernel
theorem dL_law_315 : decode cL_law 315 = .ok (.iconst 0, 1) := by decide +kernel
theorem dL_law_316 : decode cL_law 316 = .ok (.ireturn, 1) := by decide +kernel
theorem dL_law_317 : decode cL_law 317 = .ok (.iload 5, 2) := by decide +kernel
theorem dL_law_319 : decode cL_law 319 = .ok (.ifCond .ne 15, 3) := by decide +kernel
theorem dL_law_322 : decode cL_law 322 = .ok (.aload_n 3, 1) := by decide +kernel
theorem dL_law_323 : decode cL_law 323 = .ok (.iconst 0, 1) := by decide +kernel
theorem dL_law_324 : decode cL_law 324 = .ok (.laload, 1) := by decide +kernel
theorem dL_law_325 : decode cL_law 325 = .ok (.iload 6, 2) := by decide +kernel
theorem dL_law_327 : decode cL_law 327 = .ok (.i2l, 1) := by decide +kernel
theorem dL_law_328 : decode cL_law 328 = .ok (.lcmp, 1) := by decide +kernel
theorem dL_law_329 : decode cL_law 329 = .ok (.ifCond .eq 5, 3) := by decide +kernel
theorem dL_law_332 : decode cL_law 332 = .ok (.iconst 0, 1) := by decide +kernel
theorem dL_law_333 : decode cL_law 333 = .ok (.ireturn, 1) := by decide +kernel
theorem dL_law_334 : decode cL_law 334 = .ok (.goto 2133, 3) := by decide +kernel
theorem dL_law_337 : decode cL_law 337 = .ok (.aload_n 1, 1) := by decide +kernel
theorem dL_law_338 : decode cL_law 338 = .ok (.invokevirtual 129, 3) := by decide +kernel
theorem dL_law_341 : decode cL_law 341 = .ok (.aload_n 2, 1) := by decide +kernel
theorem dL_law_342 : decode cL_law 342 = .ok (.invokevirtual 132, 3) := by decide +kernel
theorem dL_law_345 : decode cL_law 345 = .ok (.if_icmp .eq 2122, 3) := by decide +kernel
theorem dL_law_348 : decode cL_law 348 = .ok (.iconst 0, 1) := by decide +kernel
theorem dL_law_349 : decode cL_law 349 = .ok (.ireturn, 1) := by decide +kernel
theorem dL_law_350 : decode cL_law 350 = .ok (.aload_n 1, 1) := by decide +kernel
theorem dL_law_351 : decode cL_law 351 = .ok (.aload_n 0, 1) := by decide +kernel
theorem dL_law_352 : decode cL_law 352 = .ok (.iload 4, 2) := by decide +kernel
theorem dL_law_354 : decode cL_law 354 = .ok (.iconst 1, 1) := by decide +kernel
theorem dL_law_355 : decode cL_law 355 = .ok (.iadd, 1) := by decide +kernel
theorem dL_law_356 : decode cL_law 356 = .ok (.iaload, 1) := by decide +kernel
theorem dL_law_357 : decode cL_law 357 = .ok (.aload_n 3, 1) := by decide +kernel
theorem dL_law_358 : decode cL_law 358 = .ok (.invokestatic 133, 3) := by decide +kernel
theorem dL_law_361 : decode cL_law 361 = .ok (.istore 5, 2) := by decide +kernel
theorem dL_law_363 : decode cL_law 363 = .ok (.aload_n 2, 1) := by decide +kernel
theorem dL_law_364 : decode cL_law 364 = .ok (.aload_n 0, 1) := by decide +kernel
theorem dL_law_365 : decode cL_law 365 = .ok (.iload 4, 2) := by decide +kernel
theorem dL_law_367 : decode cL_law 367 = .ok (.iconst 1, 1) := by decide +kernel
theorem dL_law_368 : decode cL_law 368 = .ok (.iadd, 1) := by decide +kernel
theorem dL_law_369 : decode cL_law 369 = .ok (.iaload, 1) := by decide +kernel
theorem dL_law_370 : decode cL_law 370 = .ok (.invokevirtual 135, 3) := by decide +kernel
theorem dL_law_373 : decode cL_law 373 = .ok (.istore 6, 2) := by decide +kernel
theorem dL_law_375 : decode cL_law 375 = .ok (.aload_n 2, 1) := by decide +kernel
theorem dL_law_376 : decode cL_law 376 = .ok (.invokevirtual 125, 3) := by decide +kernel
theorem dL_law_379 : decode cL_law 379 = .ok (.iload 5, 2) := by decide +kernel
theorem dL_law_381 : decode cL_law 381 = .ok (.if_icmp .eq 5, 3) := by decide +kernel
theorem dL_law_384 : decode cL_law 384 = .ok (.iconst 0, 1) := by decide +kernel
theorem dL_law_385 : decode cL_law 385 = .ok (.ireturn, 1) := by decide +kernel
theorem dL_law_386 : decode cL_law 386 = .ok (.iload 5, 2) := by decide +kernel
theorem dL_law_388 : decode cL_law 388 = .ok (.ifCond .ne 15, 3) := by decide +kernel
theorem dL_law_391 : decode cL_law 391 = .ok (.aload_n 3, 1) := by decide +kernel
theorem dL_law_392 : decode cL_law 392 = .ok (.iconst 0, 1) := by decide +kernel
theorem dL_law_393 : decode cL_law 393 = .ok (.laload, 1) := by decide +kernel
theorem dL_law_394 : decode cL_law 394 = .ok (.iload 6, 2) := by decide +kernel
theorem dL_law_396 : decode cL_law 396 = .ok (.i2l, 1) := by decide +kernel
theorem dL_law_397 : decode cL_law 397 = .ok (.lcmp, 1) := by decide +kernel
theorem dL_law_398 : decode cL_law 398 = .ok (.ifCond .eq 5, 3) := by decide +kernel
theorem dL_law_401 : decode cL_law 401 = .ok (.iconst 0, 1) := by decide +kernel
theorem dL_law_402 : decode cL_law 402 = .ok (.ireturn, 1) := by decide +kernel
theorem dL_law_403 : decode cL_law 403 = .ok (.goto 2064, 3) := by decide +kernel
theorem dL_law_406 : decode cL_law 406 = .ok (.aload_n 1, 1) := by decide +kernel
theorem dL_law_407 : decode cL_law 407 = .ok (.aload_n 0, 1) := by decide +kernel
theorem dL_law_408 : decode cL_law 408 = .ok (.iload 4, 2) := by decide +kernel
theorem dL_law_410 : decode cL_law 410 = .ok (.iconst 1, 1) := by decide +kernel
theorem dL_law_411 : decode cL_law 411 = .ok (.iadd, 1) := by decide +kernel
theorem dL_law_412 : decode cL_law 412 = .ok (.iaload, 1) := by decide +kernel
theorem dL_law_413 : decode cL_law 413 = .ok (.aload_n 0, 1) := by decide +kernel
theorem dL_law_414 : decode cL_law 414 = .ok (.iload 4, 2) := by decide +kernel
theorem dL_law_416 : decode cL_law 416 = .ok (.iconst 2, 1) := by decide +kernel
theorem dL_law_417 : decode cL_law 417 = .ok (.iadd, 1) := by decide +kernel
theorem dL_law_418 : decode cL_law 418 = .ok (.iaload, 1) := by decide +kernel
theorem dL_law_419 : decode cL_law 419 = .ok (.aload_n 3, 1) := by decide +kernel
theorem dL_law_420 : decode cL_law 420 = .ok (.invokestatic 136, 3) := by decide +kernel
theorem dL_law_423 : decode cL_law 423 = .ok (.istore 5, 2) := by decide +kernel
theorem dL_law_425 : decode cL_law 425 = .ok (.aload_n 2, 1) := by decide +kernel
theorem dL_law_426 : decode cL_law 426 = .ok (.aload_n 0, 1) := by decide +kernel
theorem dL_law_427 : decode cL_law 427 = .ok (.iload 4, 2) := by decide +kernel
theorem dL_law_429 : decode cL_law 429 = .ok (.iconst 1, 1) := by decide +kernel
theorem dL_law_430 : decode cL_law 430 = .ok (.iadd, 1) := by decide +kernel
theorem dL_law_431 : decode cL_law 431 = .ok (.iaload, 1) := by decide +kernel
theorem dL_law_432 : decode cL_law 432 = .ok (.aload_n 0, 1) := by decide +kernel
theorem dL_law_433 : decode cL_law 433 = .ok (.iload 4, 2) := by decide +kernel
theorem dL_law_435 : decode cL_law 435 = .ok (.iconst 2, 1) := by decide +kernel
theorem dL_law_436 : decode cL_law 436 = .ok (.iadd, 1) := by decide +kernel
theorem dL_law_437 : decode cL_law 437 = .ok (.iaload, 1) := by decide +kernel
theorem dL_law_438 : decode cL_law 438 = .ok (.invokevirtual 139, 3) := by decide +kernel
theorem dL_law_441 : decode cL_law 441 = .ok (.istore 6, 2) := by decide +kernel
theorem dL_law_443 : decode cL_law 443 = .ok (.aload_n 2, 1) := by decide +kernel
theorem dL_law_444 : decode cL_law 444 = .ok (.invokevirtual 125, 3) := by decide +kernel
theorem dL_law_447 : decode cL_law 447 = .ok (.iload 5, 2) := by decide +kernel
theorem dL_law_449 : decode cL_law 449 = .ok (.if_icmp .eq 5, 3) := by decide +kernel
theorem dL_law_452 : decode cL_law 452 = .ok (.iconst 0, 1) := by decide +kernel
theorem dL_law_453 : decode cL_law 453 = .ok (.ireturn, 1) := by decide +kernel
theorem dL_law_454 : decode cL_law 454 = .ok (.iload 5, 2) := by decide +kernel
theorem dL_law_456 : decode cL_law 456 = .ok (.ifCond .ne 15, 3) := by decide +kernel
theorem dL_law_459 : decode cL_law 459 = .ok (.aload_n 3, 1) := by decide +kernel
theorem dL_law_460 : decode cL_law 460 = .ok (.iconst 0, 1) := by decide +kernel
theorem dL_law_461 : decode cL_law 461 = .ok (.laload, 1) := by decide +kernel
theorem dL_law_462 : decode cL_law 462 = .ok (.iload 6, 2) := by decide +kernel
theorem dL_law_464 : decode cL_law 464 = .ok (.i2l, 1) := by decide +kernel
theorem dL_law_465 : decode cL_law 465 = .ok (.lcmp, 1) := by decide +kernel
theorem dL_law_466 : decode cL_law 466 = .ok (.ifCond .eq 5, 3) := by decide +kernel
theorem dL_law_469 : decode cL_law 469 = .ok (.iconst 0, 1) := by decide +kernel
theorem dL_law_470 : decode cL_law 470 = .ok (.ireturn, 1) := by decide +kernel
theorem dL_law_471 : decode cL_law 471 = .ok (.goto 1996, 3) := by decide +kernel
theorem dL_law_474 : decode cL_law 474 = .ok (.aload_n 1, 1) := by decide +kernel
theorem dL_law_475 : decode cL_law 475 = .ok (.aload_n 0, 1) := by decide +kernel
theorem dL_law_476 : decode cL_law 476 = .ok (.iload 4, 2) := by decide +kernel
theorem dL_law_478 : decode cL_law 478 = .ok (.iconst 1, 1) := by decide +kernel
theorem dL_law_479 : decode cL_law 479 = .ok (.iadd, 1) := by decide +kernel
theorem dL_law_480 : decode cL_law 480 = .ok (.iaload, 1) := by decide +kernel
theorem dL_law_481 : decode cL_law 481 = .ok (.aload_n 0, 1) := by decide +kernel
theorem dL_law_482 : decode cL_law 482 = .ok (.iload 4, 2) := by decide +kernel
theorem dL_law_484 : decode cL_law 484 = .ok (.iconst 2, 1) := by decide +kernel
theorem dL_law_485 : decode cL_law 485 = .ok (.iadd, 1) := by decide +kernel
theorem dL_law_486 : decode cL_law 486 = .ok (.iaload, 1) := by decide +kernel
theorem dL_law_487 : decode cL_law 487 = .ok (.aload_n 3, 1) := by decide +kernel
theorem dL_law_488 : decode cL_law 488 = .ok (.invokestatic 140, 3) := by decide +kernel
theorem dL_law_491 : decode cL_law 491 = .ok (.istore 5, 2) := by decide +kernel
theorem dL_law_493 : decode cL_law 493 = .ok (.aload_n 2, 1) := by decide +kernel
theorem dL_law_494 : decode cL_law 494 = .ok (.aload_n 0, 1) := by decide +kernel
theorem dL_law_495 : decode cL_law 495 = .ok (.iload 4, 2) := by decide +kernel
theorem dL_law_497 : decode cL_law 497 = .ok (.iconst 1, 1) := by decide +kernel
theorem dL_law_498 : decode cL_law 498 = .ok (.iadd, 1) := by decide +kernel
theorem dL_law_499 : decode cL_law 499 = .ok (.iaload, 1) := by decide +kernel
theorem dL_law_500 : decode cL_law 500 = .ok (.aload_n 0, 1) := by decide +kernel
theorem dL_law_501 : decode cL_law 501 = .ok (.iload 4, 2) := by decide +kernel
theorem dL_law_503 : decode cL_law 503 = .ok (.iconst 2, 1) := by decide +kernel
theorem dL_law_504 : decode cL_law 504 = .ok (.iadd, 1) := by decide +kernel
theorem dL_law_505 : decode cL_law 505 = .ok (.iaload, 1) := by decide +kernel
theorem dL_law_506 : decode cL_law 506 = .ok (.invokevirtual 142, 3) := by decide +kernel
theorem dL_law_509 : decode cL_law 509 = .ok (.istore 6, 2) := by decide +kernel
theorem dL_law_511 : decode cL_law 511 = .ok (.aload_n 2, 1) := by decide +kernel
theorem dL_law_512 : decode cL_law 512 = .ok (.invokevirtual 125, 3) := by decide +kernel
theorem dL_law_515 : decode cL_law 515 = .ok (.iload 5, 2) := by decide +kernel
theorem dL_law_517 : decode cL_law 517 = .ok (.if_icmp .eq 5, 3) := by decide +kernel
theorem dL_law_520 : decode cL_law 520 = .ok (.iconst 0, 1) := by decide +kernel
theorem dL_law_521 : decode cL_law 521 = .ok (.ireturn, 1) := by decide +kernel
theorem dL_law_522 : decode cL_law 522 = .ok (.iload 5, 2) := by decide +kernel
theorem dL_law_524 : decode cL_law 524 = .ok (.ifCond .ne 15, 3) := by decide +kernel
theorem dL_law_527 : decode cL_law 527 = .ok (.aload_n 3, 1) := by decide +kernel
theorem dL_law_528 : decode cL_law 528 = .ok (.iconst 0, 1) := by decide +kernel
theorem dL_law_529 : decode cL_law 529 = .ok (.laload, 1) := by decide +kernel
theorem dL_law_530 : decode cL_law 530 = .ok (.iload 6, 2) := by decide +kernel
theorem dL_law_532 : decode cL_law 532 = .ok (.i2l, 1) := by decide +kernel
theorem dL_law_533 : decode cL_law 533 = .ok (.lcmp, 1) := by decide +kernel
theorem dL_law_534 : decode cL_law 534 = .ok (.ifCond .eq 5, 3) := by decide +kernel
theorem dL_law_537 : decode cL_law 537 = .ok (.iconst 0, 1) := by decide +kernel
theorem dL_law_538 : decode cL_law 538 = .ok (.ireturn, 1) := by decide +kernel
theorem dL_law_539 : decode cL_law 539 = .ok (.goto 1928, 3) := by decide +kernel
theorem dL_law_542 : decode cL_law 542 = .ok (.aload_n 1, 1) := by decide +kernel
theorem dL_law_543 : decode cL_law 543 = .ok (.aload_n 0, 1) := by decide +kernel
theorem dL_law_544 : decode cL_law 544 = .ok (.iload 4, 2) := by decide +kernel
theorem dL_law_546 : decode cL_law 546 = .ok (.iconst 1, 1) := by decide +kernel
theorem dL_law_547 : decode cL_law 547 = .ok (.iadd, 1) := by decide +kernel
theorem dL_law_548 : decode cL_law 548 = .ok (.iaload, 1) := by decide +kernel
theorem dL_law_549 : decode cL_law 549 = .ok (.invokevirtual 143, 3) := by decide +kernel
theorem dL_law_552 : decode cL_law 552 = .ok (.aload_n 2, 1) := by decide +kernel
theorem dL_law_553 : decode cL_law 553 = .ok (.aload_n 0, 1) := by decide +kernel
theorem dL_law_554 : decode cL_law 554 = .ok (.iload 4, 2) := by decide +kernel
theorem dL_law_556 : decode cL_law 556 = .ok (.iconst 1, 1) := by decide +kernel
theorem dL_law_557 : decode cL_law 557 = .ok (.iadd, 1) := by decide +kernel
theorem dL_law_558 : decode cL_law 558 = .ok (.iaload, 1) := by decide +kernel
theorem dL_law_559 : decode cL_law 559 = .ok (.invokevirtual 146, 3) := by decide +kernel
theorem dL_law_562 : decode cL_law 562 = .ok (.if_icmp .eq 1905, 3) := by decide +kernel
theorem dL_law_565 : decode cL_law 565 = .ok (.iconst 0, 1) := by decide +kernel
theorem dL_law_566 : decode cL_law 566 = .ok (.ireturn, 1) := by decide +kernel
theorem dL_law_567 : decode cL_law 567 = .ok (.aload_n 1, 1) := by decide +kernel
theorem dL_law_568 : decode cL_law 568 = .ok (.aload_n 0, 1) := by decide +kernel
theorem dL_law_569 : decode cL_law 569 = .ok (.iload 4, 2) := by decide +kernel
theorem dL_law_571 : decode cL_law 571 = .ok (.iconst 1, 1) := by decide +kernel
theorem dL_law_572 : decode cL_law 572 = .ok (.iadd, 1) := by decide +kernel
theorem dL_law_573 : decode cL_law 573 = .ok (.iaload, 1) := by decide +kernel
theorem dL_law_574 : decode cL_law 574 = .ok (.aload_n 0, 1) := by decide +kernel
theorem dL_law_575 : decode cL_law 575 = .ok (.iload 4, 2) := by decide +kernel
theorem dL_law_577 : decode cL_law 577 = .ok (.iconst 2, 1) := by decide +kernel
theorem dL_law_578 : decode cL_law 578 = .ok (.iadd, 1) := by decide +kernel
theorem dL_law_579 : decode cL_law 579 = .ok (.iaload, 1) := by decide +kernel
theorem dL_law_580 : decode cL_law 580 = .ok (.aload_n 3, 1) := by decide +kernel
theorem dL_law_581 : decode cL_law 581 = .ok (.invokestatic 147, 3) := by decide +kernel
theorem dL_law_584 : decode cL_law 584 = .ok (.istore 5, 2) := by decide +kernel
theorem dL_law_586 : decode cL_law 586 = .ok (.aload_n 2, 1) := by decide +kernel
theorem dL_law_587 : decode cL_law 587 = .ok (.aload_n 0, 1) := by decide +kernel
theorem dL_law_588 : decode cL_law 588 = .ok (.iload 4, 2) := by decide +kernel
theorem dL_law_590 : decode cL_law 590 = .ok (.iconst 1, 1) := by decide +kernel
theorem dL_law_591 : decode cL_law 591 = .ok (.iadd, 1) := by decide +kernel
theorem dL_law_592 : decode cL_law 592 = .ok (.iaload, 1) := by decide +kernel
theorem dL_law_593 : decode cL_law 593 = .ok (.aload_n 0, 1) := by decide +kernel
theorem dL_law_594 : decode cL_law 594 = .ok (.iload 4, 2) := by decide +kernel
theorem dL_law_596 : decode cL_law 596 = .ok (.iconst 2, 1) := by decide +kernel
theorem dL_law_597 : decode cL_law 597 = .ok (.iadd, 1) := by decide +kernel
theorem dL_law_598 : decode cL_law 598 = .ok (.iaload, 1) := by decide +kernel
theorem dL_law_599 : decode cL_law 599 = .ok (.invokevirtual 149, 3) := by decide +kernel
theorem dL_law_602 : decode cL_law 602 = .ok (.istore 6, 2) := by decide +kernel
theorem dL_law_604 : decode cL_law 604 = .ok (.aload_n 2, 1) := by decide +kernel
theorem dL_law_605 : decode cL_law 605 = .ok (.invokevirtual 125, 3) := by decide +kernel
theorem dL_law_608 : decode cL_law 608 = .ok (.iload 5, 2) := by decide +kernel
theorem dL_law_610 : decode cL_law 610 = .ok (.if_icmp .eq 5, 3) := by decide +kernel
theorem dL_law_613 : decode cL_law 613 = .ok (.iconst 0, 1) := by decide +kernel
theorem dL_law_614 : decode cL_law 614 = .ok (.ireturn, 1) := by decide +kernel
theorem dL_law_615 : decode cL_law 615 = .ok (.iload 5, 2) := by decide +kernel
theorem dL_law_617 : decode cL_law 617 = .ok (.ifCond .ne 15, 3) := by decide +kernel
theorem dL_law_620 : decode cL_law 620 = .ok (.aload_n 3, 1) := by decide +kernel
theorem dL_law_621 : decode cL_law 621 = .ok (.iconst 0, 1) := by decide +kernel
theorem dL_law_622 : decode cL_law 622 = .ok (.laload, 1) := by decide +kernel
theorem dL_law_623 : decode cL_law 623 = .ok (.iload 6, 2) := by decide +kernel
theorem dL_law_625 : decode cL_law 625 = .ok (.i2l, 1) := by decide +kernel
theorem dL_law_626 : decode cL_law 626 = .ok (.lcmp, 1) := by decide +kernel
theorem dL_law_627 : decode cL_law 627 = .ok (.ifCond .eq 5, 3) := by decide +kernel
theorem dL_law_630 : decode cL_law 630 = .ok (.iconst 0, 1) := by decide +kernel
theorem dL_law_631 : decode cL_law 631 = .ok (.ireturn, 1) := by decide +kernel
theorem dL_law_632 : decode cL_law 632 = .ok (.goto 1835, 3) := by decide +kernel
theorem dL_law_635 : decode cL_law 635 = .ok (.aload_n 1, 1) := by decide +kernel
theorem dL_law_636 : decode cL_law 636 = .ok (.aload_n 0, 1) := by decide +kernel
theorem dL_law_637 : decode cL_law 637 = .ok (.iload 4, 2) := by decide +kernel
theorem dL_law_639 : decode cL_law 639 = .ok (.iconst 1, 1) := by decide +kernel
theorem dL_law_640 : decode cL_law 640 = .ok (.iadd, 1) := by decide +kernel
theorem dL_law_641 : decode cL_law 641 = .ok (.iaload, 1) := by decide +kernel
theorem dL_law_642 : decode cL_law 642 = .ok (.aload_n 3, 1) := by decide +kernel
theorem dL_law_643 : decode cL_law 643 = .ok (.invokestatic 150, 3) := by decide +kernel
theorem dL_law_646 : decode cL_law 646 = .ok (.istore 5, 2) := by decide +kernel
theorem dL_law_648 : decode cL_law 648 = .ok (.aload_n 2, 1) := by decide +kernel
theorem dL_law_649 : decode cL_law 649 = .ok (.aload_n 0, 1) := by decide +kernel
theorem dL_law_650 : decode cL_law 650 = .ok (.iload 4, 2) := by decide +kernel
theorem dL_law_652 : decode cL_law 652 = .ok (.iconst 1, 1) := by decide +kernel
theorem dL_law_653 : decode cL_law 653 = .ok (.iadd, 1) := by decide +kernel
theorem dL_law_654 : decode cL_law 654 = .ok (.iaload, 1) := by decide +kernel
theorem dL_law_655 : decode cL_law 655 = .ok (.invokevirtual 152, 3) := by decide +kernel
theorem dL_law_658 : decode cL_law 658 = .ok (.istore 6, 2) := by decide +kernel
theorem dL_law_660 : decode cL_law 660 = .ok (.aload_n 2, 1) := by decide +kernel
theorem dL_law_661 : decode cL_law 661 = .ok (.invokevirtual 125, 3) := by decide +kernel
theorem dL_law_664 : decode cL_law 664 = .ok (.iload 5, 2) := by decide +kernel
theorem dL_law_666 : decode cL_law 666 = .ok (.if_icmp .eq 5, 3) := by decide +kernel
theorem dL_law_669 : decode cL_law 669 = .ok (.iconst 0, 1) := by decide +kernel
theorem dL_law_670 : decode cL_law 670 = .ok (.ireturn, 1) := by decide +kernel
theorem dL_law_671 : decode cL_law 671 = .ok (.iload 5, 2) := by decide +kernel
theorem dL_law_673 : decode cL_law 673 = .ok (.ifCond .ne 15, 3) := by decide +kernel
theorem dL_law_676 : decode cL_law 676 = .ok (.aload_n 3, 1) := by decide +kernel
theorem dL_law_677 : decode cL_law 677 = .ok (.iconst 0, 1) := by decide +kernel
theorem dL_law_678 : decode cL_law 678 = .ok (.laload, 1) := by decide +kernel
theorem dL_law_679 : decode cL_law 679 = .ok (.iload 6, 2) := by decide +kernel
theorem dL_law_681 : decode cL_law 681 = .ok (.i2l, 1) := by decide +kernel
theorem dL_law_682 : decode cL_law 682 = .ok (.lcmp, 1) := by decide +kernel
theorem dL_law_683 : decode cL_law 683 = .ok (.ifCond .eq 5, 3) := by decide +kernel
theorem dL_law_686 : decode cL_law 686 = .ok (.iconst 0, 1) := by decide +kernel
theorem dL_law_687 : decode cL_law 687 = .ok (.ireturn, 1) := by decide +kernel
theorem dL_law_688 : decode cL_law 688 = .ok (.goto 1779, 3) := by decide +kernel
theorem dL_law_691 : decode cL_law 691 = .ok (.aload_n 1, 1) := by decide +kernel
theorem dL_law_692 : decode cL_law 692 = .ok (.aload_n 0, 1) := by decide +kernel
theorem dL_law_693 : decode cL_law 693 = .ok (.iload 4, 2) := by decide +kernel
theorem dL_law_695 : decode cL_law 695 = .ok (.iconst 1, 1) := by decide +kernel
theorem dL_law_696 : decode cL_law 696 = .ok (.iadd, 1) := by decide +kernel
theorem dL_law_697 : decode cL_law 697 = .ok (.iaload, 1) := by decide +kernel
theorem dL_law_698 : decode cL_law 698 = .ok (.aload_n 0, 1) := by decide +kernel
theorem dL_law_699 : decode cL_law 699 = .ok (.iload 4, 2) := by decide +kernel
theorem dL_law_701 : decode cL_law 701 = .ok (.iconst 2, 1) := by decide +kernel
theorem dL_law_702 : decode cL_law 702 = .ok (.iadd, 1) := by decide +kernel
theorem dL_law_703 : decode cL_law 703 = .ok (.iaload, 1) := by decide +kernel
theorem dL_law_704 : decode cL_law 704 = .ok (.aload_n 0, 1) := by decide +kernel
theorem dL_law_705 : decode cL_law 705 = .ok (.iload 4, 2) := by decide +kernel
theorem dL_law_707 : decode cL_law 707 = .ok (.iconst 3, 1) := by decide +kernel
theorem dL_law_708 : decode cL_law 708 = .ok (.iadd, 1) := by decide +kernel
theorem dL_law_709 : decode cL_law 709 = .ok (.iaload, 1) := by decide +kernel
theorem dL_law_710 : decode cL_law 710 = .ok (.aload_n 3, 1) := by decide +kernel
theorem dL_law_711 : decode cL_law 711 = .ok (.invokestatic 153, 3) := by decide +kernel
theorem dL_law_714 : decode cL_law 714 = .ok (.istore 5, 2) := by decide +kernel
theorem dL_law_716 : decode cL_law 716 = .ok (.aload_n 2, 1) := by decide +kernel
theorem dL_law_717 : decode cL_law 717 = .ok (.aload_n 0, 1) := by decide +kernel
theorem dL_law_718 : decode cL_law 718 = .ok (.iload 4, 2) := by decide +kernel
theorem dL_law_720 : decode cL_law 720 = .ok (.iconst 1, 1) := by decide +kernel
theorem dL_law_721 : decode cL_law 721 = .ok (.iadd, 1) := by decide +kernel
theorem dL_law_722 : decode cL_law 722 = .ok (.iaload, 1) := by decide +kernel
theorem dL_law_723 : decode cL_law 723 = .ok (.aload_n 0, 1) := by decide +kernel
theorem dL_law_724 : decode cL_law 724 = .ok (.iload 4, 2) := by decide +kernel
theorem dL_law_726 : decode cL_law 726 = .ok (.iconst 2, 1) := by decide +kernel
theorem dL_law_727 : decode cL_law 727 = .ok (.iadd, 1) := by decide +kernel
theorem dL_law_728 : decode cL_law 728 = .ok (.iaload, 1) := by decide +kernel
theorem dL_law_729 : decode cL_law 729 = .ok (.aload_n 0, 1) := by decide +kernel
theorem dL_law_730 : decode cL_law 730 = .ok (.iload 4, 2) := by decide +kernel
theorem dL_law_732 : decode cL_law 732 = .ok (.iconst 3, 1) := by decide +kernel
theorem dL_law_733 : decode cL_law 733 = .ok (.iadd, 1) := by decide +kernel
theorem dL_law_734 : decode cL_law 734 = .ok (.iaload, 1) := by decide +kernel
theorem dL_law_735 : decode cL_law 735 = .ok (.invokevirtual 156, 3) := by decide +kernel
theorem dL_law_738 : decode cL_law 738 = .ok (.istore 6, 2) := by decide +kernel
theorem dL_law_740 : decode cL_law 740 = .ok (.aload_n 2, 1) := by decide +kernel
theorem dL_law_741 : decode cL_law 741 = .ok (.invokevirtual 125, 3) := by decide +kernel
theorem dL_law_744 : decode cL_law 744 = .ok (.iload 5, 2) := by decide +kernel
theorem dL_law_746 : decode cL_law 746 = .ok (.if_icmp .eq 5, 3) := by decide +kernel
theorem dL_law_749 : decode cL_law 749 = .ok (.iconst 0, 1) := by decide +kernel
theorem dL_law_750 : decode cL_law 750 = .ok (.ireturn, 1) := by decide +kernel
theorem dL_law_751 : decode cL_law 751 = .ok (.iload 5, 2) := by decide +kernel
theorem dL_law_753 : decode cL_law 753 = .ok (.ifCond .ne 15, 3) := by decide +kernel
theorem dL_law_756 : decode cL_law 756 = .ok (.aload_n 3, 1) := by decide +kernel
theorem dL_law_757 : decode cL_law 757 = .ok (.iconst 0, 1) := by decide +kernel
theorem dL_law_758 : decode cL_law 758 = .ok (.laload, 1) := by decide +kernel
theorem dL_law_759 : decode cL_law 759 = .ok (.iload 6, 2) := by decide +kernel
theorem dL_law_761 : decode cL_law 761 = .ok (.i2l, 1) := by decide +kernel
theorem dL_law_762 : decode cL_law 762 = .ok (.lcmp, 1) := by decide +kernel
theorem dL_law_763 : decode cL_law 763 = .ok (.ifCond .eq 5, 3) := by decide +kernel
theorem dL_law_766 : decode cL_law 766 = .ok (.iconst 0, 1) := by decide +kernel
theorem dL_law_767 : decode cL_law 767 = .ok (.ireturn, 1) := by decide +kernel
theorem dL_law_768 : decode cL_law 768 = .ok (.goto 1699, 3) := by decide +kernel
theorem dL_law_771 : decode cL_law 771 = .ok (.aload_n 1, 1) := by decide +kernel
theorem dL_law_772 : decode cL_law 772 = .ok (.aload_n 0, 1) := by decide +kernel
theorem dL_law_773 : decode cL_law 773 = .ok (.iload 4, 2) := by decide +kernel
theorem dL_law_775 : decode cL_law 775 = .ok (.iconst 1, 1) := by decide +kernel
theorem dL_law_776 : decode cL_law 776 = .ok (.iadd, 1) := by decide +kernel
theorem dL_law_777 : decode cL_law 777 = .ok (.iaload, 1) := by decide +kernel
theorem dL_law_778 : decode cL_law 778 = .ok (.aload_n 0, 1) := by decide +kernel
theorem dL_law_779 : decode cL_law 779 = .ok (.iload 4, 2) := by decide +kernel
theorem dL_law_781 : decode cL_law 781 = .ok (.iconst 2, 1) := by decide +kernel
theorem dL_law_782 : decode cL_law 782 = .ok (.iadd, 1) := by decide +kernel
theorem dL_law_783 : decode cL_law 783 = .ok (.iaload, 1) := by decide +kernel
theorem dL_law_784 : decode cL_law 784 = .ok (.aload_n 3, 1) := by decide +kernel
theorem dL_law_785 : decode cL_law 785 = .ok (.invokestatic 157, 3) := by decide +kernel
theorem dL_law_788 : decode cL_law 788 = .ok (.istore 5, 2) := by decide +kernel
theorem dL_law_790 : decode cL_law 790 = .ok (.aload_n 2, 1) := by decide +kernel
theorem dL_law_791 : decode cL_law 791 = .ok (.aload_n 0, 1) := by decide +kernel
theorem dL_law_792 : decode cL_law 792 = .ok (.iload 4, 2) := by decide +kernel
theorem dL_law_794 : decode cL_law 794 = .ok (.iconst 1, 1) := by decide +kernel
theorem dL_law_795 : decode cL_law 795 = .ok (.iadd, 1) := by decide +kernel
theorem dL_law_796 : decode cL_law 796 = .ok (.iaload, 1) := by decide +kernel
theorem dL_law_797 : decode cL_law 797 = .ok (.aload_n 0, 1) := by decide +kernel
theorem dL_law_798 : decode cL_law 798 = .ok (.iload 4, 2) := by decide +kernel
theorem dL_law_800 : decode cL_law 800 = .ok (.iconst 2, 1) := by decide +kernel
theorem dL_law_801 : decode cL_law 801 = .ok (.iadd, 1) := by decide +kernel
theorem dL_law_802 : decode cL_law 802 = .ok (.iaload, 1) := by decide +kernel
theorem dL_law_803 : decode cL_law 803 = .ok (.invokevirtual 159, 3) := by decide +kernel
theorem dL_law_806 : decode cL_law 806 = .ok (.istore 6, 2) := by decide +kernel
theorem dL_law_808 : decode cL_law 808 = .ok (.aload_n 2, 1) := by decide +kernel
theorem dL_law_809 : decode cL_law 809 = .ok (.invokevirtual 125, 3) := by decide +kernel
theorem dL_law_812 : decode cL_law 812 = .ok (.iload 5, 2) := by decide +kernel
theorem dL_law_814 : decode cL_law 814 = .ok (.if_icmp .eq 5, 3) := by decide +kernel
theorem dL_law_817 : decode cL_law 817 = .ok (.iconst 0, 1) := by decide +kernel
theorem dL_law_818 : decode cL_law 818 = .ok (.ireturn, 1) := by decide +kernel
theorem dL_law_819 : decode cL_law 819 = .ok (.iload 5, 2) := by decide +kernel
theorem dL_law_821 : decode cL_law 821 = .ok (.ifCond .ne 15, 3) := by decide +kernel
theorem dL_law_824 : decode cL_law 824 = .ok (.aload_n 3, 1) := by decide +kernel
theorem dL_law_825 : decode cL_law 825 = .ok (.iconst 0, 1) := by decide +kernel
theorem dL_law_826 : decode cL_law 826 = .ok (.laload, 1) := by decide +kernel
theorem dL_law_827 : decode cL_law 827 = .ok (.iload 6, 2) := by decide +kernel
theorem dL_law_829 : decode cL_law 829 = .ok (.i2l, 1) := by decide +kernel
theorem dL_law_830 : decode cL_law 830 = .ok (.lcmp, 1) := by decide +kernel
theorem dL_law_831 : decode cL_law 831 = .ok (.ifCond .eq 5, 3) := by decide +kernel
theorem dL_law_834 : decode cL_law 834 = .ok (.iconst 0, 1) := by decide +kernel
theorem dL_law_835 : decode cL_law 835 = .ok (.ireturn, 1) := by decide +kernel
theorem dL_law_836 : decode cL_law 836 = .ok (.goto 1631, 3) := by decide +kernel
theorem dL_law_839 : decode cL_law 839 = .ok (.aload_n 1, 1) := by decide +kernel
theorem dL_law_840 : decode cL_law 840 = .ok (.invokevirtual 160, 3) := by decide +kernel
theorem dL_law_843 : decode cL_law 843 = .ok (.aload_n 2, 1) := by decide +kernel
theorem dL_law_844 : decode cL_law 844 = .ok (.invokevirtual 163, 3) := by decide +kernel
theorem dL_law_847 : decode cL_law 847 = .ok (.if_icmp .eq 1620, 3) := by decide +kernel
theorem dL_law_850 : decode cL_law 850 = .ok (.iconst 0, 1) := by decide +kernel
theorem dL_law_851 : decode cL_law 851 = .ok (.ireturn, 1) := by decide +kernel
theorem dL_law_852 : decode cL_law 852 = .ok (.aload_n 1, 1) := by decide +kernel
theorem dL_law_853 : decode cL_law 853 = .ok (.aload_n 0, 1) := by decide +kernel
theorem dL_law_854 : decode cL_law 854 = .ok (.iload 4, 2) := by decide +kernel
theorem dL_law_856 : decode cL_law 856 = .ok (.iconst 1, 1) := by decide +kernel
theorem dL_law_857 : decode cL_law 857 = .ok (.iadd, 1) := by decide +kernel
theorem dL_law_858 : decode cL_law 858 = .ok (.iaload, 1) := by decide +kernel
theorem dL_law_859 : decode cL_law 859 = .ok (.aload_n 0, 1) := by decide +kernel
theorem dL_law_860 : decode cL_law 860 = .ok (.iload 4, 2) := by decide +kernel
theorem dL_law_862 : decode cL_law 862 = .ok (.iconst 2, 1) := by decide +kernel
theorem dL_law_863 : decode cL_law 863 = .ok (.iadd, 1) := by decide +kernel
theorem dL_law_864 : decode cL_law 864 = .ok (.iaload, 1) := by decide +kernel
theorem dL_law_865 : decode cL_law 865 = .ok (.aload_n 0, 1) := by decide +kernel
theorem dL_law_866 : decode cL_law 866 = .ok (.iload 4, 2) := by decide +kernel
theorem dL_law_868 : decode cL_law 868 = .ok (.iconst 3, 1) := by decide +kernel
theorem dL_law_869 : decode cL_law 869 = .ok (.iadd, 1) := by decide +kernel
theorem dL_law_870 : decode cL_law 870 = .ok (.iaload, 1) := by decide +kernel
theorem dL_law_871 : decode cL_law 871 = .ok (.aload_n 3, 1) := by decide +kernel
theorem dL_law_872 : decode cL_law 872 = .ok (.invokestatic 164, 3) := by decide +kernel
theorem dL_law_875 : decode cL_law 875 = .ok (.istore 5, 2) := by decide +kernel
theorem dL_law_877 : decode cL_law 877 = .ok (.aload_n 2, 1) := by decide +kernel
theorem dL_law_878 : decode cL_law 878 = .ok (.aload_n 0, 1) := by decide +kernel
theorem dL_law_879 : decode cL_law 879 = .ok (.iload 4, 2) := by decide +kernel
theorem dL_law_881 : decode cL_law 881 = .ok (.iconst 1, 1) := by decide +kernel
theorem dL_law_882 : decode cL_law 882 = .ok (.iadd, 1) := by decide +kernel
theorem dL_law_883 : decode cL_law 883 = .ok (.iaload, 1) := by decide +kernel
theorem dL_law_884 : decode cL_law 884 = .ok (.aload_n 0, 1) := by decide +kernel
theorem dL_law_885 : decode cL_law 885 = .ok (.iload 4, 2) := by decide +kernel
theorem dL_law_887 : decode cL_law 887 = .ok (.iconst 2, 1) := by decide +kernel
theorem dL_law_888 : decode cL_law 888 = .ok (.iadd, 1) := by decide +kernel
theorem dL_law_889 : decode cL_law 889 = .ok (.iaload, 1) := by decide +kernel
theorem dL_law_890 : decode cL_law 890 = .ok (.aload_n 0, 1) := by decide +kernel
theorem dL_law_891 : decode cL_law 891 = .ok (.iload 4, 2) := by decide +kernel
theorem dL_law_893 : decode cL_law 893 = .ok (.iconst 3, 1) := by decide +kernel
theorem dL_law_894 : decode cL_law 894 = .ok (.iadd, 1) := by decide +kernel
theorem dL_law_895 : decode cL_law 895 = .ok (.iaload, 1) := by decide +kernel
theorem dL_law_896 : decode cL_law 896 = .ok (.invokevirtual 166, 3) := by decide +kernel
theorem dL_law_899 : decode cL_law 899 = .ok (.istore 6, 2) := by decide +kernel
theorem dL_law_901 : decode cL_law 901 = .ok (.aload_n 2, 1) := by decide +kernel
theorem dL_law_902 : decode cL_law 902 = .ok (.invokevirtual 125, 3) := by decide +kernel
theorem dL_law_905 : decode cL_law 905 = .ok (.iload 5, 2) := by decide +kernel
theorem dL_law_907 : decode cL_law 907 = .ok (.if_icmp .eq 5, 3) := by decide +kernel
theorem dL_law_910 : decode cL_law 910 = .ok (.iconst 0, 1) := by decide +kernel
theorem dL_law_911 : decode cL_law 911 = .ok (.ireturn, 1) := by decide +kernel
theorem dL_law_912 : decode cL_law 912 = .ok (.iload 5, 2) := by decide +kernel
theorem dL_law_914 : decode cL_law 914 = .ok (.ifCond .ne 15, 3) := by decide +kernel
theorem dL_law_917 : decode cL_law 917 = .ok (.aload_n 3, 1) := by decide +kernel
theorem dL_law_918 : decode cL_law 918 = .ok (.iconst 0, 1) := by decide +kernel
theorem dL_law_919 : decode cL_law 919 = .ok (.laload, 1) := by decide +kernel
theorem dL_law_920 : decode cL_law 920 = .ok (.iload 6, 2) := by decide +kernel
theorem dL_law_922 : decode cL_law 922 = .ok (.i2l, 1) := by decide +kernel
theorem dL_law_923 : decode cL_law 923 = .ok (.lcmp, 1) := by decide +kernel
theorem dL_law_924 : decode cL_law 924 = .ok (.ifCond .eq 5, 3) := by decide +kernel
theorem dL_law_927 : decode cL_law 927 = .ok (.iconst 0, 1) := by decide +kernel
theorem dL_law_928 : decode cL_law 928 = .ok (.ireturn, 1) := by decide +kernel
theorem dL_law_929 : decode cL_law 929 = .ok (.goto 1538, 3) := by decide +kernel
theorem dL_law_932 : decode cL_law 932 = .ok (.aload_n 1, 1) := by decide +kernel
theorem dL_law_933 : decode cL_law 933 = .ok (.aload_n 0, 1) := by decide +kernel
theorem dL_law_934 : decode cL_law 934 = .ok (.iload 4, 2) := by decide +kernel
theorem dL_law_936 : decode cL_law 936 = .ok (.iconst 1, 1) := by decide +kernel
theorem dL_law_937 : decode cL_law 937 = .ok (.iadd, 1) := by decide +kernel
theorem dL_law_938 : decode cL_law 938 = .ok (.iaload, 1) := by decide +kernel
theorem dL_law_939 : decode cL_law 939 = .ok (.aload_n 0, 1) := by decide +kernel
theorem dL_law_940 : decode cL_law 940 = .ok (.iload 4, 2) := by decide +kernel
theorem dL_law_942 : decode cL_law 942 = .ok (.iconst 2, 1) := by decide +kernel
theorem dL_law_943 : decode cL_law 943 = .ok (.iadd, 1) := by decide +kernel
theorem dL_law_944 : decode cL_law 944 = .ok (.iaload, 1) := by decide +kernel
theorem dL_law_945 : decode cL_law 945 = .ok (.aload_n 0, 1) := by decide +kernel
theorem dL_law_946 : decode cL_law 946 = .ok (.iload 4, 2) := by decide +kernel
theorem dL_law_948 : decode cL_law 948 = .ok (.iconst 3, 1) := by decide +kernel
theorem dL_law_949 : decode cL_law 949 = .ok (.iadd, 1) := by decide +kernel
theorem dL_law_950 : decode cL_law 950 = .ok (.iaload, 1) := by decide +kernel
theorem dL_law_951 : decode cL_law 951 = .ok (.aload_n 3, 1) := by decide +kernel
theorem dL_law_952 : decode cL_law 952 = .ok (.invokestatic 167, 3) := by decide +kernel
theorem dL_law_955 : decode cL_law 955 = .ok (.istore 5, 2) := by decide +kernel
theorem dL_law_957 : decode cL_law 957 = .ok (.aload_n 2, 1) := by decide +kernel
theorem dL_law_958 : decode cL_law 958 = .ok (.aload_n 0, 1) := by decide +kernel
theorem dL_law_959 : decode cL_law 959 = .ok (.iload 4, 2) := by decide +kernel
theorem dL_law_961 : decode cL_law 961 = .ok (.iconst 1, 1) := by decide +kernel
theorem dL_law_962 : decode cL_law 962 = .ok (.iadd, 1) := by decide +kernel
theorem dL_law_963 : decode cL_law 963 = .ok (.iaload, 1) := by decide +kernel
theorem dL_law_964 : decode cL_law 964 = .ok (.aload_n 0, 1) := by decide +kernel
theorem dL_law_965 : decode cL_law 965 = .ok (.iload 4, 2) := by decide +kernel
theorem dL_law_967 : decode cL_law 967 = .ok (.iconst 2, 1) := by decide +kernel
theorem dL_law_968 : decode cL_law 968 = .ok (.iadd, 1) := by decide +kernel
theorem dL_law_969 : decode cL_law 969 = .ok (.iaload, 1) := by decide +kernel
theorem dL_law_970 : decode cL_law 970 = .ok (.aload_n 0, 1) := by decide +kernel
theorem dL_law_971 : decode cL_law 971 = .ok (.iload 4, 2) := by decide +kernel
theorem dL_law_973 : decode cL_law 973 = .ok (.iconst 3, 1) := by decide +kernel
theorem dL_law_974 : decode cL_law 974 = .ok (.iadd, 1) := by decide +kernel
theorem dL_law_975 : decode cL_law 975 = .ok (.iaload, 1) := by decide +kernel
theorem dL_law_976 : decode cL_law 976 = .ok (.invokevirtual 169, 3) := by decide +kernel
theorem dL_law_979 : decode cL_law 979 = .ok (.istore 6, 2) := by decide +kernel
theorem dL_law_981 : decode cL_law 981 = .ok (.aload_n 2, 1) := by decide +kernel
theorem dL_law_982 : decode cL_law 982 = .ok (.invokevirtual 125, 3) := by decide +kernel
theorem dL_law_985 : decode cL_law 985 = .ok (.iload 5, 2) := by decide +kernel
theorem dL_law_987 : decode cL_law 987 = .ok (.if_icmp .eq 5, 3) := by decide +kernel
theorem dL_law_990 : decode cL_law 990 = .ok (.iconst 0, 1) := by decide +kernel
theorem dL_law_991 : decode cL_law 991 = .ok (.ireturn, 1) := by decide +kernel
theorem dL_law_992 : decode cL_law 992 = .ok (.iload 5, 2) := by decide +kernel
theorem dL_law_994 : decode cL_law 994 = .ok (.ifCond .ne 15, 3) := by decide +kernel
theorem dL_law_997 : decode cL_law 997 = .ok (.aload_n 3, 1) := by decide +kernel
theorem dL_law_998 : decode cL_law 998 = .ok (.iconst 0, 1) := by decide +kernel
theorem dL_law_999 : decode cL_law 999 = .ok (.laload, 1) := by decide +kernel
theorem dL_law_1000 : decode cL_law 1000 = .ok (.iload 6, 2) := by decide +kernel
theorem dL_law_1002 : decode cL_law 1002 = .ok (.i2l, 1) := by decide +kernel
theorem dL_law_1003 : decode cL_law 1003 = .ok (.lcmp, 1) := by decide +kernel
theorem dL_law_1004 : decode cL_law 1004 = .ok (.ifCond .eq 5, 3) := by decide +kernel
theorem dL_law_1007 : decode cL_law 1007 = .ok (.iconst 0, 1) := by decide +kernel
theorem dL_law_1008 : decode cL_law 1008 = .ok (.ireturn, 1) := by decide +kernel
theorem dL_law_1009 : decode cL_law 1009 = .ok (.goto 1458, 3) := by decide +kernel
theorem dL_law_1012 : decode cL_law 1012 = .ok (.aload_n 1, 1) := by decide +kernel
theorem dL_law_1013 : decode cL_law 1013 = .ok (.aload_n 0, 1) := by decide +kernel
theorem dL_law_1014 : decode cL_law 1014 = .ok (.iload 4, 2) := by decide +kernel
theorem dL_law_1016 : decode cL_law 1016 = .ok (.iconst 1, 1) := by decide +kernel
theorem dL_law_1017 : decode cL_law 1017 = .ok (.iadd, 1) := by decide +kernel
theorem dL_law_1018 : decode cL_law 1018 = .ok (.iaload, 1) := by decide +kernel
theorem dL_law_1019 : decode cL_law 1019 = .ok (.aload_n 0, 1) := by decide +kernel
theorem dL_law_1020 : decode cL_law 1020 = .ok (.iload 4, 2) := by decide +kernel
theorem dL_law_1022 : decode cL_law 1022 = .ok (.iconst 2, 1) := by decide +kernel
theorem dL_law_1023 : decode cL_law 1023 = .ok (.iadd, 1) := by decide +kernel
theorem dL_law_1024 : decode cL_law 1024 = .ok (.iaload, 1) := by decide +kernel
theorem dL_law_1025 : decode cL_law 1025 = .ok (.aload_n 3, 1) := by decide +kernel
theorem dL_law_1026 : decode cL_law 1026 = .ok (.invokestatic 170, 3) := by decide +kernel
theorem dL_law_1029 : decode cL_law 1029 = .ok (.istore 5, 2) := by decide +kernel
theorem dL_law_1031 : decode cL_law 1031 = .ok (.aload_n 2, 1) := by decide +kernel
theorem dL_law_1032 : decode cL_law 1032 = .ok (.aload_n 0, 1) := by decide +kernel
theorem dL_law_1033 : decode cL_law 1033 = .ok (.iload 4, 2) := by decide +kernel
theorem dL_law_1035 : decode cL_law 1035 = .ok (.iconst 1, 1) := by decide +kernel
theorem dL_law_1036 : decode cL_law 1036 = .ok (.iadd, 1) := by decide +kernel
theorem dL_law_1037 : decode cL_law 1037 = .ok (.iaload, 1) := by decide +kernel
theorem dL_law_1038 : decode cL_law 1038 = .ok (.aload_n 0, 1) := by decide +kernel
theorem dL_law_1039 : decode cL_law 1039 = .ok (.iload 4, 2) := by decide +kernel
theorem dL_law_1041 : decode cL_law 1041 = .ok (.iconst 2, 1) := by decide +kernel
theorem dL_law_1042 : decode cL_law 1042 = .ok (.iadd, 1) := by decide +kernel
theorem dL_law_1043 : decode cL_law 1043 = .ok (.iaload, 1) := by decide +kernel
theorem dL_law_1044 : decode cL_law 1044 = .ok (.invokevirtual 172, 3) := by decide +kernel
theorem dL_law_1047 : decode cL_law 1047 = .ok (.istore 6, 2) := by decide +kernel
theorem dL_law_1049 : decode cL_law 1049 = .ok (.aload_n 2, 1) := by decide +kernel
theorem dL_law_1050 : decode cL_law 1050 = .ok (.invokevirtual 125, 3) := by decide +kernel
theorem dL_law_1053 : decode cL_law 1053 = .ok (.iload 5, 2) := by decide +kernel
theorem dL_law_1055 : decode cL_law 1055 = .ok (.if_icmp .eq 5, 3) := by decide +kernel
theorem dL_law_1058 : decode cL_law 1058 = .ok (.iconst 0, 1) := by decide +kernel
theorem dL_law_1059 : decode cL_law 1059 = .ok (.ireturn, 1) := by decide +kernel
theorem dL_law_1060 : decode cL_law 1060 = .ok (.iload 5, 2) := by decide +kernel
theorem dL_law_1062 : decode cL_law 1062 = .ok (.ifCond .ne 15, 3) := by decide +kernel
theorem dL_law_1065 : decode cL_law 1065 = .ok (.aload_n 3, 1) := by decide +kernel
theorem dL_law_1066 : decode cL_law 1066 = .ok (.iconst 0, 1) := by decide +kernel
theorem dL_law_1067 : decode cL_law 1067 = .ok (.laload, 1) := by decide +kernel
theorem dL_law_1068 : decode cL_law 1068 = .ok (.iload 6, 2) := by decide +kernel
theorem dL_law_1070 : decode cL_law 1070 = .ok (.i2l, 1) := by decide +kernel
theorem dL_law_1071 : decode cL_law 1071 = .ok (.lcmp, 1) := by decide +kernel
theorem dL_law_1072 : decode cL_law 1072 = .ok (.ifCond .eq 5, 3) := by decide +kernel
theorem dL_law_1075 : decode cL_law 1075 = .ok (.iconst 0, 1) := by decide +kernel
theorem dL_law_1076 : decode cL_law 1076 = .ok (.ireturn, 1) := by decide +kernel
theorem dL_law_1077 : decode cL_law 1077 = .ok (.goto 1390, 3) := by decide +kernel
theorem dL_law_1080 : decode cL_law 1080 = .ok (.aload_n 1, 1) := by decide +kernel
theorem dL_law_1081 : decode cL_law 1081 = .ok (.aload_n 0, 1) := by decide +kernel
theorem dL_law_1082 : decode cL_law 1082 = .ok (.iload 4, 2) := by decide +kernel
theorem dL_law_1084 : decode cL_law 1084 = .ok (.iconst 1, 1) := by decide +kernel
theorem dL_law_1085 : decode cL_law 1085 = .ok (.iadd, 1) := by decide +kernel
theorem dL_law_1086 : decode cL_law 1086 = .ok (.iaload, 1) := by decide +kernel
theorem dL_law_1087 : decode cL_law 1087 = .ok (.aload_n 0, 1) := by decide +kernel
theorem dL_law_1088 : decode cL_law 1088 = .ok (.iload 4, 2) := by decide +kernel
theorem dL_law_1090 : decode cL_law 1090 = .ok (.iconst 2, 1) := by decide +kernel
theorem dL_law_1091 : decode cL_law 1091 = .ok (.iadd, 1) := by decide +kernel
theorem dL_law_1092 : decode cL_law 1092 = .ok (.iaload, 1) := by decide +kernel
theorem dL_law_1093 : decode cL_law 1093 = .ok (.aload_n 3, 1) := by decide +kernel
theorem dL_law_1094 : decode cL_law 1094 = .ok (.invokestatic 173, 3) := by decide +kernel
theorem dL_law_1097 : decode cL_law 1097 = .ok (.istore 5, 2) := by decide +kernel
theorem dL_law_1099 : decode cL_law 1099 = .ok (.aload_n 2, 1) := by decide +kernel
theorem dL_law_1100 : decode cL_law 1100 = .ok (.aload_n 0, 1) := by decide +kernel
theorem dL_law_1101 : decode cL_law 1101 = .ok (.iload 4, 2) := by decide +kernel
theorem dL_law_1103 : decode cL_law 1103 = .ok (.iconst 1, 1) := by decide +kernel
theorem dL_law_1104 : decode cL_law 1104 = .ok (.iadd, 1) := by decide +kernel
theorem dL_law_1105 : decode cL_law 1105 = .ok (.iaload, 1) := by decide +kernel
theorem dL_law_1106 : decode cL_law 1106 = .ok (.aload_n 0, 1) := by decide +kernel
theorem dL_law_1107 : decode cL_law 1107 = .ok (.iload 4, 2) := by decide +kernel
theorem dL_law_1109 : decode cL_law 1109 = .ok (.iconst 2, 1) := by decide +kernel
theorem dL_law_1110 : decode cL_law 1110 = .ok (.iadd, 1) := by decide +kernel
theorem dL_law_1111 : decode cL_law 1111 = .ok (.iaload, 1) := by decide +kernel
theorem dL_law_1112 : decode cL_law 1112 = .ok (.invokevirtual 175, 3) := by decide +kernel
theorem dL_law_1115 : decode cL_law 1115 = .ok (.istore 6, 2) := by decide +kernel
theorem dL_law_1117 : decode cL_law 1117 = .ok (.aload_n 2, 1) := by decide +kernel
theorem dL_law_1118 : decode cL_law 1118 = .ok (.invokevirtual 125, 3) := by decide +kernel
theorem dL_law_1121 : decode cL_law 1121 = .ok (.iload 5, 2) := by decide +kernel
theorem dL_law_1123 : decode cL_law 1123 = .ok (.if_icmp .eq 5, 3) := by decide +kernel
theorem dL_law_1126 : decode cL_law 1126 = .ok (.iconst 0, 1) := by decide +kernel
theorem dL_law_1127 : decode cL_law 1127 = .ok (.ireturn, 1) := by decide +kernel
theorem dL_law_1128 : decode cL_law 1128 = .ok (.iload 5, 2) := by decide +kernel
theorem dL_law_1130 : decode cL_law 1130 = .ok (.ifCond .ne 15, 3) := by decide +kernel
theorem dL_law_1133 : decode cL_law 1133 = .ok (.aload_n 3, 1) := by decide +kernel
theorem dL_law_1134 : decode cL_law 1134 = .ok (.iconst 0, 1) := by decide +kernel
theorem dL_law_1135 : decode cL_law 1135 = .ok (.laload, 1) := by decide +kernel
theorem dL_law_1136 : decode cL_law 1136 = .ok (.iload 6, 2) := by decide +kernel
theorem dL_law_1138 : decode cL_law 1138 = .ok (.i2l, 1) := by decide +kernel
theorem dL_law_1139 : decode cL_law 1139 = .ok (.lcmp, 1) := by decide +kernel
theorem dL_law_1140 : decode cL_law 1140 = .ok (.ifCond .eq 5, 3) := by decide +kernel
theorem dL_law_1143 : decode cL_law 1143 = .ok (.iconst 0, 1) := by decide +kernel
theorem dL_law_1144 : decode cL_law 1144 = .ok (.ireturn, 1) := by decide +kernel
theorem dL_law_1145 : decode cL_law 1145 = .ok (.goto 1322, 3) := by decide +kernel
theorem dL_law_1148 : decode cL_law 1148 = .ok (.aload_n 1, 1) := by decide +kernel
theorem dL_law_1149 : decode cL_law 1149 = .ok (.aload_n 0, 1) := by decide +kernel
theorem dL_law_1150 : decode cL_law 1150 = .ok (.iload 4, 2) := by decide +kernel
theorem dL_law_1152 : decode cL_law 1152 = .ok (.iconst 1, 1) := by decide +kernel
theorem dL_law_1153 : decode cL_law 1153 = .ok (.iadd, 1) := by decide +kernel
theorem dL_law_1154 : decode cL_law 1154 = .ok (.iaload, 1) := by decide +kernel
theorem dL_law_1155 : decode cL_law 1155 = .ok (.aload_n 0, 1) := by decide +kernel
theorem dL_law_1156 : decode cL_law 1156 = .ok (.iload 4, 2) := by decide +kernel
theorem dL_law_1158 : decode cL_law 1158 = .ok (.iconst 2, 1) := by decide +kernel
theorem dL_law_1159 : decode cL_law 1159 = .ok (.iadd, 1) := by decide +kernel
theorem dL_law_1160 : decode cL_law 1160 = .ok (.iaload, 1) := by decide +kernel
theorem dL_law_1161 : decode cL_law 1161 = .ok (.aload_n 0, 1) := by decide +kernel
theorem dL_law_1162 : decode cL_law 1162 = .ok (.iload 4, 2) := by decide +kernel
theorem dL_law_1164 : decode cL_law 1164 = .ok (.iconst 3, 1) := by decide +kernel
theorem dL_law_1165 : decode cL_law 1165 = .ok (.iadd, 1) := by decide +kernel
theorem dL_law_1166 : decode cL_law 1166 = .ok (.iaload, 1) := by decide +kernel
theorem dL_law_1167 : decode cL_law 1167 = .ok (.aload_n 3, 1) := by decide +kernel
theorem dL_law_1168 : decode cL_law 1168 = .ok (.invokestatic 176, 3) := by decide +kernel
theorem dL_law_1171 : decode cL_law 1171 = .ok (.istore 5, 2) := by decide +kernel
theorem dL_law_1173 : decode cL_law 1173 = .ok (.aload_n 2, 1) := by decide +kernel
theorem dL_law_1174 : decode cL_law 1174 = .ok (.aload_n 0, 1) := by decide +kernel
theorem dL_law_1175 : decode cL_law 1175 = .ok (.iload 4, 2) := by decide +kernel
theorem dL_law_1177 : decode cL_law 1177 = .ok (.iconst 1, 1) := by decide +kernel
theorem dL_law_1178 : decode cL_law 1178 = .ok (.iadd, 1) := by decide +kernel
theorem dL_law_1179 : decode cL_law 1179 = .ok (.iaload, 1) := by decide +kernel
theorem dL_law_1180 : decode cL_law 1180 = .ok (.aload_n 0, 1) := by decide +kernel
theorem dL_law_1181 : decode cL_law 1181 = .ok (.iload 4, 2) := by decide +kernel
theorem dL_law_1183 : decode cL_law 1183 = .ok (.iconst 2, 1) := by decide +kernel
theorem dL_law_1184 : decode cL_law 1184 = .ok (.iadd, 1) := by decide +kernel
theorem dL_law_1185 : decode cL_law 1185 = .ok (.iaload, 1) := by decide +kernel
theorem dL_law_1186 : decode cL_law 1186 = .ok (.aload_n 0, 1) := by decide +kernel
theorem dL_law_1187 : decode cL_law 1187 = .ok (.iload 4, 2) := by decide +kernel
theorem dL_law_1189 : decode cL_law 1189 = .ok (.iconst 3, 1) := by decide +kernel
theorem dL_law_1190 : decode cL_law 1190 = .ok (.iadd, 1) := by decide +kernel
theorem dL_law_1191 : decode cL_law 1191 = .ok (.iaload, 1) := by decide +kernel
theorem dL_law_1192 : decode cL_law 1192 = .ok (.invokevirtual 178, 3) := by decide +kernel
theorem dL_law_1195 : decode cL_law 1195 = .ok (.istore 6, 2) := by decide +kernel
theorem dL_law_1197 : decode cL_law 1197 = .ok (.aload_n 2, 1) := by decide +kernel
theorem dL_law_1198 : decode cL_law 1198 = .ok (.invokevirtual 125, 3) := by decide +kernel
theorem dL_law_1201 : decode cL_law 1201 = .ok (.iload 5, 2) := by decide +kernel
theorem dL_law_1203 : decode cL_law 1203 = .ok (.if_icmp .eq 5, 3) := by decide +kernel
theorem dL_law_1206 : decode cL_law 1206 = .ok (.iconst 0, 1) := by decide +kernel
theorem dL_law_1207 : decode cL_law 1207 = .ok (.ireturn, 1) := by decide +kernel
theorem dL_law_1208 : decode cL_law 1208 = .ok (.iload 5, 2) := by decide +kernel
theorem dL_law_1210 : decode cL_law 1210 = .ok (.ifCond .ne 15, 3) := by decide +kernel
theorem dL_law_1213 : decode cL_law 1213 = .ok (.aload_n 3, 1) := by decide +kernel
theorem dL_law_1214 : decode cL_law 1214 = .ok (.iconst 0, 1) := by decide +kernel
theorem dL_law_1215 : decode cL_law 1215 = .ok (.laload, 1) := by decide +kernel
theorem dL_law_1216 : decode cL_law 1216 = .ok (.iload 6, 2) := by decide +kernel
theorem dL_law_1218 : decode cL_law 1218 = .ok (.i2l, 1) := by decide +kernel
theorem dL_law_1219 : decode cL_law 1219 = .ok (.lcmp, 1) := by decide +kernel
theorem dL_law_1220 : decode cL_law 1220 = .ok (.ifCond .eq 5, 3) := by decide +kernel
theorem dL_law_1223 : decode cL_law 1223 = .ok (.iconst 0, 1) := by decide +kernel
theorem dL_law_1224 : decode cL_law 1224 = .ok (.ireturn, 1) := by decide +kernel
theorem dL_law_1225 : decode cL_law 1225 = .ok (.goto 1242, 3) := by decide +kernel
theorem dL_law_1228 : decode cL_law 1228 = .ok (.aload_n 1, 1) := by decide +kernel
theorem dL_law_1229 : decode cL_law 1229 = .ok (.aload_n 0, 1) := by decide +kernel
theorem dL_law_1230 : decode cL_law 1230 = .ok (.iload 4, 2) := by decide +kernel
theorem dL_law_1232 : decode cL_law 1232 = .ok (.iconst 1, 1) := by decide +kernel
theorem dL_law_1233 : decode cL_law 1233 = .ok (.iadd, 1) := by decide +kernel
theorem dL_law_1234 : decode cL_law 1234 = .ok (.iaload, 1) := by decide +kernel
theorem dL_law_1235 : decode cL_law 1235 = .ok (.aload_n 0, 1) := by decide +kernel
theorem dL_law_1236 : decode cL_law 1236 = .ok (.iload 4, 2) := by decide +kernel
theorem dL_law_1238 : decode cL_law 1238 = .ok (.iconst 2, 1) := by decide +kernel
theorem dL_law_1239 : decode cL_law 1239 = .ok (.iadd, 1) := by decide +kernel
theorem dL_law_1240 : decode cL_law 1240 = .ok (.iaload, 1) := by decide +kernel
theorem dL_law_1241 : decode cL_law 1241 = .ok (.aload_n 3, 1) := by decide +kernel
theorem dL_law_1242 : decode cL_law 1242 = .ok (.invokestatic 179, 3) := by decide +kernel
theorem dL_law_1245 : decode cL_law 1245 = .ok (.istore 5, 2) := by decide +kernel
theorem dL_law_1247 : decode cL_law 1247 = .ok (.aload_n 2, 1) := by decide +kernel
theorem dL_law_1248 : decode cL_law 1248 = .ok (.aload_n 0, 1) := by decide +kernel
theorem dL_law_1249 : decode cL_law 1249 = .ok (.iload 4, 2) := by decide +kernel
theorem dL_law_1251 : decode cL_law 1251 = .ok (.iconst 1, 1) := by decide +kernel
theorem dL_law_1252 : decode cL_law 1252 = .ok (.iadd, 1) := by decide +kernel
theorem dL_law_1253 : decode cL_law 1253 = .ok (.iaload, 1) := by decide +kernel
theorem dL_law_1254 : decode cL_law 1254 = .ok (.aload_n 0, 1) := by decide +kernel
theorem dL_law_1255 : decode cL_law 1255 = .ok (.iload 4, 2) := by decide +kernel
theorem dL_law_1257 : decode cL_law 1257 = .ok (.iconst 2, 1) := by decide +kernel
theorem dL_law_1258 : decode cL_law 1258 = .ok (.iadd, 1) := by decide +kernel
theorem dL_law_1259 : decode cL_law 1259 = .ok (.iaload, 1) := by decide +kernel
theorem dL_law_1260 : decode cL_law 1260 = .ok (.invokevirtual 181, 3) := by decide +kernel
theorem dL_law_1263 : decode cL_law 1263 = .ok (.istore 6, 2) := by decide +kernel
theorem dL_law_1265 : decode cL_law 1265 = .ok (.aload_n 2, 1) := by decide +kernel
theorem dL_law_1266 : decode cL_law 1266 = .ok (.invokevirtual 125, 3) := by decide +kernel
theorem dL_law_1269 : decode cL_law 1269 = .ok (.iload 5, 2) := by decide +kernel
theorem dL_law_1271 : decode cL_law 1271 = .ok (.if_icmp .eq 5, 3) := by decide +kernel
theorem dL_law_1274 : decode cL_law 1274 = .ok (.iconst 0, 1) := by decide +kernel
theorem dL_law_1275 : decode cL_law 1275 = .ok (.ireturn, 1) := by decide +kernel
theorem dL_law_1276 : decode cL_law 1276 = .ok (.iload 5, 2) := by decide +kernel
theorem dL_law_1278 : decode cL_law 1278 = .ok (.ifCond .ne 15, 3) := by decide +kernel
theorem dL_law_1281 : decode cL_law 1281 = .ok (.aload_n 3, 1) := by decide +kernel
theorem dL_law_1282 : decode cL_law 1282 = .ok (.iconst 0, 1) := by decide +kernel
theorem dL_law_1283 : decode cL_law 1283 = .ok (.laload, 1) := by decide +kernel
theorem dL_law_1284 : decode cL_law 1284 = .ok (.iload 6, 2) := by decide +kernel
theorem dL_law_1286 : decode cL_law 1286 = .ok (.i2l, 1) := by decide +kernel
theorem dL_law_1287 : decode cL_law 1287 = .ok (.lcmp, 1) := by decide +kernel
theorem dL_law_1288 : decode cL_law 1288 = .ok (.ifCond .eq 5, 3) := by decide +kernel
theorem dL_law_1291 : decode cL_law 1291 = .ok (.iconst 0, 1) := by decide +kernel
theorem dL_law_1292 : decode cL_law 1292 = .ok (.ireturn, 1) := by decide +kernel
theorem dL_law_1293 : decode cL_law 1293 = .ok (.goto 1174, 3) := by decide +kernel
theorem dL_law_1296 : decode cL_law 1296 = .ok (.aload_n 1, 1) := by decide +kernel
theorem dL_law_1297 : decode cL_law 1297 = .ok (.aload_n 0, 1) := by decide +kernel
theorem dL_law_1298 : decode cL_law 1298 = .ok (.iload 4, 2) := by decide +kernel
theorem dL_law_1300 : decode cL_law 1300 = .ok (.iconst 1, 1) := by decide +kernel
theorem dL_law_1301 : decode cL_law 1301 = .ok (.iadd, 1) := by decide +kernel
theorem dL_law_1302 : decode cL_law 1302 = .ok (.iaload, 1) := by decide +kernel
theorem dL_law_1303 : decode cL_law 1303 = .ok (.aload_n 0, 1) := by decide +kernel
theorem dL_law_1304 : decode cL_law 1304 = .ok (.iload 4, 2) := by decide +kernel
theorem dL_law_1306 : decode cL_law 1306 = .ok (.iconst 2, 1) := by decide +kernel
theorem dL_law_1307 : decode cL_law 1307 = .ok (.iadd, 1) := by decide +kernel
theorem dL_law_1308 : decode cL_law 1308 = .ok (.iaload, 1) := by decide +kernel
theorem dL_law_1309 : decode cL_law 1309 = .ok (.aload_n 3, 1) := by decide +kernel
theorem dL_law_1310 : decode cL_law 1310 = .ok (.invokestatic 182, 3) := by decide +kernel
theorem dL_law_1313 : decode cL_law 1313 = .ok (.istore 5, 2) := by decide +kernel
theorem dL_law_1315 : decode cL_law 1315 = .ok (.aload_n 2, 1) := by decide +kernel
theorem dL_law_1316 : decode cL_law 1316 = .ok (.aload_n 0, 1) := by decide +kernel
theorem dL_law_1317 : decode cL_law 1317 = .ok (.iload 4, 2) := by decide +kernel
theorem dL_law_1319 : decode cL_law 1319 = .ok (.iconst 1, 1) := by decide +kernel
theorem dL_law_1320 : decode cL_law 1320 = .ok (.iadd, 1) := by decide +kernel
theorem dL_law_1321 : decode cL_law 1321 = .ok (.iaload, 1) := by decide +kernel
theorem dL_law_1322 : decode cL_law 1322 = .ok (.aload_n 0, 1) := by decide +kernel
theorem dL_law_1323 : decode cL_law 1323 = .ok (.iload 4, 2) := by decide +kernel
theorem dL_law_1325 : decode cL_law 1325 = .ok (.iconst 2, 1) := by decide +kernel
theorem dL_law_1326 : decode cL_law 1326 = .ok (.iadd, 1) := by decide +kernel
theorem dL_law_1327 : decode cL_law 1327 = .ok (.iaload, 1) := by decide +kernel
theorem dL_law_1328 : decode cL_law 1328 = .ok (.invokevirtual 184, 3) := by decide +kernel
theorem dL_law_1331 : decode cL_law 1331 = .ok (.istore 6, 2) := by decide +kernel
theorem dL_law_1333 : decode cL_law 1333 = .ok (.aload_n 2, 1) := by decide +kernel
theorem dL_law_1334 : decode cL_law 1334 = .ok (.invokevirtual 125, 3) := by decide +kernel
theorem dL_law_1337 : decode cL_law 1337 = .ok (.iload 5, 2) := by decide +kernel
theorem dL_law_1339 : decode cL_law 1339 = .ok (.if_icmp .eq 5, 3) := by decide +kernel
theorem dL_law_1342 : decode cL_law 1342 = .ok (.iconst 0, 1) := by decide +kernel
theorem dL_law_1343 : decode cL_law 1343 = .ok (.ireturn, 1) := by decide +kernel
theorem dL_law_1344 : decode cL_law 1344 = .ok (.iload 5, 2) := by decide +kernel
theorem dL_law_1346 : decode cL_law 1346 = .ok (.ifCond .ne 15, 3) := by decide +kernel
theorem dL_law_1349 : decode cL_law 1349 = .ok (.aload_n 3, 1) := by decide +kernel
theorem dL_law_1350 : decode cL_law 1350 = .ok (.iconst 0, 1) := by decide +kernel
theorem dL_law_1351 : decode cL_law 1351 = .ok (.laload, 1) := by decide +kernel
theorem dL_law_1352 : decode cL_law 1352 = .ok (.iload 6, 2) := by decide +kernel
theorem dL_law_1354 : decode cL_law 1354 = .ok (.i2l, 1) := by decide +kernel
theorem dL_law_1355 : decode cL_law 1355 = .ok (.lcmp, 1) := by decide +kernel
theorem dL_law_1356 : decode cL_law 1356 = .ok (.ifCond .eq 5, 3) := by decide +kernel
theorem dL_law_1359 : decode cL_law 1359 = .ok (.iconst 0, 1) := by decide +kernel
theorem dL_law_1360 : decode cL_law 1360 = .ok (.ireturn, 1) := by decide +kernel
theorem dL_law_1361 : decode cL_law 1361 = .ok (.goto 1106, 3) := by decide +kernel
theorem dL_law_1364 : decode cL_law 1364 = .ok (.aload_n 1, 1) := by decide +kernel
theorem dL_law_1365 : decode cL_law 1365 = .ok (.aload_n 0, 1) := by decide +kernel
theorem dL_law_1366 : decode cL_law 1366 = .ok (.iload 4, 2) := by decide +kernel
theorem dL_law_1368 : decode cL_law 1368 = .ok (.iconst 1, 1) := by decide +kernel
theorem dL_law_1369 : decode cL_law 1369 = .ok (.iadd, 1) := by decide +kernel
theorem dL_law_1370 : decode cL_law 1370 = .ok (.iaload, 1) := by decide +kernel
theorem dL_law_1371 : decode cL_law 1371 = .ok (.aload_n 3, 1) := by decide +kernel
theorem dL_law_1372 : decode cL_law 1372 = .ok (.invokestatic 185, 3) := by decide +kernel
theorem dL_law_1375 : decode cL_law 1375 = .ok (.istore 5, 2) := by decide +kernel
theorem dL_law_1377 : decode cL_law 1377 = .ok (.aload_n 2, 1) := by decide +kernel
theorem dL_law_1378 : decode cL_law 1378 = .ok (.aload_n 0, 1) := by decide +kernel
theorem dL_law_1379 : decode cL_law 1379 = .ok (.iload 4, 2) := by decide +kernel
theorem dL_law_1381 : decode cL_law 1381 = .ok (.iconst 1, 1) := by decide +kernel
theorem dL_law_1382 : decode cL_law 1382 = .ok (.iadd, 1) := by decide +kernel
theorem dL_law_1383 : decode cL_law 1383 = .ok (.iaload, 1) := by decide +kernel
theorem dL_law_1384 : decode cL_law 1384 = .ok (.invokevirtual 187, 3) := by decide +kernel
theorem dL_law_1387 : decode cL_law 1387 = .ok (.istore 6, 2) := by decide +kernel
theorem dL_law_1389 : decode cL_law 1389 = .ok (.aload_n 2, 1) := by decide +kernel
theorem dL_law_1390 : decode cL_law 1390 = .ok (.invokevirtual 125, 3) := by decide +kernel
theorem dL_law_1393 : decode cL_law 1393 = .ok (.iload 5, 2) := by decide +kernel
theorem dL_law_1395 : decode cL_law 1395 = .ok (.if_icmp .eq 5, 3) := by decide +kernel
theorem dL_law_1398 : decode cL_law 1398 = .ok (.iconst 0, 1) := by decide +kernel
theorem dL_law_1399 : decode cL_law 1399 = .ok (.ireturn, 1) := by decide +kernel
theorem dL_law_1400 : decode cL_law 1400 = .ok (.iload 5, 2) := by decide +kernel
theorem dL_law_1402 : decode cL_law 1402 = .ok (.ifCond .ne 15, 3) := by decide +kernel
theorem dL_law_1405 : decode cL_law 1405 = .ok (.aload_n 3, 1) := by decide +kernel
theorem dL_law_1406 : decode cL_law 1406 = .ok (.iconst 0, 1) := by decide +kernel
theorem dL_law_1407 : decode cL_law 1407 = .ok (.laload, 1) := by decide +kernel
theorem dL_law_1408 : decode cL_law 1408 = .ok (.iload 6, 2) := by decide +kernel
theorem dL_law_1410 : decode cL_law 1410 = .ok (.i2l, 1) := by decide +kernel
theorem dL_law_1411 : decode cL_law 1411 = .ok (.lcmp, 1) := by decide +kernel
theorem dL_law_1412 : decode cL_law 1412 = .ok (.ifCond .eq 5, 3) := by decide +kernel
theorem dL_law_1415 : decode cL_law 1415 = .ok (.iconst 0, 1) := by decide +kernel
theorem dL_law_1416 : decode cL_law 1416 = .ok (.ireturn, 1) := by decide +kernel
theorem dL_law_1417 : decode cL_law 1417 = .ok (.goto 1050, 3) := by decide +kernel
theorem dL_law_1420 : decode cL_law 1420 = .ok (.aload_n 1, 1) := by decide +kernel
theorem dL_law_1421 : decode cL_law 1421 = .ok (.aload_n 0, 1) := by decide +kernel
theorem dL_law_1422 : decode cL_law 1422 = .ok (.iload 4, 2) := by decide +kernel
theorem dL_law_1424 : decode cL_law 1424 = .ok (.iconst 1, 1) := by decide +kernel
theorem dL_law_1425 : decode cL_law 1425 = .ok (.iadd, 1) := by decide +kernel
theorem dL_law_1426 : decode cL_law 1426 = .ok (.iaload, 1) := by decide +kernel
theorem dL_law_1427 : decode cL_law 1427 = .ok (.aload_n 3, 1) := by decide +kernel
theorem dL_law_1428 : decode cL_law 1428 = .ok (.invokestatic 188, 3) := by decide +kernel
theorem dL_law_1431 : decode cL_law 1431 = .ok (.istore 5, 2) := by decide +kernel
theorem dL_law_1433 : decode cL_law 1433 = .ok (.aload_n 2, 1) := by decide +kernel
theorem dL_law_1434 : decode cL_law 1434 = .ok (.aload_n 0, 1) := by decide +kernel
theorem dL_law_1435 : decode cL_law 1435 = .ok (.iload 4, 2) := by decide +kernel
theorem dL_law_1437 : decode cL_law 1437 = .ok (.iconst 1, 1) := by decide +kernel
theorem dL_law_1438 : decode cL_law 1438 = .ok (.iadd, 1) := by decide +kernel
theorem dL_law_1439 : decode cL_law 1439 = .ok (.iaload, 1) := by decide +kernel
theorem dL_law_1440 : decode cL_law 1440 = .ok (.invokevirtual 190, 3) := by decide +kernel
theorem dL_law_1443 : decode cL_law 1443 = .ok (.istore 6, 2) := by decide +kernel
theorem dL_law_1445 : decode cL_law 1445 = .ok (.aload_n 2, 1) := by decide +kernel
theorem dL_law_1446 : decode cL_law 1446 = .ok (.invokevirtual 125, 3) := by decide +kernel
theorem dL_law_1449 : decode cL_law 1449 = .ok (.iload 5, 2) := by decide +kernel
theorem dL_law_1451 : decode cL_law 1451 = .ok (.if_icmp .eq 5, 3) := by decide +kernel
theorem dL_law_1454 : decode cL_law 1454 = .ok (.iconst 0, 1) := by decide +kernel
theorem dL_law_1455 : decode cL_law 1455 = .ok (.ireturn, 1) := by decide +kernel
theorem dL_law_1456 : decode cL_law 1456 = .ok (.iload 5, 2) := by decide +kernel
theorem dL_law_1458 : decode cL_law 1458 = .ok (.ifCond .ne 15, 3) := by decide +kernel
theorem dL_law_1461 : decode cL_law 1461 = .ok (.aload_n 3, 1) := by decide +kernel
theorem dL_law_1462 : decode cL_law 1462 = .ok (.iconst 0, 1) := by decide +kernel
theorem dL_law_1463 : decode cL_law 1463 = .ok (.laload, 1) := by decide +kernel
theorem dL_law_1464 : decode cL_law 1464 = .ok (.iload 6, 2) := by decide +kernel
theorem dL_law_1466 : decode cL_law 1466 = .ok (.i2l, 1) := by decide +kernel
theorem dL_law_1467 : decode cL_law 1467 = .ok (.lcmp, 1) := by decide +kernel
theorem dL_law_1468 : decode cL_law 1468 = .ok (.ifCond .eq 5, 3) := by decide +kernel
theorem dL_law_1471 : decode cL_law 1471 = .ok (.iconst 0, 1) := by decide +kernel
theorem dL_law_1472 : decode cL_law 1472 = .ok (.ireturn, 1) := by decide +kernel
theorem dL_law_1473 : decode cL_law 1473 = .ok (.goto 994, 3) := by decide +kernel
theorem dL_law_1476 : decode cL_law 1476 = .ok (.aload_n 1, 1) := by decide +kernel
theorem dL_law_1477 : decode cL_law 1477 = .ok (.aload_n 0, 1) := by decide +kernel
theorem dL_law_1478 : decode cL_law 1478 = .ok (.iload 4, 2) := by decide +kernel
theorem dL_law_1480 : decode cL_law 1480 = .ok (.iconst 1, 1) := by decide +kernel
theorem dL_law_1481 : decode cL_law 1481 = .ok (.iadd, 1) := by decide +kernel
theorem dL_law_1482 : decode cL_law 1482 = .ok (.iaload, 1) := by decide +kernel
theorem dL_law_1483 : decode cL_law 1483 = .ok (.aload_n 3, 1) := by decide +kernel
theorem dL_law_1484 : decode cL_law 1484 = .ok (.invokestatic 191, 3) := by decide +kernel
theorem dL_law_1487 : decode cL_law 1487 = .ok (.istore 5, 2) := by decide +kernel
theorem dL_law_1489 : decode cL_law 1489 = .ok (.aload_n 2, 1) := by decide +kernel
theorem dL_law_1490 : decode cL_law 1490 = .ok (.aload_n 0, 1) := by decide +kernel
theorem dL_law_1491 : decode cL_law 1491 = .ok (.iload 4, 2) := by decide +kernel
theorem dL_law_1493 : decode cL_law 1493 = .ok (.iconst 1, 1) := by decide +kernel
theorem dL_law_1494 : decode cL_law 1494 = .ok (.iadd, 1) := by decide +kernel
theorem dL_law_1495 : decode cL_law 1495 = .ok (.iaload, 1) := by decide +kernel
theorem dL_law_1496 : decode cL_law 1496 = .ok (.invokevirtual 193, 3) := by decide +kernel
theorem dL_law_1499 : decode cL_law 1499 = .ok (.istore 6, 2) := by decide +kernel
theorem dL_law_1501 : decode cL_law 1501 = .ok (.aload_n 2, 1) := by decide +kernel
theorem dL_law_1502 : decode cL_law 1502 = .ok (.invokevirtual 125, 3) := by decide +kernel
theorem dL_law_1505 : decode cL_law 1505 = .ok (.iload 5, 2) := by decide +kernel
theorem dL_law_1507 : decode cL_law 1507 = .ok (.if_icmp .eq 5, 3) := by decide +kernel
theorem dL_law_1510 : decode cL_law 1510 = .ok (.iconst 0, 1) := by decide +kernel
theorem dL_law_1511 : decode cL_law 1511 = .ok (.ireturn, 1) := by decide +kernel
theorem dL_law_1512 : decode cL_law 1512 = .ok (.iload 5, 2) := by decide +kernel
theorem dL_law_1514 : decode cL_law 1514 = .ok (.ifCond .ne 15, 3) := by decide +kernel
theorem dL_law_1517 : decode cL_law 1517 = .ok (.aload_n 3, 1) := by decide +kernel
theorem dL_law_1518 : decode cL_law 1518 = .ok (.iconst 0, 1) := by decide +kernel
theorem dL_law_1519 : decode cL_law 1519 = .ok (.laload, 1) := by decide +kernel
theorem dL_law_1520 : decode cL_law 1520 = .ok (.iload 6, 2) := by decide +kernel
theorem dL_law_1522 : decode cL_law 1522 = .ok (.i2l, 1) := by decide +kernel
theorem dL_law_1523 : decode cL_law 1523 = .ok (.lcmp, 1) := by decide +kernel
theorem dL_law_1524 : decode cL_law 1524 = .ok (.ifCond .eq 5, 3) := by decide +kernel
theorem dL_law_1527 : decode cL_law 1527 = .ok (.iconst 0, 1) := by decide +kernel
theorem dL_law_1528 : decode cL_law 1528 = .ok (.ireturn, 1) := by decide +kernel
theorem dL_law_1529 : decode cL_law 1529 = .ok (.goto 938, 3) := by decide +kernel
theorem dL_law_1532 : decode cL_law 1532 = .ok (.aload_n 1, 1) := by decide +kernel
theorem dL_law_1533 : decode cL_law 1533 = .ok (.aload_n 0, 1) := by decide +kernel
theorem dL_law_1534 : decode cL_law 1534 = .ok (.iload 4, 2) := by decide +kernel
theorem dL_law_1536 : decode cL_law 1536 = .ok (.iconst 1, 1) := by decide +kernel
theorem dL_law_1537 : decode cL_law 1537 = .ok (.iadd, 1) := by decide +kernel
theorem dL_law_1538 : decode cL_law 1538 = .ok (.iaload, 1) := by decide +kernel
theorem dL_law_1539 : decode cL_law 1539 = .ok (.aload_n 0, 1) := by decide +kernel
theorem dL_law_1540 : decode cL_law 1540 = .ok (.iload 4, 2) := by decide +kernel
theorem dL_law_1542 : decode cL_law 1542 = .ok (.iconst 2, 1) := by decide +kernel
theorem dL_law_1543 : decode cL_law 1543 = .ok (.iadd, 1) := by decide +kernel
theorem dL_law_1544 : decode cL_law 1544 = .ok (.iaload, 1) := by decide +kernel
theorem dL_law_1545 : decode cL_law 1545 = .ok (.aload_n 0, 1) := by decide +kernel
theorem dL_law_1546 : decode cL_law 1546 = .ok (.iload 4, 2) := by decide +kernel
theorem dL_law_1548 : decode cL_law 1548 = .ok (.iconst 3, 1) := by decide +kernel
theorem dL_law_1549 : decode cL_law 1549 = .ok (.iadd, 1) := by decide +kernel
theorem dL_law_1550 : decode cL_law 1550 = .ok (.iaload, 1) := by decide +kernel
theorem dL_law_1551 : decode cL_law 1551 = .ok (.ifCond .eq 7, 3) := by decide +kernel
theorem dL_law_1554 : decode cL_law 1554 = .ok (.iconst 1, 1) := by decide +kernel
theorem dL_law_1555 : decode cL_law 1555 = .ok (.goto 4, 3) := by decide +kernel
theorem dL_law_1558 : decode cL_law 1558 = .ok (.iconst 0, 1) := by decide +kernel
theorem dL_law_1559 : decode cL_law 1559 = .ok (.aload_n 3, 1) := by decide +kernel
theorem dL_law_1560 : decode cL_law 1560 = .ok (.invokestatic 194, 3) := by decide +kernel
theorem dL_law_1563 : decode cL_law 1563 = .ok (.istore 5, 2) := by decide +kernel
theorem dL_law_1565 : decode cL_law 1565 = .ok (.aload_n 2, 1) := by decide +kernel
theorem dL_law_1566 : decode cL_law 1566 = .ok (.aload_n 0, 1) := by decide +kernel
theorem dL_law_1567 : decode cL_law 1567 = .ok (.iload 4, 2) := by decide +kernel
theorem dL_law_1569 : decode cL_law 1569 = .ok (.iconst 1, 1) := by decide +kernel
theorem dL_law_1570 : decode cL_law 1570 = .ok (.iadd, 1) := by decide +kernel
theorem dL_law_1571 : decode cL_law 1571 = .ok (.iaload, 1) := by decide +kernel
theorem dL_law_1572 : decode cL_law 1572 = .ok (.aload_n 0, 1) := by decide +kernel
theorem dL_law_1573 : decode cL_law 1573 = .ok (.iload 4, 2) := by decide +kernel
theorem dL_law_1575 : decode cL_law 1575 = .ok (.iconst 2, 1) := by decide +kernel
theorem dL_law_1576 : decode cL_law 1576 = .ok (.iadd, 1) := by decide +kernel
theorem dL_law_1577 : decode cL_law 1577 = .ok (.iaload, 1) := by decide +kernel
theorem dL_law_1578 : decode cL_law 1578 = .ok (.aload_n 0, 1) := by decide +kernel
theorem dL_law_1579 : decode cL_law 1579 = .ok (.iload 4, 2) := by decide +kernel
theorem dL_law_1581 : decode cL_law 1581 = .ok (.iconst 3, 1) := by decide +kernel
theorem dL_law_1582 : decode cL_law 1582 = .ok (.iadd, 1) := by decide +kernel
theorem dL_law_1583 : decode cL_law 1583 = .ok (.iaload, 1) := by decide +kernel
theorem dL_law_1584 : decode cL_law 1584 = .ok (.ifCond .eq 7, 3) := by decide +kernel
theorem dL_law_1587 : decode cL_law 1587 = .ok (.iconst 1, 1) := by decide +kernel
theorem dL_law_1588 : decode cL_law 1588 = .ok (.goto 4, 3) := by decide +kernel
theorem dL_law_1591 : decode cL_law 1591 = .ok (.iconst 0, 1) := by decide +kernel
theorem dL_law_1592 : decode cL_law 1592 = .ok (.invokevirtual 197, 3) := by decide +kernel
theorem dL_law_1595 : decode cL_law 1595 = .ok (.istore 6, 2) := by decide +kernel
theorem dL_law_1597 : decode cL_law 1597 = .ok (.aload_n 2, 1) := by decide +kernel
theorem dL_law_1598 : decode cL_law 1598 = .ok (.invokevirtual 125, 3) := by decide +kernel
theorem dL_law_1601 : decode cL_law 1601 = .ok (.iload 5, 2) := by decide +kernel
theorem dL_law_1603 : decode cL_law 1603 = .ok (.if_icmp .eq 5, 3) := by decide +kernel
theorem dL_law_1606 : decode cL_law 1606 = .ok (.iconst 0, 1) := by decide +kernel
theorem dL_law_1607 : decode cL_law 1607 = .ok (.ireturn, 1) := by decide +kernel
theorem dL_law_1608 : decode cL_law 1608 = .ok (.iload 5, 2) := by decide +kernel
theorem dL_law_1610 : decode cL_law 1610 = .ok (.ifCond .ne 15, 3) := by decide +kernel
theorem dL_law_1613 : decode cL_law 1613 = .ok (.aload_n 3, 1) := by decide +kernel
theorem dL_law_1614 : decode cL_law 1614 = .ok (.iconst 0, 1) := by decide +kernel
theorem dL_law_1615 : decode cL_law 1615 = .ok (.laload, 1) := by decide +kernel
theorem dL_law_1616 : decode cL_law 1616 = .ok (.iload 6, 2) := by decide +kernel
theorem dL_law_1618 : decode cL_law 1618 = .ok (.i2l, 1) := by decide +kernel
theorem dL_law_1619 : decode cL_law 1619 = .ok (.lcmp, 1) := by decide +kernel
theorem dL_law_1620 : decode cL_law 1620 = .ok (.ifCond .eq 5, 3) := by decide +kernel
theorem dL_law_1623 : decode cL_law 1623 = .ok (.iconst 0, 1) := by decide +kernel
theorem dL_law_1624 : decode cL_law 1624 = .ok (.ireturn, 1) := by decide +kernel
theorem dL_law_1625 : decode cL_law 1625 = .ok (.goto 842, 3) := by decide +kernel
theorem dL_law_1628 : decode cL_law 1628 = .ok (.aload_n 1, 1) := by decide +kernel
theorem dL_law_1629 : decode cL_law 1629 = .ok (.invokevirtual 198, 3) := by decide +kernel
theorem dL_law_1632 : decode cL_law 1632 = .ok (.aload_n 2, 1) := by decide +kernel
theorem dL_law_1633 : decode cL_law 1633 = .ok (.invokevirtual 201, 3) := by decide +kernel
theorem dL_law_1636 : decode cL_law 1636 = .ok (.goto 831, 3) := by decide +kernel
theorem dL_law_1639 : decode cL_law 1639 = .ok (.aload_n 1, 1) := by decide +kernel
theorem dL_law_1640 : decode cL_law 1640 = .ok (.aload_n 0, 1) := by decide +kernel
theorem dL_law_1641 : decode cL_law 1641 = .ok (.iload 4, 2) := by decide +kernel
theorem dL_law_1643 : decode cL_law 1643 = .ok (.iconst 1, 1) := by decide +kernel
theorem dL_law_1644 : decode cL_law 1644 = .ok (.iadd, 1) := by decide +kernel
theorem dL_law_1645 : decode cL_law 1645 = .ok (.iaload, 1) := by decide +kernel
theorem dL_law_1646 : decode cL_law 1646 = .ok (.aload_n 3, 1) := by decide +kernel
theorem dL_law_1647 : decode cL_law 1647 = .ok (.invokestatic 202, 3) := by decide +kernel
theorem dL_law_1650 : decode cL_law 1650 = .ok (.istore 5, 2) := by decide +kernel
theorem dL_law_1652 : decode cL_law 1652 = .ok (.aload_n 2, 1) := by decide +kernel
theorem dL_law_1653 : decode cL_law 1653 = .ok (.aload_n 0, 1) := by decide +kernel
theorem dL_law_1654 : decode cL_law 1654 = .ok (.iload 4, 2) := by decide +kernel
theorem dL_law_1656 : decode cL_law 1656 = .ok (.iconst 1, 1) := by decide +kernel
theorem dL_law_1657 : decode cL_law 1657 = .ok (.iadd, 1) := by decide +kernel
theorem dL_law_1658 : decode cL_law 1658 = .ok (.iaload, 1) := by decide +kernel
theorem dL_law_1659 : decode cL_law 1659 = .ok (.invokevirtual 204, 3) := by decide +kernel
theorem dL_law_1662 : decode cL_law 1662 = .ok (.istore 6, 2) := by decide +kernel
theorem dL_law_1664 : decode cL_law 1664 = .ok (.aload_n 2, 1) := by decide +kernel
theorem dL_law_1665 : decode cL_law 1665 = .ok (.invokevirtual 125, 3) := by decide +kernel
theorem dL_law_1668 : decode cL_law 1668 = .ok (.iload 5, 2) := by decide +kernel
theorem dL_law_1670 : decode cL_law 1670 = .ok (.if_icmp .eq 5, 3) := by decide +kernel
theorem dL_law_1673 : decode cL_law 1673 = .ok (.iconst 0, 1) := by decide +kernel
theorem dL_law_1674 : decode cL_law 1674 = .ok (.ireturn, 1) := by decide +kernel
theorem dL_law_1675 : decode cL_law 1675 = .ok (.iload 5, 2) := by decide +kernel
theorem dL_law_1677 : decode cL_law 1677 = .ok (.ifCond .ne 15, 3) := by decide +kernel
theorem dL_law_1680 : decode cL_law 1680 = .ok (.aload_n 3, 1) := by decide +kernel
theorem dL_law_1681 : decode cL_law 1681 = .ok (.iconst 0, 1) := by decide +kernel
theorem dL_law_1682 : decode cL_law 1682 = .ok (.laload, 1) := by decide +kernel
theorem dL_law_1683 : decode cL_law 1683 = .ok (.iload 6, 2) := by decide +kernel
theorem dL_law_1685 : decode cL_law 1685 = .ok (.i2l, 1) := by decide +kernel
theorem dL_law_1686 : decode cL_law 1686 = .ok (.lcmp, 1) := by decide +kernel
theorem dL_law_1687 : decode cL_law 1687 = .ok (.ifCond .eq 5, 3) := by decide +kernel
theorem dL_law_1690 : decode cL_law 1690 = .ok (.iconst 0, 1) := by decide +kernel
theorem dL_law_1691 : decode cL_law 1691 = .ok (.ireturn, 1) := by decide +kernel
theorem dL_law_1692 : decode cL_law 1692 = .ok (.goto 775, 3) := by decide +kernel
theorem dL_law_1695 : decode cL_law 1695 = .ok (.aload_n 1, 1) := by decide +kernel
theorem dL_law_1696 : decode cL_law 1696 = .ok (.aload_n 0, 1) := by decide +kernel
theorem dL_law_1697 : decode cL_law 1697 = .ok (.iload 4, 2) := by decide +kernel
theorem dL_law_1699 : decode cL_law 1699 = .ok (.iconst 1, 1) := by decide +kernel
theorem dL_law_1700 : decode cL_law 1700 = .ok (.iadd, 1) := by decide +kernel
theorem dL_law_1701 : decode cL_law 1701 = .ok (.iaload, 1) := by decide +kernel
theorem dL_law_1702 : decode cL_law 1702 = .ok (.aload_n 3, 1) := by decide +kernel
theorem dL_law_1703 : decode cL_law 1703 = .ok (.invokestatic 205, 3) := by decide +kernel
theorem dL_law_1706 : decode cL_law 1706 = .ok (.istore 5, 2) := by decide +kernel
theorem dL_law_1708 : decode cL_law 1708 = .ok (.aload_n 2, 1) := by decide +kernel
theorem dL_law_1709 : decode cL_law 1709 = .ok (.aload_n 0, 1) := by decide +kernel
theorem dL_law_1710 : decode cL_law 1710 = .ok (.iload 4, 2) := by decide +kernel
theorem dL_law_1712 : decode cL_law 1712 = .ok (.iconst 1, 1) := by decide +kernel
theorem dL_law_1713 : decode cL_law 1713 = .ok (.iadd, 1) := by decide +kernel
theorem dL_law_1714 : decode cL_law 1714 = .ok (.iaload, 1) := by decide +kernel
theorem dL_law_1715 : decode cL_law 1715 = .ok (.invokevirtual 207, 3) := by decide +kernel
theorem dL_law_1718 : decode cL_law 1718 = .ok (.istore 6, 2) := by decide +kernel
theorem dL_law_1720 : decode cL_law 1720 = .ok (.aload_n 2, 1) := by decide +kernel
theorem dL_law_1721 : decode cL_law 1721 = .ok (.invokevirtual 125, 3) := by decide +kernel
theorem dL_law_1724 : decode cL_law 1724 = .ok (.iload 5, 2) := by decide +kernel
theorem dL_law_1726 : decode cL_law 1726 = .ok (.if_icmp .eq 5, 3) := by decide +kernel
theorem dL_law_1729 : decode cL_law 1729 = .ok (.iconst 0, 1) := by decide +kernel
theorem dL_law_1730 : decode cL_law 1730 = .ok (.ireturn, 1) := by decide +kernel
theorem dL_law_1731 : decode cL_law 1731 = .ok (.iload 5, 2) := by decide +kernel
theorem dL_law_1733 : decode cL_law 1733 = .ok (.ifCond .ne 15, 3) := by decide +kernel
theorem dL_law_1736 : decode cL_law 1736 = .ok (.aload_n 3, 1) := by decide +kernel
theorem dL_law_1737 : decode cL_law 1737 = .ok (.iconst 0, 1) := by decide +kernel
theorem dL_law_1738 : decode cL_law 1738 = .ok (.laload, 1) := by decide +kernel
theorem dL_law_1739 : decode cL_law 1739 = .ok (.iload 6, 2) := by decide +kernel
theorem dL_law_1741 : decode cL_law 1741 = .ok (.i2l, 1) := by decide +kernel
theorem dL_law_1742 : decode cL_law 1742 = .ok (.lcmp, 1) := by decide +kernel
theorem dL_law_1743 : decode cL_law 1743 = .ok (.ifCond .eq 5, 3) := by decide +kernel
theorem dL_law_1746 : decode cL_law 1746 = .ok (.iconst 0, 1) := by decide +kernel
theorem dL_law_1747 : decode cL_law 1747 = .ok (.ireturn, 1) := by decide +kernel
theorem dL_law_1748 : decode cL_law 1748 = .ok (.goto 719, 3) := by decide +kernel
theorem dL_law_1751 : decode cL_law 1751 = .ok (.aload_n 1, 1) := by decide +kernel
theorem dL_law_1752 : decode cL_law 1752 = .ok (.aload_n 0, 1) := by decide +kernel
theorem dL_law_1753 : decode cL_law 1753 = .ok (.iload 4, 2) := by decide +kernel
theorem dL_law_1755 : decode cL_law 1755 = .ok (.iconst 1, 1) := by decide +kernel
theorem dL_law_1756 : decode cL_law 1756 = .ok (.iadd, 1) := by decide +kernel
theorem dL_law_1757 : decode cL_law 1757 = .ok (.iaload, 1) := by decide +kernel
theorem dL_law_1758 : decode cL_law 1758 = .ok (.aload_n 0, 1) := by decide +kernel
theorem dL_law_1759 : decode cL_law 1759 = .ok (.iload 4, 2) := by decide +kernel
theorem dL_law_1761 : decode cL_law 1761 = .ok (.iconst 2, 1) := by decide +kernel
theorem dL_law_1762 : decode cL_law 1762 = .ok (.iadd, 1) := by decide +kernel
theorem dL_law_1763 : decode cL_law 1763 = .ok (.iaload, 1) := by decide +kernel
theorem dL_law_1764 : decode cL_law 1764 = .ok (.aload_n 0, 1) := by decide +kernel
theorem dL_law_1765 : decode cL_law 1765 = .ok (.iload 4, 2) := by decide +kernel
theorem dL_law_1767 : decode cL_law 1767 = .ok (.iconst 3, 1) := by decide +kernel
theorem dL_law_1768 : decode cL_law 1768 = .ok (.iadd, 1) := by decide +kernel
theorem dL_law_1769 : decode cL_law 1769 = .ok (.iaload, 1) := by decide +kernel
theorem dL_law_1770 : decode cL_law 1770 = .ok (.aload_n 3, 1) := by decide +kernel
theorem dL_law_1771 : decode cL_law 1771 = .ok (.invokestatic 208, 3) := by decide +kernel
theorem dL_law_1774 : decode cL_law 1774 = .ok (.istore 5, 2) := by decide +kernel
theorem dL_law_1776 : decode cL_law 1776 = .ok (.aload_n 2, 1) := by decide +kernel
theorem dL_law_1777 : decode cL_law 1777 = .ok (.aload_n 0, 1) := by decide +kernel
theorem dL_law_1778 : decode cL_law 1778 = .ok (.iload 4, 2) := by decide +kernel
theorem dL_law_1780 : decode cL_law 1780 = .ok (.iconst 1, 1) := by decide +kernel
theorem dL_law_1781 : decode cL_law 1781 = .ok (.iadd, 1) := by decide +kernel
theorem dL_law_1782 : decode cL_law 1782 = .ok (.iaload, 1) := by decide +kernel
theorem dL_law_1783 : decode cL_law 1783 = .ok (.aload_n 0, 1) := by decide +kernel
theorem dL_law_1784 : decode cL_law 1784 = .ok (.iload 4, 2) := by decide +kernel
theorem dL_law_1786 : decode cL_law 1786 = .ok (.iconst 2, 1) := by decide +kernel
theorem dL_law_1787 : decode cL_law 1787 = .ok (.iadd, 1) := by decide +kernel
theorem dL_law_1788 : decode cL_law 1788 = .ok (.iaload, 1) := by decide +kernel
theorem dL_law_1789 : decode cL_law 1789 = .ok (.aload_n 0, 1) := by decide +kernel
theorem dL_law_1790 : decode cL_law 1790 = .ok (.iload 4, 2) := by decide +kernel
theorem dL_law_1792 : decode cL_law 1792 = .ok (.iconst 3, 1) := by decide +kernel
theorem dL_law_1793 : decode cL_law 1793 = .ok (.iadd, 1) := by decide +kernel
theorem dL_law_1794 : decode cL_law 1794 = .ok (.iaload, 1) := by decide +kernel
theorem dL_law_1795 : decode cL_law 1795 = .ok (.invokevirtual 210, 3) := by decide +kernel
theorem dL_law_1798 : decode cL_law 1798 = .ok (.istore 6, 2) := by decide +kernel
theorem dL_law_1800 : decode cL_law 1800 = .ok (.aload_n 2, 1) := by decide +kernel
theorem dL_law_1801 : decode cL_law 1801 = .ok (.invokevirtual 125, 3) := by decide +kernel
theorem dL_law_1804 : decode cL_law 1804 = .ok (.iload 5, 2) := by decide +kernel
theorem dL_law_1806 : decode cL_law 1806 = .ok (.if_icmp .eq 5, 3) := by decide +kernel
theorem dL_law_1809 : decode cL_law 1809 = .ok (.iconst 0, 1) := by decide +kernel
theorem dL_law_1810 : decode cL_law 1810 = .ok (.ireturn, 1) := by decide +kernel
theorem dL_law_1811 : decode cL_law 1811 = .ok (.iload 5, 2) := by decide +kernel
theorem dL_law_1813 : decode cL_law 1813 = .ok (.ifCond .ne 15, 3) := by decide +kernel
theorem dL_law_1816 : decode cL_law 1816 = .ok (.aload_n 3, 1) := by decide +kernel
theorem dL_law_1817 : decode cL_law 1817 = .ok (.iconst 0, 1) := by decide +kernel
theorem dL_law_1818 : decode cL_law 1818 = .ok (.laload, 1) := by decide +kernel
theorem dL_law_1819 : decode cL_law 1819 = .ok (.iload 6, 2) := by decide +kernel
theorem dL_law_1821 : decode cL_law 1821 = .ok (.i2l, 1) := by decide +kernel
theorem dL_law_1822 : decode cL_law 1822 = .ok (.lcmp, 1) := by decide +kernel
theorem dL_law_1823 : decode cL_law 1823 = .ok (.ifCond .eq 5, 3) := by decide +kernel
theorem dL_law_1826 : decode cL_law 1826 = .ok (.iconst 0, 1) := by decide +kernel
theorem dL_law_1827 : decode cL_law 1827 = .ok (.ireturn, 1) := by decide +kernel
theorem dL_law_1828 : decode cL_law 1828 = .ok (.goto 639, 3) := by decide +kernel
theorem dL_law_1831 : decode cL_law 1831 = .ok (.aload_n 1, 1) := by decide +kernel
theorem dL_law_1832 : decode cL_law 1832 = .ok (.aload_n 0, 1) := by decide +kernel
theorem dL_law_1833 : decode cL_law 1833 = .ok (.iload 4, 2) := by decide +kernel
theorem dL_law_1835 : decode cL_law 1835 = .ok (.iconst 1, 1) := by decide +kernel
theorem dL_law_1836 : decode cL_law 1836 = .ok (.iadd, 1) := by decide +kernel
theorem dL_law_1837 : decode cL_law 1837 = .ok (.iaload, 1) := by decide +kernel
theorem dL_law_1838 : decode cL_law 1838 = .ok (.aload_n 0, 1) := by decide +kernel
theorem dL_law_1839 : decode cL_law 1839 = .ok (.iload 4, 2) := by decide +kernel
theorem dL_law_1841 : decode cL_law 1841 = .ok (.iconst 2, 1) := by decide +kernel
theorem dL_law_1842 : decode cL_law 1842 = .ok (.iadd, 1) := by decide +kernel
theorem dL_law_1843 : decode cL_law 1843 = .ok (.iaload, 1) := by decide +kernel
theorem dL_law_1844 : decode cL_law 1844 = .ok (.aload_n 0, 1) := by decide +kernel
theorem dL_law_1845 : decode cL_law 1845 = .ok (.iload 4, 2) := by decide +kernel
theorem dL_law_1847 : decode cL_law 1847 = .ok (.iconst 3, 1) := by decide +kernel
theorem dL_law_1848 : decode cL_law 1848 = .ok (.iadd, 1) := by decide +kernel
theorem dL_law_1849 : decode cL_law 1849 = .ok (.iaload, 1) := by decide +kernel
theorem dL_law_1850 : decode cL_law 1850 = .ok (.aload_n 3, 1) := by decide +kernel
theorem dL_law_1851 : decode cL_law 1851 = .ok (.invokestatic 211, 3) := by decide +kernel
theorem dL_law_1854 : decode cL_law 1854 = .ok (.istore 5, 2) := by decide +kernel
theorem dL_law_1856 : decode cL_law 1856 = .ok (.aload_n 2, 1) := by decide +kernel
theorem dL_law_1857 : decode cL_law 1857 = .ok (.aload_n 0, 1) := by decide +kernel
theorem dL_law_1858 : decode cL_law 1858 = .ok (.iload 4, 2) := by decide +kernel
theorem dL_law_1860 : decode cL_law 1860 = .ok (.iconst 1, 1) := by decide +kernel
theorem dL_law_1861 : decode cL_law 1861 = .ok (.iadd, 1) := by decide +kernel
theorem dL_law_1862 : decode cL_law 1862 = .ok (.iaload, 1) := by decide +kernel
theorem dL_law_1863 : decode cL_law 1863 = .ok (.aload_n 0, 1) := by decide +kernel
theorem dL_law_1864 : decode cL_law 1864 = .ok (.iload 4, 2) := by decide +kernel
theorem dL_law_1866 : decode cL_law 1866 = .ok (.iconst 2, 1) := by decide +kernel
theorem dL_law_1867 : decode cL_law 1867 = .ok (.iadd, 1) := by decide +kernel
theorem dL_law_1868 : decode cL_law 1868 = .ok (.iaload, 1) := by decide +kernel
theorem dL_law_1869 : decode cL_law 1869 = .ok (.aload_n 0, 1) := by decide +kernel
theorem dL_law_1870 : decode cL_law 1870 = .ok (.iload 4, 2) := by decide +kernel
theorem dL_law_1872 : decode cL_law 1872 = .ok (.iconst 3, 1) := by decide +kernel
theorem dL_law_1873 : decode cL_law 1873 = .ok (.iadd, 1) := by decide +kernel
theorem dL_law_1874 : decode cL_law 1874 = .ok (.iaload, 1) := by decide +kernel
theorem dL_law_1875 : decode cL_law 1875 = .ok (.invokevirtual 213, 3) := by decide +kernel
theorem dL_law_1878 : decode cL_law 1878 = .ok (.istore 6, 2) := by decide +kernel
theorem dL_law_1880 : decode cL_law 1880 = .ok (.aload_n 2, 1) := by decide +kernel
theorem dL_law_1881 : decode cL_law 1881 = .ok (.invokevirtual 125, 3) := by decide +kernel
theorem dL_law_1884 : decode cL_law 1884 = .ok (.iload 5, 2) := by decide +kernel
theorem dL_law_1886 : decode cL_law 1886 = .ok (.if_icmp .eq 5, 3) := by decide +kernel
theorem dL_law_1889 : decode cL_law 1889 = .ok (.iconst 0, 1) := by decide +kernel
theorem dL_law_1890 : decode cL_law 1890 = .ok (.ireturn, 1) := by decide +kernel
theorem dL_law_1891 : decode cL_law 1891 = .ok (.iload 5, 2) := by decide +kernel
theorem dL_law_1893 : decode cL_law 1893 = .ok (.ifCond .ne 15, 3) := by decide +kernel
theorem dL_law_1896 : decode cL_law 1896 = .ok (.aload_n 3, 1) := by decide +kernel
theorem dL_law_1897 : decode cL_law 1897 = .ok (.iconst 0, 1) := by decide +kernel
theorem dL_law_1898 : decode cL_law 1898 = .ok (.laload, 1) := by decide +kernel
theorem dL_law_1899 : decode cL_law 1899 = .ok (.iload 6, 2) := by decide +kernel
theorem dL_law_1901 : decode cL_law 1901 = .ok (.i2l, 1) := by decide +kernel
theorem dL_law_1902 : decode cL_law 1902 = .ok (.lcmp, 1) := by decide +kernel
theorem dL_law_1903 : decode cL_law 1903 = .ok (.ifCond .eq 5, 3) := by decide +kernel
theorem dL_law_1906 : decode cL_law 1906 = .ok (.iconst 0, 1) := by decide +kernel
theorem dL_law_1907 : decode cL_law 1907 = .ok (.ireturn, 1) := by decide +kernel
theorem dL_law_1908 : decode cL_law 1908 = .ok (.goto 559, 3) := by decide +kernel
theorem dL_law_1911 : decode cL_law 1911 = .ok (.aload_n 1, 1) := by decide +kernel
theorem dL_law_1912 : decode cL_law 1912 = .ok (.aload_n 0, 1) := by decide +kernel
theorem dL_law_1913 : decode cL_law 1913 = .ok (.iload 4, 2) := by decide +kernel
theorem dL_law_1915 : decode cL_law 1915 = .ok (.iconst 1, 1) := by decide +kernel
theorem dL_law_1916 : decode cL_law 1916 = .ok (.iadd, 1) := by decide +kernel
theorem dL_law_1917 : decode cL_law 1917 = .ok (.iaload, 1) := by decide +kernel
theorem dL_law_1918 : decode cL_law 1918 = .ok (.aload_n 0, 1) := by decide +kernel
theorem dL_law_1919 : decode cL_law 1919 = .ok (.iload 4, 2) := by decide +kernel
theorem dL_law_1921 : decode cL_law 1921 = .ok (.iconst 2, 1) := by decide +kernel
theorem dL_law_1922 : decode cL_law 1922 = .ok (.iadd, 1) := by decide +kernel
theorem dL_law_1923 : decode cL_law 1923 = .ok (.iaload, 1) := by decide +kernel
theorem dL_law_1924 : decode cL_law 1924 = .ok (.aload_n 0, 1) := by decide +kernel
theorem dL_law_1925 : decode cL_law 1925 = .ok (.iload 4, 2) := by decide +kernel
theorem dL_law_1927 : decode cL_law 1927 = .ok (.iconst 3, 1) := by decide +kernel
theorem dL_law_1928 : decode cL_law 1928 = .ok (.iadd, 1) := by decide +kernel
theorem dL_law_1929 : decode cL_law 1929 = .ok (.iaload, 1) := by decide +kernel
theorem dL_law_1930 : decode cL_law 1930 = .ok (.aload_n 3, 1) := by decide +kernel
theorem dL_law_1931 : decode cL_law 1931 = .ok (.invokestatic 214, 3) := by decide +kernel
theorem dL_law_1934 : decode cL_law 1934 = .ok (.istore 5, 2) := by decide +kernel
theorem dL_law_1936 : decode cL_law 1936 = .ok (.aload_n 2, 1) := by decide +kernel
theorem dL_law_1937 : decode cL_law 1937 = .ok (.aload_n 0, 1) := by decide +kernel
theorem dL_law_1938 : decode cL_law 1938 = .ok (.iload 4, 2) := by decide +kernel
theorem dL_law_1940 : decode cL_law 1940 = .ok (.iconst 1, 1) := by decide +kernel
theorem dL_law_1941 : decode cL_law 1941 = .ok (.iadd, 1) := by decide +kernel
theorem dL_law_1942 : decode cL_law 1942 = .ok (.iaload, 1) := by decide +kernel
theorem dL_law_1943 : decode cL_law 1943 = .ok (.aload_n 0, 1) := by decide +kernel
theorem dL_law_1944 : decode cL_law 1944 = .ok (.iload 4, 2) := by decide +kernel
theorem dL_law_1946 : decode cL_law 1946 = .ok (.iconst 2, 1) := by decide +kernel
theorem dL_law_1947 : decode cL_law 1947 = .ok (.iadd, 1) := by decide +kernel
theorem dL_law_1948 : decode cL_law 1948 = .ok (.iaload, 1) := by decide +kernel
theorem dL_law_1949 : decode cL_law 1949 = .ok (.aload_n 0, 1) := by decide +kernel
theorem dL_law_1950 : decode cL_law 1950 = .ok (.iload 4, 2) := by decide +kernel
theorem dL_law_1952 : decode cL_law 1952 = .ok (.iconst 3, 1) := by decide +kernel
theorem dL_law_1953 : decode cL_law 1953 = .ok (.iadd, 1) := by decide +kernel
theorem dL_law_1954 : decode cL_law 1954 = .ok (.iaload, 1) := by decide +kernel
theorem dL_law_1955 : decode cL_law 1955 = .ok (.invokevirtual 216, 3) := by decide +kernel
theorem dL_law_1958 : decode cL_law 1958 = .ok (.istore 6, 2) := by decide +kernel
theorem dL_law_1960 : decode cL_law 1960 = .ok (.aload_n 2, 1) := by decide +kernel
theorem dL_law_1961 : decode cL_law 1961 = .ok (.invokevirtual 125, 3) := by decide +kernel
theorem dL_law_1964 : decode cL_law 1964 = .ok (.iload 5, 2) := by decide +kernel
theorem dL_law_1966 : decode cL_law 1966 = .ok (.if_icmp .eq 5, 3) := by decide +kernel
theorem dL_law_1969 : decode cL_law 1969 = .ok (.iconst 0, 1) := by decide +kernel
theorem dL_law_1970 : decode cL_law 1970 = .ok (.ireturn, 1) := by decide +kernel
theorem dL_law_1971 : decode cL_law 1971 = .ok (.iload 5, 2) := by decide +kernel
theorem dL_law_1973 : decode cL_law 1973 = .ok (.ifCond .ne 15, 3) := by decide +kernel
theorem dL_law_1976 : decode cL_law 1976 = .ok (.aload_n 3, 1) := by decide +kernel
theorem dL_law_1977 : decode cL_law 1977 = .ok (.iconst 0, 1) := by decide +kernel
theorem dL_law_1978 : decode cL_law 1978 = .ok (.laload, 1) := by decide +kernel
theorem dL_law_1979 : decode cL_law 1979 = .ok (.iload 6, 2) := by decide +kernel
theorem dL_law_1981 : decode cL_law 1981 = .ok (.i2l, 1) := by decide +kernel
theorem dL_law_1982 : decode cL_law 1982 = .ok (.lcmp, 1) := by decide +kernel
theorem dL_law_1983 : decode cL_law 1983 = .ok (.ifCond .eq 5, 3) := by decide +kernel
theorem dL_law_1986 : decode cL_law 1986 = .ok (.iconst 0, 1) := by decide +kernel
theorem dL_law_1987 : decode cL_law 1987 = .ok (.ireturn, 1) := by decide +kernel
theorem dL_law_1988 : decode cL_law 1988 = .ok (.goto 479, 3) := by decide +kernel
theorem dL_law_1991 : decode cL_law 1991 = .ok (.aload_n 1, 1) := by decide +kernel
theorem dL_law_1992 : decode cL_law 1992 = .ok (.aload_n 0, 1) := by decide +kernel
theorem dL_law_1993 : decode cL_law 1993 = .ok (.iload 4, 2) := by decide +kernel
theorem dL_law_1995 : decode cL_law 1995 = .ok (.iconst 1, 1) := by decide +kernel
theorem dL_law_1996 : decode cL_law 1996 = .ok (.iadd, 1) := by decide +kernel
theorem dL_law_1997 : decode cL_law 1997 = .ok (.iaload, 1) := by decide +kernel
theorem dL_law_1998 : decode cL_law 1998 = .ok (.aload_n 0, 1) := by decide +kernel
theorem dL_law_1999 : decode cL_law 1999 = .ok (.iload 4, 2) := by decide +kernel
theorem dL_law_2001 : decode cL_law 2001 = .ok (.iconst 2, 1) := by decide +kernel
theorem dL_law_2002 : decode cL_law 2002 = .ok (.iadd, 1) := by decide +kernel
theorem dL_law_2003 : decode cL_law 2003 = .ok (.iaload, 1) := by decide +kernel
theorem dL_law_2004 : decode cL_law 2004 = .ok (.aload_n 3, 1) := by decide +kernel
theorem dL_law_2005 : decode cL_law 2005 = .ok (.invokestatic 217, 3) := by decide +kernel
theorem dL_law_2008 : decode cL_law 2008 = .ok (.istore 5, 2) := by decide +kernel
theorem dL_law_2010 : decode cL_law 2010 = .ok (.aload_n 2, 1) := by decide +kernel
theorem dL_law_2011 : decode cL_law 2011 = .ok (.aload_n 0, 1) := by decide +kernel
theorem dL_law_2012 : decode cL_law 2012 = .ok (.iload 4, 2) := by decide +kernel
theorem dL_law_2014 : decode cL_law 2014 = .ok (.iconst 1, 1) := by decide +kernel
theorem dL_law_2015 : decode cL_law 2015 = .ok (.iadd, 1) := by decide +kernel
theorem dL_law_2016 : decode cL_law 2016 = .ok (.iaload, 1) := by decide +kernel
theorem dL_law_2017 : decode cL_law 2017 = .ok (.aload_n 0, 1) := by decide +kernel
theorem dL_law_2018 : decode cL_law 2018 = .ok (.iload 4, 2) := by decide +kernel
theorem dL_law_2020 : decode cL_law 2020 = .ok (.iconst 2, 1) := by decide +kernel
theorem dL_law_2021 : decode cL_law 2021 = .ok (.iadd, 1) := by decide +kernel
theorem dL_law_2022 : decode cL_law 2022 = .ok (.iaload, 1) := by decide +kernel
theorem dL_law_2023 : decode cL_law 2023 = .ok (.invokevirtual 219, 3) := by decide +kernel
theorem dL_law_2026 : decode cL_law 2026 = .ok (.istore 6, 2) := by decide +kernel
theorem dL_law_2028 : decode cL_law 2028 = .ok (.aload_n 2, 1) := by decide +kernel
theorem dL_law_2029 : decode cL_law 2029 = .ok (.invokevirtual 125, 3) := by decide +kernel
theorem dL_law_2032 : decode cL_law 2032 = .ok (.iload 5, 2) := by decide +kernel
theorem dL_law_2034 : decode cL_law 2034 = .ok (.if_icmp .eq 5, 3) := by decide +kernel
theorem dL_law_2037 : decode cL_law 2037 = .ok (.iconst 0, 1) := by decide +kernel
theorem dL_law_2038 : decode cL_law 2038 = .ok (.ireturn, 1) := by decide +kernel
theorem dL_law_2039 : decode cL_law 2039 = .ok (.iload 5, 2) := by decide +kernel
theorem dL_law_2041 : decode cL_law 2041 = .ok (.ifCond .ne 15, 3) := by decide +kernel
theorem dL_law_2044 : decode cL_law 2044 = .ok (.aload_n 3, 1) := by decide +kernel
theorem dL_law_2045 : decode cL_law 2045 = .ok (.iconst 0, 1) := by decide +kernel
theorem dL_law_2046 : decode cL_law 2046 = .ok (.laload, 1) := by decide +kernel
theorem dL_law_2047 : decode cL_law 2047 = .ok (.iload 6, 2) := by decide +kernel
theorem dL_law_2049 : decode cL_law 2049 = .ok (.i2l, 1) := by decide +kernel
theorem dL_law_2050 : decode cL_law 2050 = .ok (.lcmp, 1) := by decide +kernel
theorem dL_law_2051 : decode cL_law 2051 = .ok (.ifCond .eq 5, 3) := by decide +kernel
theorem dL_law_2054 : decode cL_law 2054 = .ok (.iconst 0, 1) := by decide +kernel
theorem dL_law_2055 : decode cL_law 2055 = .ok (.ireturn, 1) := by decide +kernel
theorem dL_law_2056 : decode cL_law 2056 = .ok (.goto 411, 3) := by decide +kernel
theorem dL_law_2059 : decode cL_law 2059 = .ok (.aload_n 1, 1) := by decide +kernel
theorem dL_law_2060 : decode cL_law 2060 = .ok (.aload_n 0, 1) := by decide +kernel
theorem dL_law_2061 : decode cL_law 2061 = .ok (.iload 4, 2) := by decide +kernel
theorem dL_law_2063 : decode cL_law 2063 = .ok (.iconst 1, 1) := by decide +kernel
theorem dL_law_2064 : decode cL_law 2064 = .ok (.iadd, 1) := by decide +kernel
theorem dL_law_2065 : decode cL_law 2065 = .ok (.iaload, 1) := by decide +kernel
theorem dL_law_2066 : decode cL_law 2066 = .ok (.aload_n 3, 1) := by decide +kernel
theorem dL_law_2067 : decode cL_law 2067 = .ok (.invokestatic 220, 3) := by decide +kernel
theorem dL_law_2070 : decode cL_law 2070 = .ok (.istore 5, 2) := by decide +kernel
theorem dL_law_2072 : decode cL_law 2072 = .ok (.aload_n 2, 1) := by decide +kernel
theorem dL_law_2073 : decode cL_law 2073 = .ok (.aload_n 0, 1) := by decide +kernel
theorem dL_law_2074 : decode cL_law 2074 = .ok (.iload 4, 2) := by decide +kernel
theorem dL_law_2076 : decode cL_law 2076 = .ok (.iconst 1, 1) := by decide +kernel
theorem dL_law_2077 : decode cL_law 2077 = .ok (.iadd, 1) := by decide +kernel
theorem dL_law_2078 : decode cL_law 2078 = .ok (.iaload, 1) := by decide +kernel
theorem dL_law_2079 : decode cL_law 2079 = .ok (.invokevirtual 222, 3) := by decide +kernel
theorem dL_law_2082 : decode cL_law 2082 = .ok (.istore 6, 2) := by decide +kernel
theorem dL_law_2084 : decode cL_law 2084 = .ok (.aload_n 2, 1) := by decide +kernel
theorem dL_law_2085 : decode cL_law 2085 = .ok (.invokevirtual 125, 3) := by decide +kernel
theorem dL_law_2088 : decode cL_law 2088 = .ok (.iload 5, 2) := by decide +kernel
theorem dL_law_2090 : decode cL_law 2090 = .ok (.if_icmp .eq 5, 3) := by decide +kernel
theorem dL_law_2093 : decode cL_law 2093 = .ok (.iconst 0, 1) := by decide +kernel
theorem dL_law_2094 : decode cL_law 2094 = .ok (.ireturn, 1) := by decide +kernel
theorem dL_law_2095 : decode cL_law 2095 = .ok (.iload 5, 2) := by decide +kernel
theorem dL_law_2097 : decode cL_law 2097 = .ok (.ifCond .ne 15, 3) := by decide +kernel
theorem dL_law_2100 : decode cL_law 2100 = .ok (.aload_n 3, 1) := by decide +kernel
theorem dL_law_2101 : decode cL_law 2101 = .ok (.iconst 0, 1) := by decide +kernel
theorem dL_law_2102 : decode cL_law 2102 = .ok (.laload, 1) := by decide +kernel
theorem dL_law_2103 : decode cL_law 2103 = .ok (.iload 6, 2) := by decide +kernel
theorem dL_law_2105 : decode cL_law 2105 = .ok (.i2l, 1) := by decide +kernel
theorem dL_law_2106 : decode cL_law 2106 = .ok (.lcmp, 1) := by decide +kernel
theorem dL_law_2107 : decode cL_law 2107 = .ok (.ifCond .eq 5, 3) := by decide +kernel
theorem dL_law_2110 : decode cL_law 2110 = .ok (.iconst 0, 1) := by decide +kernel
theorem dL_law_2111 : decode cL_law 2111 = .ok (.ireturn, 1) := by decide +kernel
theorem dL_law_2112 : decode cL_law 2112 = .ok (.goto 355, 3) := by decide +kernel
theorem dL_law_2115 : decode cL_law 2115 = .ok (.aload_n 1, 1) := by decide +kernel
theorem dL_law_2116 : decode cL_law 2116 = .ok (.aload_n 0, 1) := by decide +kernel
theorem dL_law_2117 : decode cL_law 2117 = .ok (.iload 4, 2) := by decide +kernel
theorem dL_law_2119 : decode cL_law 2119 = .ok (.iconst 1, 1) := by decide +kernel
theorem dL_law_2120 : decode cL_law 2120 = .ok (.iadd, 1) := by decide +kernel
theorem dL_law_2121 : decode cL_law 2121 = .ok (.iaload, 1) := by decide +kernel
theorem dL_law_2122 : decode cL_law 2122 = .ok (.aload_n 0, 1) := by decide +kernel
theorem dL_law_2123 : decode cL_law 2123 = .ok (.iload 4, 2) := by decide +kernel
theorem dL_law_2125 : decode cL_law 2125 = .ok (.iconst 2, 1) := by decide +kernel
theorem dL_law_2126 : decode cL_law 2126 = .ok (.iadd, 1) := by decide +kernel
theorem dL_law_2127 : decode cL_law 2127 = .ok (.iaload, 1) := by decide +kernel
theorem dL_law_2128 : decode cL_law 2128 = .ok (.aload_n 3, 1) := by decide +kernel
theorem dL_law_2129 : decode cL_law 2129 = .ok (.invokestatic 223, 3) := by decide +kernel
theorem dL_law_2132 : decode cL_law 2132 = .ok (.istore 5, 2) := by decide +kernel
theorem dL_law_2134 : decode cL_law 2134 = .ok (.aload_n 2, 1) := by decide +kernel
theorem dL_law_2135 : decode cL_law 2135 = .ok (.aload_n 0, 1) := by decide +kernel
theorem dL_law_2136 : decode cL_law 2136 = .ok (.iload 4, 2) := by decide +kernel
theorem dL_law_2138 : decode cL_law 2138 = .ok (.iconst 1, 1) := by decide +kernel
theorem dL_law_2139 : decode cL_law 2139 = .ok (.iadd, 1) := by decide +kernel
theorem dL_law_2140 : decode cL_law 2140 = .ok (.iaload, 1) := by decide +kernel
theorem dL_law_2141 : decode cL_law 2141 = .ok (.aload_n 0, 1) := by decide +kernel
theorem dL_law_2142 : decode cL_law 2142 = .ok (.iload 4, 2) := by decide +kernel
theorem dL_law_2144 : decode cL_law 2144 = .ok (.iconst 2, 1) := by decide +kernel
theorem dL_law_2145 : decode cL_law 2145 = .ok (.iadd, 1) := by decide +kernel
theorem dL_law_2146 : decode cL_law 2146 = .ok (.iaload, 1) := by decide +kernel
theorem dL_law_2147 : decode cL_law 2147 = .ok (.invokevirtual 225, 3) := by decide +kernel
theorem dL_law_2150 : decode cL_law 2150 = .ok (.istore 6, 2) := by decide +kernel
theorem dL_law_2152 : decode cL_law 2152 = .ok (.aload_n 2, 1) := by decide +kernel
theorem dL_law_2153 : decode cL_law 2153 = .ok (.invokevirtual 125, 3) := by decide +kernel
theorem dL_law_2156 : decode cL_law 2156 = .ok (.iload 5, 2) := by decide +kernel
theorem dL_law_2158 : decode cL_law 2158 = .ok (.if_icmp .eq 5, 3) := by decide +kernel
theorem dL_law_2161 : decode cL_law 2161 = .ok (.iconst 0, 1) := by decide +kernel
theorem dL_law_2162 : decode cL_law 2162 = .ok (.ireturn, 1) := by decide +kernel
theorem dL_law_2163 : decode cL_law 2163 = .ok (.iload 5, 2) := by decide +kernel
theorem dL_law_2165 : decode cL_law 2165 = .ok (.ifCond .ne 15, 3) := by decide +kernel
theorem dL_law_2168 : decode cL_law 2168 = .ok (.aload_n 3, 1) := by decide +kernel
theorem dL_law_2169 : decode cL_law 2169 = .ok (.iconst 0, 1) := by decide +kernel
theorem dL_law_2170 : decode cL_law 2170 = .ok (.laload, 1) := by decide +kernel
theorem dL_law_2171 : decode cL_law 2171 = .ok (.iload 6, 2) := by decide +kernel
theorem dL_law_2173 : decode cL_law 2173 = .ok (.i2l, 1) := by decide +kernel
theorem dL_law_2174 : decode cL_law 2174 = .ok (.lcmp, 1) := by decide +kernel
theorem dL_law_2175 : decode cL_law 2175 = .ok (.ifCond .eq 5, 3) := by decide +kernel
theorem dL_law_2178 : decode cL_law 2178 = .ok (.iconst 0, 1) := by decide +kernel
theorem dL_law_2179 : decode cL_law 2179 = .ok (.ireturn, 1) := by decide +kernel
theorem dL_law_2180 : decode cL_law 2180 = .ok (.goto 287, 3) := by decide +kernel
theorem dL_law_2183 : decode cL_law 2183 = .ok (.aload_n 1, 1) := by decide +kernel
theorem dL_law_2184 : decode cL_law 2184 = .ok (.aload_n 0, 1) := by decide +kernel
theorem dL_law_2185 : decode cL_law 2185 = .ok (.iload 4, 2) := by decide +kernel
theorem dL_law_2187 : decode cL_law 2187 = .ok (.iconst 1, 1) := by decide +kernel
theorem dL_law_2188 : decode cL_law 2188 = .ok (.iadd, 1) := by decide +kernel
theorem dL_law_2189 : decode cL_law 2189 = .ok (.iaload, 1) := by decide +kernel
theorem dL_law_2190 : decode cL_law 2190 = .ok (.aload_n 0, 1) := by decide +kernel
theorem dL_law_2191 : decode cL_law 2191 = .ok (.iload 4, 2) := by decide +kernel
theorem dL_law_2193 : decode cL_law 2193 = .ok (.iconst 2, 1) := by decide +kernel
theorem dL_law_2194 : decode cL_law 2194 = .ok (.iadd, 1) := by decide +kernel
theorem dL_law_2195 : decode cL_law 2195 = .ok (.iaload, 1) := by decide +kernel
theorem dL_law_2196 : decode cL_law 2196 = .ok (.aload_n 3, 1) := by decide +kernel
theorem dL_law_2197 : decode cL_law 2197 = .ok (.invokestatic 226, 3) := by decide +kernel
theorem dL_law_2200 : decode cL_law 2200 = .ok (.istore 5, 2) := by decide +kernel
theorem dL_law_2202 : decode cL_law 2202 = .ok (.aload_n 2, 1) := by decide +kernel
theorem dL_law_2203 : decode cL_law 2203 = .ok (.aload_n 0, 1) := by decide +kernel
theorem dL_law_2204 : decode cL_law 2204 = .ok (.iload 4, 2) := by decide +kernel
theorem dL_law_2206 : decode cL_law 2206 = .ok (.iconst 1, 1) := by decide +kernel
theorem dL_law_2207 : decode cL_law 2207 = .ok (.iadd, 1) := by decide +kernel
theorem dL_law_2208 : decode cL_law 2208 = .ok (.iaload, 1) := by decide +kernel
theorem dL_law_2209 : decode cL_law 2209 = .ok (.aload_n 0, 1) := by decide +kernel
theorem dL_law_2210 : decode cL_law 2210 = .ok (.iload 4, 2) := by decide +kernel
theorem dL_law_2212 : decode cL_law 2212 = .ok (.iconst 2, 1) := by decide +kernel
theorem dL_law_2213 : decode cL_law 2213 = .ok (.iadd, 1) := by decide +kernel
theorem dL_law_2214 : decode cL_law 2214 = .ok (.iaload, 1) := by decide +kernel
theorem dL_law_2215 : decode cL_law 2215 = .ok (.invokevirtual 228, 3) := by decide +kernel
theorem dL_law_2218 : decode cL_law 2218 = .ok (.istore 6, 2) := by decide +kernel
theorem dL_law_2220 : decode cL_law 2220 = .ok (.aload_n 2, 1) := by decide +kernel
theorem dL_law_2221 : decode cL_law 2221 = .ok (.invokevirtual 125, 3) := by decide +kernel
theorem dL_law_2224 : decode cL_law 2224 = .ok (.iload 5, 2) := by decide +kernel
theorem dL_law_2226 : decode cL_law 2226 = .ok (.if_icmp .eq 5, 3) := by decide +kernel
theorem dL_law_2229 : decode cL_law 2229 = .ok (.iconst 0, 1) := by decide +kernel
theorem dL_law_2230 : decode cL_law 2230 = .ok (.ireturn, 1) := by decide +kernel
theorem dL_law_2231 : decode cL_law 2231 = .ok (.iload 5, 2) := by decide +kernel
theorem dL_law_2233 : decode cL_law 2233 = .ok (.ifCond .ne 15, 3) := by decide +kernel
theorem dL_law_2236 : decode cL_law 2236 = .ok (.aload_n 3, 1) := by decide +kernel
theorem dL_law_2237 : decode cL_law 2237 = .ok (.iconst 0, 1) := by decide +kernel
theorem dL_law_2238 : decode cL_law 2238 = .ok (.laload, 1) := by decide +kernel
theorem dL_law_2239 : decode cL_law 2239 = .ok (.iload 6, 2) := by decide +kernel
theorem dL_law_2241 : decode cL_law 2241 = .ok (.i2l, 1) := by decide +kernel
theorem dL_law_2242 : decode cL_law 2242 = .ok (.lcmp, 1) := by decide +kernel
theorem dL_law_2243 : decode cL_law 2243 = .ok (.ifCond .eq 5, 3) := by decide +kernel
theorem dL_law_2246 : decode cL_law 2246 = .ok (.iconst 0, 1) := by decide +kernel
theorem dL_law_2247 : decode cL_law 2247 = .ok (.ireturn, 1) := by decide +kernel
theorem dL_law_2248 : decode cL_law 2248 = .ok (.goto 219, 3) := by decide +kernel
theorem dL_law_2251 : decode cL_law 2251 = .ok (.aload_n 1, 1) := by decide +kernel
theorem dL_law_2252 : decode cL_law 2252 = .ok (.aload_n 0, 1) := by decide +kernel
theorem dL_law_2253 : decode cL_law 2253 = .ok (.iload 4, 2) := by decide +kernel
theorem dL_law_2255 : decode cL_law 2255 = .ok (.iconst 1, 1) := by decide +kernel
theorem dL_law_2256 : decode cL_law 2256 = .ok (.iadd, 1) := by decide +kernel
theorem dL_law_2257 : decode cL_law 2257 = .ok (.iaload, 1) := by decide +kernel
theorem dL_law_2258 : decode cL_law 2258 = .ok (.aload_n 0, 1) := by decide +kernel
theorem dL_law_2259 : decode cL_law 2259 = .ok (.iload 4, 2) := by decide +kernel
theorem dL_law_2261 : decode cL_law 2261 = .ok (.iconst 2, 1) := by decide +kernel
theorem dL_law_2262 : decode cL_law 2262 = .ok (.iadd, 1) := by decide +kernel
theorem dL_law_2263 : decode cL_law 2263 = .ok (.iaload, 1) := by decide +kernel
theorem dL_law_2264 : decode cL_law 2264 = .ok (.aload_n 3, 1) := by decide +kernel
theorem dL_law_2265 : decode cL_law 2265 = .ok (.invokestatic 229, 3) := by decide +kernel
theorem dL_law_2268 : decode cL_law 2268 = .ok (.istore 5, 2) := by decide +kernel
theorem dL_law_2270 : decode cL_law 2270 = .ok (.aload_n 2, 1) := by decide +kernel
theorem dL_law_2271 : decode cL_law 2271 = .ok (.aload_n 0, 1) := by decide +kernel
theorem dL_law_2272 : decode cL_law 2272 = .ok (.iload 4, 2) := by decide +kernel
theorem dL_law_2274 : decode cL_law 2274 = .ok (.iconst 1, 1) := by decide +kernel
theorem dL_law_2275 : decode cL_law 2275 = .ok (.iadd, 1) := by decide +kernel
theorem dL_law_2276 : decode cL_law 2276 = .ok (.iaload, 1) := by decide +kernel
theorem dL_law_2277 : decode cL_law 2277 = .ok (.aload_n 0, 1) := by decide +kernel
theorem dL_law_2278 : decode cL_law 2278 = .ok (.iload 4, 2) := by decide +kernel
theorem dL_law_2280 : decode cL_law 2280 = .ok (.iconst 2, 1) := by decide +kernel
theorem dL_law_2281 : decode cL_law 2281 = .ok (.iadd, 1) := by decide +kernel
theorem dL_law_2282 : decode cL_law 2282 = .ok (.iaload, 1) := by decide +kernel
theorem dL_law_2283 : decode cL_law 2283 = .ok (.invokevirtual 231, 3) := by decide +kernel
theorem dL_law_2286 : decode cL_law 2286 = .ok (.istore 6, 2) := by decide +kernel
theorem dL_law_2288 : decode cL_law 2288 = .ok (.aload_n 2, 1) := by decide +kernel
theorem dL_law_2289 : decode cL_law 2289 = .ok (.invokevirtual 125, 3) := by decide +kernel
theorem dL_law_2292 : decode cL_law 2292 = .ok (.iload 5, 2) := by decide +kernel
theorem dL_law_2294 : decode cL_law 2294 = .ok (.if_icmp .eq 5, 3) := by decide +kernel
theorem dL_law_2297 : decode cL_law 2297 = .ok (.iconst 0, 1) := by decide +kernel
theorem dL_law_2298 : decode cL_law 2298 = .ok (.ireturn, 1) := by decide +kernel
theorem dL_law_2299 : decode cL_law 2299 = .ok (.iload 5, 2) := by decide +kernel
theorem dL_law_2301 : decode cL_law 2301 = .ok (.ifCond .ne 15, 3) := by decide +kernel
theorem dL_law_2304 : decode cL_law 2304 = .ok (.aload_n 3, 1) := by decide +kernel
theorem dL_law_2305 : decode cL_law 2305 = .ok (.iconst 0, 1) := by decide +kernel
theorem dL_law_2306 : decode cL_law 2306 = .ok (.laload, 1) := by decide +kernel
theorem dL_law_2307 : decode cL_law 2307 = .ok (.iload 6, 2) := by decide +kernel
theorem dL_law_2309 : decode cL_law 2309 = .ok (.i2l, 1) := by decide +kernel
theorem dL_law_2310 : decode cL_law 2310 = .ok (.lcmp, 1) := by decide +kernel
theorem dL_law_2311 : decode cL_law 2311 = .ok (.ifCond .eq 5, 3) := by decide +kernel
theorem dL_law_2314 : decode cL_law 2314 = .ok (.iconst 0, 1) := by decide +kernel
theorem dL_law_2315 : decode cL_law 2315 = .ok (.ireturn, 1) := by decide +kernel
theorem dL_law_2316 : decode cL_law 2316 = .ok (.goto 151, 3) := by decide +kernel
theorem dL_law_2319 : decode cL_law 2319 = .ok (.aload_n 1, 1) := by decide +kernel
theorem dL_law_2320 : decode cL_law 2320 = .ok (.aload_n 0, 1) := by decide +kernel
theorem dL_law_2321 : decode cL_law 2321 = .ok (.iload 4, 2) := by decide +kernel
theorem dL_law_2323 : decode cL_law 2323 = .ok (.iconst 1, 1) := by decide +kernel
theorem dL_law_2324 : decode cL_law 2324 = .ok (.iadd, 1) := by decide +kernel
theorem dL_law_2325 : decode cL_law 2325 = .ok (.iaload, 1) := by decide +kernel
theorem dL_law_2326 : decode cL_law 2326 = .ok (.aload_n 0, 1) := by decide +kernel
theorem dL_law_2327 : decode cL_law 2327 = .ok (.iload 4, 2) := by decide +kernel
theorem dL_law_2329 : decode cL_law 2329 = .ok (.iconst 2, 1) := by decide +kernel
theorem dL_law_2330 : decode cL_law 2330 = .ok (.iadd, 1) := by decide +kernel
theorem dL_law_2331 : decode cL_law 2331 = .ok (.iaload, 1) := by decide +kernel
theorem dL_law_2332 : decode cL_law 2332 = .ok (.aload_n 3, 1) := by decide +kernel
theorem dL_law_2333 : decode cL_law 2333 = .ok (.invokestatic 232, 3) := by decide +kernel
theorem dL_law_2336 : decode cL_law 2336 = .ok (.istore 5, 2) := by decide +kernel
theorem dL_law_2338 : decode cL_law 2338 = .ok (.aload_n 2, 1) := by decide +kernel
theorem dL_law_2339 : decode cL_law 2339 = .ok (.aload_n 0, 1) := by decide +kernel
theorem dL_law_2340 : decode cL_law 2340 = .ok (.iload 4, 2) := by decide +kernel
theorem dL_law_2342 : decode cL_law 2342 = .ok (.iconst 1, 1) := by decide +kernel
theorem dL_law_2343 : decode cL_law 2343 = .ok (.iadd, 1) := by decide +kernel
theorem dL_law_2344 : decode cL_law 2344 = .ok (.iaload, 1) := by decide +kernel
theorem dL_law_2345 : decode cL_law 2345 = .ok (.aload_n 0, 1) := by decide +kernel
theorem dL_law_2346 : decode cL_law 2346 = .ok (.iload 4, 2) := by decide +kernel
theorem dL_law_2348 : decode cL_law 2348 = .ok (.iconst 2, 1) := by decide +kernel
theorem dL_law_2349 : decode cL_law 2349 = .ok (.iadd, 1) := by decide +kernel
theorem dL_law_2350 : decode cL_law 2350 = .ok (.iaload, 1) := by decide +kernel
theorem dL_law_2351 : decode cL_law 2351 = .ok (.invokevirtual 234, 3) := by decide +kernel
theorem dL_law_2354 : decode cL_law 2354 = .ok (.istore 6, 2) := by decide +kernel
theorem dL_law_2356 : decode cL_law 2356 = .ok (.aload_n 2, 1) := by decide +kernel
theorem dL_law_2357 : decode cL_law 2357 = .ok (.invokevirtual 125, 3) := by decide +kernel
theorem dL_law_2360 : decode cL_law 2360 = .ok (.iload 5, 2) := by decide +kernel
theorem dL_law_2362 : decode cL_law 2362 = .ok (.if_icmp .eq 5, 3) := by decide +kernel
theorem dL_law_2365 : decode cL_law 2365 = .ok (.iconst 0, 1) := by decide +kernel
theorem dL_law_2366 : decode cL_law 2366 = .ok (.ireturn, 1) := by decide +kernel
theorem dL_law_2367 : decode cL_law 2367 = .ok (.iload 5, 2) := by decide +kernel
theorem dL_law_2369 : decode cL_law 2369 = .ok (.ifCond .ne 15, 3) := by decide +kernel
theorem dL_law_2372 : decode cL_law 2372 = .ok (.aload_n 3, 1) := by decide +kernel
theorem dL_law_2373 : decode cL_law 2373 = .ok (.iconst 0, 1) := by decide +kernel
theorem dL_law_2374 : decode cL_law 2374 = .ok (.laload, 1) := by decide +kernel
theorem dL_law_2375 : decode cL_law 2375 = .ok (.iload 6, 2) := by decide +kernel
theorem dL_law_2377 : decode cL_law 2377 = .ok (.i2l, 1) := by decide +kernel
theorem dL_law_2378 : decode cL_law 2378 = .ok (.lcmp, 1) := by decide +kernel
theorem dL_law_2379 : decode cL_law 2379 = .ok (.ifCond .eq 5, 3) := by decide +kernel
theorem dL_law_2382 : decode cL_law 2382 = .ok (.iconst 0, 1) := by decide +kernel
theorem dL_law_2383 : decode cL_law 2383 = .ok (.ireturn, 1) := by decide +kernel
theorem dL_law_2384 : decode cL_law 2384 = .ok (.goto 83, 3) := by decide +kernel
theorem dL_law_2387 : decode cL_law 2387 = .ok (.aload_n 1, 1) := by decide +kernel
theorem dL_law_2388 : decode cL_law 2388 = .ok (.aload_n 0, 1) := by decide +kernel
theorem dL_law_2389 : decode cL_law 2389 = .ok (.iload 4, 2) := by decide +kernel
theorem dL_law_2391 : decode cL_law 2391 = .ok (.iconst 1, 1) := by decide +kernel
theorem dL_law_2392 : decode cL_law 2392 = .ok (.iadd, 1) := by decide +kernel
theorem dL_law_2393 : decode cL_law 2393 = .ok (.iaload, 1) := by decide +kernel
theorem dL_law_2394 : decode cL_law 2394 = .ok (.aload_n 3, 1) := by decide +kernel
theorem dL_law_2395 : decode cL_law 2395 = .ok (.invokestatic 235, 3) := by decide +kernel
theorem dL_law_2398 : decode cL_law 2398 = .ok (.istore 5, 2) := by decide +kernel
theorem dL_law_2400 : decode cL_law 2400 = .ok (.aload_n 2, 1) := by decide +kernel
theorem dL_law_2401 : decode cL_law 2401 = .ok (.aload_n 0, 1) := by decide +kernel
theorem dL_law_2402 : decode cL_law 2402 = .ok (.iload 4, 2) := by decide +kernel
theorem dL_law_2404 : decode cL_law 2404 = .ok (.iconst 1, 1) := by decide +kernel
theorem dL_law_2405 : decode cL_law 2405 = .ok (.iadd, 1) := by decide +kernel
theorem dL_law_2406 : decode cL_law 2406 = .ok (.iaload, 1) := by decide +kernel
theorem dL_law_2407 : decode cL_law 2407 = .ok (.invokevirtual 237, 3) := by decide +kernel
theorem dL_law_2410 : decode cL_law 2410 = .ok (.istore 6, 2) := by decide +kernel
theorem dL_law_2412 : decode cL_law 2412 = .ok (.aload_n 2, 1) := by decide +kernel
theorem dL_law_2413 : decode cL_law 2413 = .ok (.invokevirtual 125, 3) := by decide +kernel
theorem dL_law_2416 : decode cL_law 2416 = .ok (.iload 5, 2) := by decide +kernel
theorem dL_law_2418 : decode cL_law 2418 = .ok (.if_icmp .eq 5, 3) := by decide +kernel
theorem dL_law_2421 : decode cL_law 2421 = .ok (.iconst 0, 1) := by decide +kernel
theorem dL_law_2422 : decode cL_law 2422 = .ok (.ireturn, 1) := by decide +kernel
theorem dL_law_2423 : decode cL_law 2423 = .ok (.iload 5, 2) := by decide +kernel
theorem dL_law_2425 : decode cL_law 2425 = .ok (.ifCond .ne 15, 3) := by decide +kernel
theorem dL_law_2428 : decode cL_law 2428 = .ok (.aload_n 3, 1) := by decide +kernel
theorem dL_law_2429 : decode cL_law 2429 = .ok (.iconst 0, 1) := by decide +kernel
theorem dL_law_2430 : decode cL_law 2430 = .ok (.laload, 1) := by decide +kernel
theorem dL_law_2431 : decode cL_law 2431 = .ok (.iload 6, 2) := by decide +kernel
theorem dL_law_2433 : decode cL_law 2433 = .ok (.i2l, 1) := by decide +kernel
theorem dL_law_2434 : decode cL_law 2434 = .ok (.lcmp, 1) := by decide +kernel
theorem dL_law_2435 : decode cL_law 2435 = .ok (.ifCond .eq 5, 3) := by decide +kernel
theorem dL_law_2438 : decode cL_law 2438 = .ok (.iconst 0, 1) := by decide +kernel
theorem dL_law_2439 : decode cL_law 2439 = .ok (.ireturn, 1) := by decide +kernel
theorem dL_law_2440 : decode cL_law 2440 = .ok (.goto 27, 3) := by decide +kernel
theorem dL_law_2443 : decode cL_law 2443 = .ok (.aload_n 1, 1) := by decide +kernel
theorem dL_law_2444 : decode cL_law 2444 = .ok (.invokevirtual 238, 3) := by decide +kernel
theorem dL_law_2447 : decode cL_law 2447 = .ok (.aload_n 2, 1) := by decide +kernel
theorem dL_law_2448 : decode cL_law 2448 = .ok (.invokevirtual 241, 3) := by decide +kernel
theorem dL_law_2451 : decode cL_law 2451 = .ok (.goto 16, 3) := by decide +kernel
theorem dL_law_2454 : decode cL_law 2454 = .ok (.aload_n 1, 1) := by decide +kernel
theorem dL_law_2455 : decode cL_law 2455 = .ok (.invokevirtual 242, 3) := by decide +kernel
theorem dL_law_2458 : decode cL_law 2458 = .ok (.aload_n 2, 1) := by decide +kernel
theorem dL_law_2459 : decode cL_law 2459 = .ok (.invokevirtual 246, 3) := by decide +kernel
theorem dL_law_2462 : decode cL_law 2462 = .ok (.if_icmp .eq 5, 3) := by decide +kernel
theorem dL_law_2465 : decode cL_law 2465 = .ok (.iconst 0, 1) := by decide +kernel
theorem dL_law_2466 : decode cL_law 2466 = .ok (.ireturn, 1) := by decide +kernel
theorem dL_law_2467 : decode cL_law 2467 = .ok (.iinc 4 6, 3) := by decide +kernel
theorem dL_law_2470 : decode cL_law 2470 = .ok (.goto (-2447), 3) := by decide +kernel
theorem dL_law_2473 : decode cL_law 2473 = .ok (.iconst 1, 1) := by decide +kernel
theorem dL_law_2474 : decode cL_law 2474 = .ok (.ireturn, 1) := by decide +kernel
