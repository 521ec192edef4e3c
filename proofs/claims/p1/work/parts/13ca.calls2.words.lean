/-! words of the tables that are used, by their places; decode rows; classes -/
theorem m_609 : Cond.methodLink RX11 154 yX10_hasWalker ∈ BASE := bmem 609 (by decide +kernel) rfl
theorem m_610 : Cond.instanceMethod yX10_hasWalker ∈ BASE := bmem 610 (by decide +kernel) rfl
theorem m_611 : Cond.selects yX10_hasWalker.cls yX10_hasWalker yX10_hasWalker ∈ BASE := bmem 611 (by decide +kernel) rfl
theorem m_612 : Cond.code yX10_hasWalker cX10_hasWalker 2 (some .boolean) ∈ BASE := bmem 612 (by decide +kernel) rfl
theorem kV_X10_hasWalker : KV yX10_hasWalker cX10_hasWalker 2 (some .boolean) 1 := ⟨m_610, m_611, m_80, m_612, by decide +kernel, by decide +kernel, by decide +kernel⟩
/-! decode rows -/
theorem dX11_alike_0 : decode cX11_alike 0 = .ok (.aload_n 0, 1) := by decide +kernel
theorem dX11_alike_1 : decode cX11_alike 1 = .ok (.getfield 10, 3) := by decide +kernel
theorem dX11_alike_4 : decode cX11_alike 4 = .ok (.iload_n 1, 1) := by decide +kernel
theorem dX11_alike_5 : decode cX11_alike 5 = .ok (.invokevirtual 154, 3) := by decide +kernel
theorem dX11_alike_8 : decode cX11_alike 8 = .ok (.ifCond .eq 18, 3) := by decide +kernel
theorem dX11_alike_26 : decode cX11_alike 26 = .ok (.aload_n 0, 1) := by decide +kernel
theorem dX11_alike_27 : decode cX11_alike 27 = .ok (.iconst 1, 1) := by decide +kernel
theorem dX11_alike_28 : decode cX11_alike 28 = .ok (.invokevirtual 67, 3) := by decide +kernel
theorem dX11_alike_31 : decode cX11_alike 31 = .ok (.ireturn, 1) := by decide +kernel
theorem dX11_as_0 : decode cX11_as 0 = .ok (.aload_n 0, 1) := by decide +kernel
theorem dX11_as_1 : decode cX11_as 1 = .ok (.getfield 10, 3) := by decide +kernel
theorem dX11_as_4 : decode cX11_as 4 = .ok (.iload_n 1, 1) := by decide +kernel
theorem dX11_as_5 : decode cX11_as 5 = .ok (.invokevirtual 154, 3) := by decide +kernel
theorem dX11_as_8 : decode cX11_as 8 = .ok (.ifCond .eq 10, 3) := by decide +kernel
theorem dX11_as_18 : decode cX11_as 18 = .ok (.aload_n 0, 1) := by decide +kernel
theorem dX11_as_19 : decode cX11_as 19 = .ok (.iconst 1, 1) := by decide +kernel
theorem dX11_as_20 : decode cX11_as 20 = .ok (.invokevirtual 67, 3) := by decide +kernel
theorem dX11_as_23 : decode cX11_as 23 = .ok (.ireturn, 1) := by decide +kernel
theorem dX11_click_0 : decode cX11_click 0 = .ok (.aload_n 0, 1) := by decide +kernel
theorem dX11_click_1 : decode cX11_click 1 = .ok (.getfield 10, 3) := by decide +kernel
theorem dX11_click_4 : decode cX11_click 4 = .ok (.iload_n 1, 1) := by decide +kernel
theorem dX11_click_5 : decode cX11_click 5 = .ok (.invokevirtual 154, 3) := by decide +kernel
theorem dX11_click_8 : decode cX11_click 8 = .ok (.ifCond .ne 9, 3) := by decide +kernel
theorem dX11_click_11 : decode cX11_click 11 = .ok (.aload_n 0, 1) := by decide +kernel
theorem dX11_click_12 : decode cX11_click 12 = .ok (.iconst 1, 1) := by decide +kernel
theorem dX11_click_13 : decode cX11_click 13 = .ok (.invokevirtual 67, 3) := by decide +kernel
theorem dX11_click_16 : decode cX11_click 16 = .ok (.ireturn, 1) := by decide +kernel
theorem dX11_echo_0 : decode cX11_echo 0 = .ok (.aload_n 0, 1) := by decide +kernel
theorem dX11_echo_1 : decode cX11_echo 1 = .ok (.getfield 10, 3) := by decide +kernel
theorem dX11_echo_4 : decode cX11_echo 4 = .ok (.iload_n 1, 1) := by decide +kernel
theorem dX11_echo_5 : decode cX11_echo 5 = .ok (.invokevirtual 154, 3) := by decide +kernel
theorem dX11_echo_8 : decode cX11_echo 8 = .ok (.ifCond .eq 27, 3) := by decide +kernel
theorem dX11_echo_35 : decode cX11_echo 35 = .ok (.aload_n 0, 1) := by decide +kernel
theorem dX11_echo_36 : decode cX11_echo 36 = .ok (.iconst 1, 1) := by decide +kernel
theorem dX11_echo_37 : decode cX11_echo 37 = .ok (.invokevirtual 67, 3) := by decide +kernel
theorem dX11_echo_40 : decode cX11_echo 40 = .ok (.ireturn, 1) := by decide +kernel
theorem dX11_face_0 : decode cX11_face 0 = .ok (.aload_n 0, 1) := by decide +kernel
theorem dX11_face_1 : decode cX11_face 1 = .ok (.getfield 10, 3) := by decide +kernel
theorem dX11_face_4 : decode cX11_face 4 = .ok (.iload_n 1, 1) := by decide +kernel
theorem dX11_face_5 : decode cX11_face 5 = .ok (.invokevirtual 154, 3) := by decide +kernel
theorem dX11_face_8 : decode cX11_face 8 = .ok (.ifCond .eq 10, 3) := by decide +kernel
theorem dX11_face_18 : decode cX11_face 18 = .ok (.aload_n 0, 1) := by decide +kernel
theorem dX11_face_19 : decode cX11_face 19 = .ok (.iconst 1, 1) := by decide +kernel
theorem dX11_face_20 : decode cX11_face 20 = .ok (.invokevirtual 67, 3) := by decide +kernel
theorem dX11_face_23 : decode cX11_face 23 = .ok (.ireturn, 1) := by decide +kernel
theorem dX11_farthest_0 : decode cX11_farthest 0 = .ok (.aload_n 0, 1) := by decide +kernel
theorem dX11_farthest_1 : decode cX11_farthest 1 = .ok (.getfield 10, 3) := by decide +kernel
theorem dX11_farthest_4 : decode cX11_farthest 4 = .ok (.iload_n 1, 1) := by decide +kernel
theorem dX11_farthest_5 : decode cX11_farthest 5 = .ok (.invokevirtual 154, 3) := by decide +kernel
theorem dX11_farthest_8 : decode cX11_farthest 8 = .ok (.ifCond .eq 17, 3) := by decide +kernel
theorem dX11_farthest_25 : decode cX11_farthest 25 = .ok (.aload_n 0, 1) := by decide +kernel
theorem dX11_farthest_26 : decode cX11_farthest 26 = .ok (.iconst 1, 1) := by decide +kernel
theorem dX11_farthest_27 : decode cX11_farthest 27 = .ok (.invokevirtual 67, 3) := by decide +kernel
theorem dX11_farthest_30 : decode cX11_farthest 30 = .ok (.ireturn, 1) := by decide +kernel
theorem dX11_goes_0 : decode cX11_goes 0 = .ok (.aload_n 0, 1) := by decide +kernel
theorem dX11_goes_1 : decode cX11_goes 1 = .ok (.getfield 10, 3) := by decide +kernel
theorem dX11_goes_4 : decode cX11_goes 4 = .ok (.iload_n 1, 1) := by decide +kernel
theorem dX11_goes_5 : decode cX11_goes 5 = .ok (.invokevirtual 154, 3) := by decide +kernel
theorem dX11_goes_8 : decode cX11_goes 8 = .ok (.ifCond .ne 9, 3) := by decide +kernel
theorem dX11_goes_11 : decode cX11_goes 11 = .ok (.aload_n 0, 1) := by decide +kernel
theorem dX11_goes_12 : decode cX11_goes 12 = .ok (.iconst 1, 1) := by decide +kernel
theorem dX11_goes_13 : decode cX11_goes 13 = .ok (.invokevirtual 67, 3) := by decide +kernel
theorem dX11_goes_16 : decode cX11_goes 16 = .ok (.ireturn, 1) := by decide +kernel
theorem dX11_habit_0 : decode cX11_habit 0 = .ok (.aload_n 0, 1) := by decide +kernel
theorem dX11_habit_1 : decode cX11_habit 1 = .ok (.getfield 10, 3) := by decide +kernel
theorem dX11_habit_4 : decode cX11_habit 4 = .ok (.iload_n 1, 1) := by decide +kernel
theorem dX11_habit_5 : decode cX11_habit 5 = .ok (.invokevirtual 154, 3) := by decide +kernel
theorem dX11_habit_8 : decode cX11_habit 8 = .ok (.ifCond .eq 22, 3) := by decide +kernel
theorem dX11_habit_30 : decode cX11_habit 30 = .ok (.aload_n 0, 1) := by decide +kernel
theorem dX11_habit_31 : decode cX11_habit 31 = .ok (.iconst 1, 1) := by decide +kernel
theorem dX11_habit_32 : decode cX11_habit 32 = .ok (.invokevirtual 67, 3) := by decide +kernel
theorem dX11_habit_35 : decode cX11_habit 35 = .ok (.ireturn, 1) := by decide +kernel
theorem dX11_head_0 : decode cX11_head 0 = .ok (.aload_n 0, 1) := by decide +kernel
theorem dX11_head_1 : decode cX11_head 1 = .ok (.getfield 10, 3) := by decide +kernel
theorem dX11_head_4 : decode cX11_head 4 = .ok (.iload_n 1, 1) := by decide +kernel
theorem dX11_head_5 : decode cX11_head 5 = .ok (.invokevirtual 154, 3) := by decide +kernel
theorem dX11_head_8 : decode cX11_head 8 = .ok (.ifCond .eq 19, 3) := by decide +kernel
theorem dX11_head_27 : decode cX11_head 27 = .ok (.aload_n 0, 1) := by decide +kernel
theorem dX11_head_28 : decode cX11_head 28 = .ok (.iconst 1, 1) := by decide +kernel
theorem dX11_head_29 : decode cX11_head 29 = .ok (.invokevirtual 67, 3) := by decide +kernel
theorem dX11_head_32 : decode cX11_head 32 = .ok (.ireturn, 1) := by decide +kernel
theorem dX11_heads_0 : decode cX11_heads 0 = .ok (.aload_n 0, 1) := by decide +kernel
theorem dX11_heads_1 : decode cX11_heads 1 = .ok (.getfield 10, 3) := by decide +kernel
theorem dX11_heads_4 : decode cX11_heads 4 = .ok (.iload_n 1, 1) := by decide +kernel
theorem dX11_heads_5 : decode cX11_heads 5 = .ok (.invokevirtual 154, 3) := by decide +kernel
theorem dX11_heads_8 : decode cX11_heads 8 = .ok (.ifCond .eq 12, 3) := by decide +kernel
theorem dX11_heads_20 : decode cX11_heads 20 = .ok (.aload_n 0, 1) := by decide +kernel
theorem dX11_heads_21 : decode cX11_heads 21 = .ok (.iconst 1, 1) := by decide +kernel
theorem dX11_heads_22 : decode cX11_heads 22 = .ok (.invokevirtual 67, 3) := by decide +kernel
theorem dX11_heads_25 : decode cX11_heads 25 = .ok (.ireturn, 1) := by decide +kernel
theorem dX11_least_0 : decode cX11_least 0 = .ok (.aload_n 0, 1) := by decide +kernel
theorem dX11_least_1 : decode cX11_least 1 = .ok (.getfield 10, 3) := by decide +kernel
theorem dX11_least_4 : decode cX11_least 4 = .ok (.iload_n 1, 1) := by decide +kernel
theorem dX11_least_5 : decode cX11_least 5 = .ok (.invokevirtual 154, 3) := by decide +kernel
theorem dX11_least_8 : decode cX11_least 8 = .ok (.ifCond .eq 30, 3) := by decide +kernel
theorem dX11_least_38 : decode cX11_least 38 = .ok (.aload_n 0, 1) := by decide +kernel
theorem dX11_least_39 : decode cX11_least 39 = .ok (.iconst 1, 1) := by decide +kernel
theorem dX11_least_40 : decode cX11_least 40 = .ok (.invokevirtual 67, 3) := by decide +kernel
theorem dX11_least_43 : decode cX11_least 43 = .ok (.ireturn, 1) := by decide +kernel
theorem dX11_posts_0 : decode cX11_posts 0 = .ok (.aload_n 0, 1) := by decide +kernel
theorem dX11_posts_1 : decode cX11_posts 1 = .ok (.getfield 10, 3) := by decide +kernel
theorem dX11_posts_4 : decode cX11_posts 4 = .ok (.iload_n 1, 1) := by decide +kernel
theorem dX11_posts_5 : decode cX11_posts 5 = .ok (.invokevirtual 154, 3) := by decide +kernel
theorem dX11_posts_8 : decode cX11_posts 8 = .ok (.ifCond .eq 27, 3) := by decide +kernel
theorem dX11_posts_35 : decode cX11_posts 35 = .ok (.aload_n 0, 1) := by decide +kernel
theorem dX11_posts_36 : decode cX11_posts 36 = .ok (.iconst 1, 1) := by decide +kernel
theorem dX11_posts_37 : decode cX11_posts 37 = .ok (.invokevirtual 67, 3) := by decide +kernel
theorem dX11_posts_40 : decode cX11_posts 40 = .ok (.ireturn, 1) := by decide +kernel
theorem dX11_safe_0 : decode cX11_safe 0 = .ok (.aload_n 0, 1) := by decide +kernel
theorem dX11_safe_1 : decode cX11_safe 1 = .ok (.getfield 10, 3) := by decide +kernel
theorem dX11_safe_4 : decode cX11_safe 4 = .ok (.iload_n 1, 1) := by decide +kernel
theorem dX11_safe_5 : decode cX11_safe 5 = .ok (.invokevirtual 154, 3) := by decide +kernel
theorem dX11_safe_8 : decode cX11_safe 8 = .ok (.ifCond .ne 9, 3) := by decide +kernel
theorem dX11_safe_11 : decode cX11_safe 11 = .ok (.aload_n 0, 1) := by decide +kernel
theorem dX11_safe_12 : decode cX11_safe 12 = .ok (.iconst 1, 1) := by decide +kernel
theorem dX11_safe_13 : decode cX11_safe 13 = .ok (.invokevirtual 67, 3) := by decide +kernel
theorem dX11_safe_16 : decode cX11_safe 16 = .ok (.ireturn, 1) := by decide +kernel
theorem dX11_spots_0 : decode cX11_spots 0 = .ok (.aload_n 0, 1) := by decide +kernel
theorem dX11_spots_1 : decode cX11_spots 1 = .ok (.getfield 10, 3) := by decide +kernel
theorem dX11_spots_4 : decode cX11_spots 4 = .ok (.iload_n 1, 1) := by decide +kernel
theorem dX11_spots_5 : decode cX11_spots 5 = .ok (.invokevirtual 154, 3) := by decide +kernel
theorem dX11_spots_8 : decode cX11_spots 8 = .ok (.ifCond .eq 29, 3) := by decide +kernel
theorem dX11_spots_37 : decode cX11_spots 37 = .ok (.aload_n 0, 1) := by decide +kernel
theorem dX11_spots_38 : decode cX11_spots 38 = .ok (.iconst 1, 1) := by decide +kernel
theorem dX11_spots_39 : decode cX11_spots 39 = .ok (.invokevirtual 67, 3) := by decide +kernel
theorem dX11_spots_42 : decode cX11_spots 42 = .ok (.ireturn, 1) := by decide +kernel
theorem dX11_voice_0 : decode cX11_voice 0 = .ok (.aload_n 0, 1) := by decide +kernel
theorem dX11_voice_1 : decode cX11_voice 1 = .ok (.getfield 10, 3) := by decide +kernel
theorem dX11_voice_4 : decode cX11_voice 4 = .ok (.iload_n 1, 1) := by decide +kernel
theorem dX11_voice_5 : decode cX11_voice 5 = .ok (.invokevirtual 154, 3) := by decide +kernel
theorem dX11_voice_8 : decode cX11_voice 8 = .ok (.ifCond .eq 12, 3) := by decide +kernel
theorem dX11_voice_20 : decode cX11_voice 20 = .ok (.aload_n 0, 1) := by decide +kernel
theorem dX11_voice_21 : decode cX11_voice 21 = .ok (.iconst 1, 1) := by decide +kernel
theorem dX11_voice_22 : decode cX11_voice 22 = .ok (.invokevirtual 67, 3) := by decide +kernel
theorem dX11_voice_25 : decode cX11_voice 25 = .ok (.ireturn, 1) := by decide +kernel
theorem dX11_walkerIs_0 : decode cX11_walkerIs 0 = .ok (.aload_n 0, 1) := by decide +kernel
theorem dX11_walkerIs_1 : decode cX11_walkerIs 1 = .ok (.getfield 10, 3) := by decide +kernel
theorem dX11_walkerIs_4 : decode cX11_walkerIs 4 = .ok (.iload_n 1, 1) := by decide +kernel
theorem dX11_walkerIs_5 : decode cX11_walkerIs 5 = .ok (.invokevirtual 154, 3) := by decide +kernel
theorem dX11_walkerIs_8 : decode cX11_walkerIs 8 = .ok (.ifCond .eq 13, 3) := by decide +kernel
theorem dX11_walkerIs_21 : decode cX11_walkerIs 21 = .ok (.aload_n 0, 1) := by decide +kernel
theorem dX11_walkerIs_22 : decode cX11_walkerIs 22 = .ok (.iconst 1, 1) := by decide +kernel
theorem dX11_walkerIs_23 : decode cX11_walkerIs 23 = .ok (.invokevirtual 67, 3) := by decide +kernel
theorem dX11_walkerIs_26 : decode cX11_walkerIs 26 = .ok (.ireturn, 1) := by decide +kernel
theorem dX11_way_0 : decode cX11_way 0 = .ok (.aload_n 0, 1) := by decide +kernel
theorem dX11_way_1 : decode cX11_way 1 = .ok (.getfield 10, 3) := by decide +kernel
theorem dX11_way_4 : decode cX11_way 4 = .ok (.iload_n 1, 1) := by decide +kernel
theorem dX11_way_5 : decode cX11_way 5 = .ok (.invokevirtual 154, 3) := by decide +kernel
theorem dX11_way_8 : decode cX11_way 8 = .ok (.ifCond .eq 15, 3) := by decide +kernel
theorem dX11_way_23 : decode cX11_way 23 = .ok (.aload_n 0, 1) := by decide +kernel
theorem dX11_way_24 : decode cX11_way 24 = .ok (.iconst 1, 1) := by decide +kernel
theorem dX11_way_25 : decode cX11_way 25 = .ok (.invokevirtual 67, 3) := by decide +kernel
theorem dX11_way_28 : decode cX11_way 28 = .ok (.ireturn, 1) := by decide +kernel
