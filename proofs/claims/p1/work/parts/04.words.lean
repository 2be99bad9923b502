theorem wd_objInit : Cond.code objectInit ⟨#[0xb1]⟩ 1 none ∈ wG := wG_of 147 (by decide +kernel) (by decide +kernel)
theorem wd_163 : Cond.fieldLink "MineAir" 317 "MineAir$Gear" "doors" "I" ∈ wG := wG_of 163 (by decide +kernel) (by decide +kernel)
theorem wd_182 : Cond.fieldLink "MineAir" 325 "MineAir$Gear" "fans" "I" ∈ wG := wG_of 182 (by decide +kernel) (by decide +kernel)
theorem wd_243 : Cond.fieldLink "MineAir" 121 "MineAir$Book" "ways" "I" ∈ wG := wG_of 243 (by decide +kernel) (by decide +kernel)
theorem wd_299 : Cond.fieldLink "MineAir" 313 "MineAir$Book" "gear" "LMineAir$Gear;" ∈ wG := wG_of 299 (by decide +kernel) (by decide +kernel)
theorem wd_614 : Cond.fieldLink "MineAir" 111 "MineAir$Flight" "men" "I" ∈ wG := wG_of 614 (by decide +kernel) (by decide +kernel)
theorem wd_672 : Cond.fieldLink "MineAir" 16 "MineAir" "book" "LMineAir$Book;" ∈ wG := wG_of 672 (by decide +kernel) (by decide +kernel)
theorem wd_677 : Cond.fieldLink "MineAir" 65 "MineAir" "flight" "LMineAir$Flight;" ∈ wG := wG_of 677 (by decide +kernel) (by decide +kernel)
theorem wd_679 : Cond.fieldLink "MineAir" 127 "MineAir" "trouble" "I" ∈ wG := wG_of 679 (by decide +kernel) (by decide +kernel)
theorem dX11_accept_0 : decode cX11_accept 0 = .ok (.aload_n 0, 1) := by decide +kernel
theorem dX11_accept_1 : decode cX11_accept 1 = .ok (.iconst 0, 1) := by decide +kernel
theorem dX11_accept_2 : decode cX11_accept 2 = .ok (.putfield 127, 3) := by decide +kernel
theorem dX11_accept_5 : decode cX11_accept 5 = .ok (.iload_n 1, 1) := by decide +kernel
theorem dX11_accept_6 : decode cX11_accept 6 = .ok (.ireturn, 1) := by decide +kernel
theorem dX11_allow_0 : decode cX11_allow 0 = .ok (.aload_n 0, 1) := by decide +kernel
theorem dX11_allow_1 : decode cX11_allow 1 = .ok (.iconst 0, 1) := by decide +kernel
theorem dX11_allow_2 : decode cX11_allow 2 = .ok (.putfield 127, 3) := by decide +kernel
theorem dX11_allow_5 : decode cX11_allow 5 = .ok (.iconst 1, 1) := by decide +kernel
theorem dX11_allow_6 : decode cX11_allow 6 = .ok (.ireturn, 1) := by decide +kernel
theorem dX11_deny_0 : decode cX11_deny 0 = .ok (.aload_n 0, 1) := by decide +kernel
theorem dX11_deny_1 : decode cX11_deny 1 = .ok (.iload_n 1, 1) := by decide +kernel
theorem dX11_deny_2 : decode cX11_deny 2 = .ok (.putfield 127, 3) := by decide +kernel
theorem dX11_deny_5 : decode cX11_deny 5 = .ok (.iconst 0, 1) := by decide +kernel
theorem dX11_deny_6 : decode cX11_deny 6 = .ok (.ireturn, 1) := by decide +kernel
theorem dX11_isBooked_0 : decode cX11_isBooked 0 = .ok (.aload_n 0, 1) := by decide +kernel
theorem dX11_isBooked_1 : decode cX11_isBooked 1 = .ok (.getfield 16, 3) := by decide +kernel
theorem dX11_isBooked_4 : decode cX11_isBooked 4 = .ok (.getfield 121, 3) := by decide +kernel
theorem dX11_isBooked_7 : decode cX11_isBooked 7 = .ok (.ifCond .le 7, 3) := by decide +kernel
theorem dX11_isBooked_14 : decode cX11_isBooked 14 = .ok (.iconst 0, 1) := by decide +kernel
theorem dX11_isBooked_15 : decode cX11_isBooked 15 = .ok (.ireturn, 1) := by decide +kernel
theorem dX11_isDoor_0 : decode cX11_isDoor 0 = .ok (.iload_n 1, 1) := by decide +kernel
theorem dX11_isDoor_1 : decode cX11_isDoor 1 = .ok (.ifCond .lt 21, 3) := by decide +kernel
theorem dX11_isDoor_4 : decode cX11_isDoor 4 = .ok (.iload_n 1, 1) := by decide +kernel
theorem dX11_isDoor_5 : decode cX11_isDoor 5 = .ok (.aload_n 0, 1) := by decide +kernel
theorem dX11_isDoor_6 : decode cX11_isDoor 6 = .ok (.getfield 16, 3) := by decide +kernel
theorem dX11_isDoor_9 : decode cX11_isDoor 9 = .ok (.getfield 313, 3) := by decide +kernel
theorem dX11_isDoor_12 : decode cX11_isDoor 12 = .ok (.getfield 317, 3) := by decide +kernel
theorem dX11_isDoor_15 : decode cX11_isDoor 15 = .ok (.if_icmp .ge 7, 3) := by decide +kernel
theorem dX11_isDoor_22 : decode cX11_isDoor 22 = .ok (.iconst 0, 1) := by decide +kernel
theorem dX11_isDoor_23 : decode cX11_isDoor 23 = .ok (.ireturn, 1) := by decide +kernel
theorem dX11_isFan_0 : decode cX11_isFan 0 = .ok (.iload_n 1, 1) := by decide +kernel
theorem dX11_isFan_1 : decode cX11_isFan 1 = .ok (.ifCond .lt 21, 3) := by decide +kernel
theorem dX11_isFan_4 : decode cX11_isFan 4 = .ok (.iload_n 1, 1) := by decide +kernel
theorem dX11_isFan_5 : decode cX11_isFan 5 = .ok (.aload_n 0, 1) := by decide +kernel
theorem dX11_isFan_6 : decode cX11_isFan 6 = .ok (.getfield 16, 3) := by decide +kernel
theorem dX11_isFan_9 : decode cX11_isFan 9 = .ok (.getfield 313, 3) := by decide +kernel
theorem dX11_isFan_12 : decode cX11_isFan 12 = .ok (.getfield 325, 3) := by decide +kernel
theorem dX11_isFan_15 : decode cX11_isFan 15 = .ok (.if_icmp .ge 7, 3) := by decide +kernel
theorem dX11_isFan_22 : decode cX11_isFan 22 = .ok (.iconst 0, 1) := by decide +kernel
theorem dX11_isFan_23 : decode cX11_isFan 23 = .ok (.ireturn, 1) := by decide +kernel
theorem dX11_isMan_0 : decode cX11_isMan 0 = .ok (.iload_n 1, 1) := by decide +kernel
theorem dX11_isMan_1 : decode cX11_isMan 1 = .ok (.ifCond .lt 18, 3) := by decide +kernel
theorem dX11_isMan_4 : decode cX11_isMan 4 = .ok (.iload_n 1, 1) := by decide +kernel
theorem dX11_isMan_5 : decode cX11_isMan 5 = .ok (.aload_n 0, 1) := by decide +kernel
theorem dX11_isMan_6 : decode cX11_isMan 6 = .ok (.getfield 65, 3) := by decide +kernel
theorem dX11_isMan_9 : decode cX11_isMan 9 = .ok (.getfield 111, 3) := by decide +kernel
theorem dX11_isMan_12 : decode cX11_isMan 12 = .ok (.if_icmp .ge 7, 3) := by decide +kernel
theorem dX11_isMan_19 : decode cX11_isMan 19 = .ok (.iconst 0, 1) := by decide +kernel
theorem dX11_isMan_20 : decode cX11_isMan 20 = .ok (.ireturn, 1) := by decide +kernel
theorem dX11_isWay_0 : decode cX11_isWay 0 = .ok (.iload_n 1, 1) := by decide +kernel
theorem dX11_isWay_1 : decode cX11_isWay 1 = .ok (.ifCond .lt 18, 3) := by decide +kernel
theorem dX11_isWay_4 : decode cX11_isWay 4 = .ok (.iload_n 1, 1) := by decide +kernel
theorem dX11_isWay_5 : decode cX11_isWay 5 = .ok (.aload_n 0, 1) := by decide +kernel
theorem dX11_isWay_6 : decode cX11_isWay 6 = .ok (.getfield 16, 3) := by decide +kernel
theorem dX11_isWay_9 : decode cX11_isWay 9 = .ok (.getfield 121, 3) := by decide +kernel
theorem dX11_isWay_12 : decode cX11_isWay 12 = .ok (.if_icmp .ge 7, 3) := by decide +kernel
theorem dX11_isWay_19 : decode cX11_isWay 19 = .ok (.iconst 0, 1) := by decide +kernel
theorem dX11_isWay_20 : decode cX11_isWay 20 = .ok (.ireturn, 1) := by decide +kernel
theorem dX11_refuse_0 : decode cX11_refuse 0 = .ok (.aload_n 0, 1) := by decide +kernel
theorem dX11_refuse_1 : decode cX11_refuse 1 = .ok (.iload_n 1, 1) := by decide +kernel
theorem dX11_refuse_2 : decode cX11_refuse 2 = .ok (.putfield 127, 3) := by decide +kernel
theorem dX11_refuse_5 : decode cX11_refuse 5 = .ok (.iconst (-1), 1) := by decide +kernel
theorem dX11_refuse_6 : decode cX11_refuse 6 = .ok (.ireturn, 1) := by decide +kernel
