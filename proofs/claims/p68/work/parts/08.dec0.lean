theorem dX0_init_0 : decode cX0_init 0 = .ok (.aload_n 0, 1) := by decide +kernel
theorem dX0_init_1 : decode cX0_init 1 = .ok (.invokespecial 3, 3) := by decide +kernel
theorem dX0_init_4 : decode cX0_init 4 = .ok (.aload_n 0, 1) := by decide +kernel
theorem dX0_init_5 : decode cX0_init 5 = .ok (.bipush 60, 2) := by decide +kernel
theorem dX0_init_7 : decode cX0_init 7 = .ok (.newarray .int, 2) := by decide +kernel
theorem dX0_init_9 : decode cX0_init 9 = .ok (.putfield 9, 3) := by decide +kernel
theorem dX0_init_12 : decode cX0_init 12 = .ok (.aload_n 0, 1) := by decide +kernel
theorem dX0_init_13 : decode cX0_init 13 = .ok (.bipush 60, 2) := by decide +kernel
theorem dX0_init_15 : decode cX0_init 15 = .ok (.newarray .int, 2) := by decide +kernel
theorem dX0_init_17 : decode cX0_init 17 = .ok (.putfield 15, 3) := by decide +kernel
theorem dX0_init_20 : decode cX0_init 20 = .ok (.aload_n 0, 1) := by decide +kernel
theorem dX0_init_21 : decode cX0_init 21 = .ok (.bipush 60, 2) := by decide +kernel
theorem dX0_init_23 : decode cX0_init 23 = .ok (.newarray .int, 2) := by decide +kernel
theorem dX0_init_25 : decode cX0_init 25 = .ok (.putfield 18, 3) := by decide +kernel
theorem dX0_init_28 : decode cX0_init 28 = .ok (.aload_n 0, 1) := by decide +kernel
theorem dX0_init_29 : decode cX0_init 29 = .ok (.bipush 60, 2) := by decide +kernel
theorem dX0_init_31 : decode cX0_init 31 = .ok (.newarray .int, 2) := by decide +kernel
theorem dX0_init_33 : decode cX0_init 33 = .ok (.putfield 21, 3) := by decide +kernel
theorem dX0_init_36 : decode cX0_init 36 = .ok (.aload_n 0, 1) := by decide +kernel
theorem dX0_init_37 : decode cX0_init 37 = .ok (.bipush 60, 2) := by decide +kernel
theorem dX0_init_39 : decode cX0_init 39 = .ok (.newarray .int, 2) := by decide +kernel
theorem dX0_init_41 : decode cX0_init 41 = .ok (.putfield 24, 3) := by decide +kernel
theorem dX0_init_44 : decode cX0_init 44 = .ok (.return_, 1) := by decide +kernel
theorem dX0_putSign_0 : decode cX0_putSign 0 = .ok (.aload_n 0, 1) := by decide +kernel
theorem dX0_putSign_1 : decode cX0_putSign 1 = .ok (.getfield 27, 3) := by decide +kernel
theorem dX0_putSign_4 : decode cX0_putSign 4 = .ok (.aload_n 0, 1) := by decide +kernel
theorem dX0_putSign_5 : decode cX0_putSign 5 = .ok (.getfield 9, 3) := by decide +kernel
theorem dX0_putSign_8 : decode cX0_putSign 8 = .ok (.arraylength, 1) := by decide +kernel
theorem dX0_putSign_9 : decode cX0_putSign 9 = .ok (.if_icmp .ge 25, 3) := by decide +kernel
theorem dX0_putSign_12 : decode cX0_putSign 12 = .ok (.aload_n 0, 1) := by decide +kernel
theorem dX0_putSign_13 : decode cX0_putSign 13 = .ok (.getfield 9, 3) := by decide +kernel
theorem dX0_putSign_16 : decode cX0_putSign 16 = .ok (.aload_n 0, 1) := by decide +kernel
theorem dX0_putSign_17 : decode cX0_putSign 17 = .ok (.getfield 27, 3) := by decide +kernel
theorem dX0_putSign_20 : decode cX0_putSign 20 = .ok (.iload_n 1, 1) := by decide +kernel
theorem dX0_putSign_21 : decode cX0_putSign 21 = .ok (.invokestatic 31, 3) := by decide +kernel
theorem dX0_putSign_24 : decode cX0_putSign 24 = .ok (.aload_n 0, 1) := by decide +kernel
theorem dX0_putSign_25 : decode cX0_putSign 25 = .ok (.dup, 1) := by decide +kernel
theorem dX0_putSign_26 : decode cX0_putSign 26 = .ok (.getfield 27, 3) := by decide +kernel
theorem dX0_putSign_29 : decode cX0_putSign 29 = .ok (.iconst 1, 1) := by decide +kernel
theorem dX0_putSign_30 : decode cX0_putSign 30 = .ok (.iadd, 1) := by decide +kernel
theorem dX0_putSign_31 : decode cX0_putSign 31 = .ok (.putfield 27, 3) := by decide +kernel
theorem dX0_putSign_34 : decode cX0_putSign 34 = .ok (.return_, 1) := by decide +kernel
theorem dX0_readToError_0 : decode cX0_readToError 0 = .ok (.aload_n 0, 1) := by decide +kernel
theorem dX0_readToError_1 : decode cX0_readToError 1 = .ok (.iconst 0, 1) := by decide +kernel
theorem dX0_readToError_2 : decode cX0_readToError 2 = .ok (.putfield 35, 3) := by decide +kernel
theorem dX0_readToError_5 : decode cX0_readToError 5 = .ok (.aload_n 0, 1) := by decide +kernel
theorem dX0_readToError_6 : decode cX0_readToError 6 = .ok (.iconst 0, 1) := by decide +kernel
theorem dX0_readToError_7 : decode cX0_readToError 7 = .ok (.putfield 38, 3) := by decide +kernel
theorem dX0_readToError_10 : decode cX0_readToError 10 = .ok (.iconst 0, 1) := by decide +kernel
theorem dX0_readToError_11 : decode cX0_readToError 11 = .ok (.istore_n 1, 1) := by decide +kernel
theorem dX0_readToError_12 : decode cX0_readToError 12 = .ok (.iload_n 1, 1) := by decide +kernel
theorem dX0_readToError_13 : decode cX0_readToError 13 = .ok (.aload_n 0, 1) := by decide +kernel
theorem dX0_readToError_14 : decode cX0_readToError 14 = .ok (.getfield 27, 3) := by decide +kernel
theorem dX0_readToError_17 : decode cX0_readToError 17 = .ok (.if_icmp .ge 26, 3) := by decide +kernel
theorem dX0_readToError_20 : decode cX0_readToError 20 = .ok (.aload_n 0, 1) := by decide +kernel
theorem dX0_readToError_21 : decode cX0_readToError 21 = .ok (.aload_n 0, 1) := by decide +kernel
theorem dX0_readToError_22 : decode cX0_readToError 22 = .ok (.getfield 9, 3) := by decide +kernel
theorem dX0_readToError_25 : decode cX0_readToError 25 = .ok (.iload_n 1, 1) := by decide +kernel
theorem dX0_readToError_26 : decode cX0_readToError 26 = .ok (.invokestatic 41, 3) := by decide +kernel
theorem dX0_readToError_29 : decode cX0_readToError 29 = .ok (.invokevirtual 45, 3) := by decide +kernel
theorem dX0_readToError_32 : decode cX0_readToError 32 = .ok (.ifCond .ne 5, 3) := by decide +kernel
theorem dX0_readToError_35 : decode cX0_readToError 35 = .ok (.iload_n 1, 1) := by decide +kernel
theorem dX0_readToError_36 : decode cX0_readToError 36 = .ok (.ireturn, 1) := by decide +kernel
theorem dX0_readToError_37 : decode cX0_readToError 37 = .ok (.iinc 1 1, 3) := by decide +kernel
theorem dX0_readToError_40 : decode cX0_readToError 40 = .ok (.goto (-28), 3) := by decide +kernel
theorem dX0_readToError_43 : decode cX0_readToError 43 = .ok (.aload_n 0, 1) := by decide +kernel
theorem dX0_readToError_44 : decode cX0_readToError 44 = .ok (.getfield 27, 3) := by decide +kernel
theorem dX0_readToError_47 : decode cX0_readToError 47 = .ok (.ireturn, 1) := by decide +kernel
theorem dX0_readWhole_0 : decode cX0_readWhole 0 = .ok (.aload_n 0, 1) := by decide +kernel
theorem dX0_readWhole_1 : decode cX0_readWhole 1 = .ok (.invokevirtual 49, 3) := by decide +kernel
theorem dX0_readWhole_4 : decode cX0_readWhole 4 = .ok (.aload_n 0, 1) := by decide +kernel
theorem dX0_readWhole_5 : decode cX0_readWhole 5 = .ok (.getfield 27, 3) := by decide +kernel
theorem dX0_readWhole_8 : decode cX0_readWhole 8 = .ok (.if_icmp .ge 5, 3) := by decide +kernel
theorem dX0_readWhole_11 : decode cX0_readWhole 11 = .ok (.iconst 0, 1) := by decide +kernel
theorem dX0_readWhole_12 : decode cX0_readWhole 12 = .ok (.ireturn, 1) := by decide +kernel
theorem dX0_readWhole_13 : decode cX0_readWhole 13 = .ok (.aload_n 0, 1) := by decide +kernel
theorem dX0_readWhole_14 : decode cX0_readWhole 14 = .ok (.getfield 38, 3) := by decide +kernel
theorem dX0_readWhole_17 : decode cX0_readWhole 17 = .ok (.iconst 2, 1) := by decide +kernel
theorem dX0_readWhole_18 : decode cX0_readWhole 18 = .ok (.if_icmp .ne 18, 3) := by decide +kernel
theorem dX0_readWhole_21 : decode cX0_readWhole 21 = .ok (.aload_n 0, 1) := by decide +kernel
theorem dX0_readWhole_22 : decode cX0_readWhole 22 = .ok (.getfield 21, 3) := by decide +kernel
theorem dX0_readWhole_25 : decode cX0_readWhole 25 = .ok (.aload_n 0, 1) := by decide +kernel
theorem dX0_readWhole_26 : decode cX0_readWhole 26 = .ok (.getfield 35, 3) := by decide +kernel
theorem dX0_readWhole_29 : decode cX0_readWhole 29 = .ok (.invokestatic 41, 3) := by decide +kernel
theorem dX0_readWhole_32 : decode cX0_readWhole 32 = .ok (.iconst 4, 1) := by decide +kernel
theorem dX0_readWhole_33 : decode cX0_readWhole 33 = .ok (.if_icmp .ge 26, 3) := by decide +kernel
theorem dX0_readWhole_36 : decode cX0_readWhole 36 = .ok (.aload_n 0, 1) := by decide +kernel
theorem dX0_readWhole_37 : decode cX0_readWhole 37 = .ok (.getfield 38, 3) := by decide +kernel
theorem dX0_readWhole_40 : decode cX0_readWhole 40 = .ok (.iconst 3, 1) := by decide +kernel
theorem dX0_readWhole_41 : decode cX0_readWhole 41 = .ok (.if_icmp .ne 22, 3) := by decide +kernel
theorem dX0_readWhole_44 : decode cX0_readWhole 44 = .ok (.aload_n 0, 1) := by decide +kernel
theorem dX0_readWhole_45 : decode cX0_readWhole 45 = .ok (.getfield 24, 3) := by decide +kernel
theorem dX0_readWhole_48 : decode cX0_readWhole 48 = .ok (.aload_n 0, 1) := by decide +kernel
theorem dX0_readWhole_49 : decode cX0_readWhole 49 = .ok (.getfield 35, 3) := by decide +kernel
theorem dX0_readWhole_52 : decode cX0_readWhole 52 = .ok (.invokestatic 41, 3) := by decide +kernel
theorem dX0_readWhole_55 : decode cX0_readWhole 55 = .ok (.iconst 1, 1) := by decide +kernel
theorem dX0_readWhole_56 : decode cX0_readWhole 56 = .ok (.if_icmp .lt 7, 3) := by decide +kernel
theorem dX0_readWhole_59 : decode cX0_readWhole 59 = .ok (.iconst 1, 1) := by decide +kernel
theorem dX0_readWhole_60 : decode cX0_readWhole 60 = .ok (.goto 4, 3) := by decide +kernel
theorem dX0_readWhole_63 : decode cX0_readWhole 63 = .ok (.iconst 0, 1) := by decide +kernel
theorem dX0_readWhole_64 : decode cX0_readWhole 64 = .ok (.ireturn, 1) := by decide +kernel
theorem dX0_hasSighBeyondLips_0 : decode cX0_hasSighBeyondLips 0 = .ok (.iconst 0, 1) := by decide +kernel
theorem dX0_hasSighBeyondLips_1 : decode cX0_hasSighBeyondLips 1 = .ok (.istore_n 2, 1) := by decide +kernel
theorem dX0_hasSighBeyondLips_2 : decode cX0_hasSighBeyondLips 2 = .ok (.iload_n 2, 1) := by decide +kernel
theorem dX0_hasSighBeyondLips_3 : decode cX0_hasSighBeyondLips 3 = .ok (.iload_n 1, 1) := by decide +kernel
theorem dX0_hasSighBeyondLips_4 : decode cX0_hasSighBeyondLips 4 = .ok (.if_icmp .ge 30, 3) := by decide +kernel
theorem dX0_hasSighBeyondLips_7 : decode cX0_hasSighBeyondLips 7 = .ok (.aload_n 0, 1) := by decide +kernel
theorem dX0_hasSighBeyondLips_8 : decode cX0_hasSighBeyondLips 8 = .ok (.getfield 24, 3) := by decide +kernel
theorem dX0_hasSighBeyondLips_11 : decode cX0_hasSighBeyondLips 11 = .ok (.iload_n 2, 1) := by decide +kernel
theorem dX0_hasSighBeyondLips_12 : decode cX0_hasSighBeyondLips 12 = .ok (.invokestatic 41, 3) := by decide +kernel
theorem dX0_hasSighBeyondLips_15 : decode cX0_hasSighBeyondLips 15 = .ok (.aload_n 0, 1) := by decide +kernel
theorem dX0_hasSighBeyondLips_16 : decode cX0_hasSighBeyondLips 16 = .ok (.getfield 21, 3) := by decide +kernel
theorem dX0_hasSighBeyondLips_19 : decode cX0_hasSighBeyondLips 19 = .ok (.iload_n 2, 1) := by decide +kernel
theorem dX0_hasSighBeyondLips_20 : decode cX0_hasSighBeyondLips 20 = .ok (.invokestatic 41, 3) := by decide +kernel
theorem dX0_hasSighBeyondLips_23 : decode cX0_hasSighBeyondLips 23 = .ok (.if_icmp .le 5, 3) := by decide +kernel
theorem dX0_hasSighBeyondLips_26 : decode cX0_hasSighBeyondLips 26 = .ok (.iconst 1, 1) := by decide +kernel
theorem dX0_hasSighBeyondLips_27 : decode cX0_hasSighBeyondLips 27 = .ok (.ireturn, 1) := by decide +kernel
theorem dX0_hasSighBeyondLips_28 : decode cX0_hasSighBeyondLips 28 = .ok (.iinc 2 1, 3) := by decide +kernel
theorem dX0_hasSighBeyondLips_31 : decode cX0_hasSighBeyondLips 31 = .ok (.goto (-29), 3) := by decide +kernel
theorem dX0_hasSighBeyondLips_34 : decode cX0_hasSighBeyondLips 34 = .ok (.iconst 0, 1) := by decide +kernel
theorem dX0_hasSighBeyondLips_35 : decode cX0_hasSighBeyondLips 35 = .ok (.ireturn, 1) := by decide +kernel
theorem dX0_accepts_0 : decode cX0_accepts 0 = .ok (.aload_n 0, 1) := by decide +kernel
theorem dX0_accepts_1 : decode cX0_accepts 1 = .ok (.getfield 38, 3) := by decide +kernel
theorem dX0_accepts_4 : decode cX0_accepts 4 = .ok (.tableswitch 46 0 2 #[28, 34, 40], 28) := by decide +kernel
theorem dX0_accepts_32 : decode cX0_accepts 32 = .ok (.aload_n 0, 1) := by decide +kernel
theorem dX0_accepts_33 : decode cX0_accepts 33 = .ok (.iload_n 1, 1) := by decide +kernel
theorem dX0_accepts_34 : decode cX0_accepts 34 = .ok (.invokevirtual 53, 3) := by decide +kernel
theorem dX0_accepts_37 : decode cX0_accepts 37 = .ok (.ireturn, 1) := by decide +kernel
theorem dX0_accepts_38 : decode cX0_accepts 38 = .ok (.aload_n 0, 1) := by decide +kernel
theorem dX0_accepts_39 : decode cX0_accepts 39 = .ok (.iload_n 1, 1) := by decide +kernel
theorem dX0_accepts_40 : decode cX0_accepts 40 = .ok (.invokevirtual 56, 3) := by decide +kernel
theorem dX0_accepts_43 : decode cX0_accepts 43 = .ok (.ireturn, 1) := by decide +kernel
theorem dX0_accepts_44 : decode cX0_accepts 44 = .ok (.aload_n 0, 1) := by decide +kernel
theorem dX0_accepts_45 : decode cX0_accepts 45 = .ok (.iload_n 1, 1) := by decide +kernel
theorem dX0_accepts_46 : decode cX0_accepts 46 = .ok (.invokevirtual 59, 3) := by decide +kernel
theorem dX0_accepts_49 : decode cX0_accepts 49 = .ok (.ireturn, 1) := by decide +kernel
theorem dX0_accepts_50 : decode cX0_accepts 50 = .ok (.aload_n 0, 1) := by decide +kernel
theorem dX0_accepts_51 : decode cX0_accepts 51 = .ok (.iload_n 1, 1) := by decide +kernel
theorem dX0_accepts_52 : decode cX0_accepts 52 = .ok (.invokevirtual 62, 3) := by decide +kernel
theorem dX0_accepts_55 : decode cX0_accepts 55 = .ok (.ireturn, 1) := by decide +kernel
theorem dX0_acceptsReel_0 : decode cX0_acceptsReel 0 = .ok (.iload_n 1, 1) := by decide +kernel
theorem dX0_acceptsReel_1 : decode cX0_acceptsReel 1 = .ok (.bipush 48, 2) := by decide +kernel
theorem dX0_acceptsReel_3 : decode cX0_acceptsReel 3 = .ok (.if_icmp .lt 9, 3) := by decide +kernel
theorem dX0_acceptsReel_6 : decode cX0_acceptsReel 6 = .ok (.iload_n 1, 1) := by decide +kernel
theorem dX0_acceptsReel_7 : decode cX0_acceptsReel 7 = .ok (.bipush 52, 2) := by decide +kernel
theorem dX0_acceptsReel_9 : decode cX0_acceptsReel 9 = .ok (.if_icmp .lt 5, 3) := by decide +kernel
theorem dX0_acceptsReel_12 : decode cX0_acceptsReel 12 = .ok (.iconst 0, 1) := by decide +kernel
theorem dX0_acceptsReel_13 : decode cX0_acceptsReel 13 = .ok (.ireturn, 1) := by decide +kernel
theorem dX0_acceptsReel_14 : decode cX0_acceptsReel 14 = .ok (.aload_n 0, 1) := by decide +kernel
theorem dX0_acceptsReel_15 : decode cX0_acceptsReel 15 = .ok (.getfield 15, 3) := by decide +kernel
theorem dX0_acceptsReel_18 : decode cX0_acceptsReel 18 = .ok (.aload_n 0, 1) := by decide +kernel
theorem dX0_acceptsReel_19 : decode cX0_acceptsReel 19 = .ok (.getfield 35, 3) := by decide +kernel
theorem dX0_acceptsReel_22 : decode cX0_acceptsReel 22 = .ok (.iload_n 1, 1) := by decide +kernel
theorem dX0_acceptsReel_23 : decode cX0_acceptsReel 23 = .ok (.bipush 48, 2) := by decide +kernel
theorem dX0_acceptsReel_25 : decode cX0_acceptsReel 25 = .ok (.isub, 1) := by decide +kernel
theorem dX0_acceptsReel_26 : decode cX0_acceptsReel 26 = .ok (.invokestatic 31, 3) := by decide +kernel
theorem dX0_acceptsReel_29 : decode cX0_acceptsReel 29 = .ok (.aload_n 0, 1) := by decide +kernel
theorem dX0_acceptsReel_30 : decode cX0_acceptsReel 30 = .ok (.iconst 1, 1) := by decide +kernel
theorem dX0_acceptsReel_31 : decode cX0_acceptsReel 31 = .ok (.putfield 38, 3) := by decide +kernel
theorem dX0_acceptsReel_34 : decode cX0_acceptsReel 34 = .ok (.iconst 1, 1) := by decide +kernel
theorem dX0_acceptsReel_35 : decode cX0_acceptsReel 35 = .ok (.ireturn, 1) := by decide +kernel
theorem dX0_acceptsSpeaker_0 : decode cX0_acceptsSpeaker 0 = .ok (.iload_n 1, 1) := by decide +kernel
theorem dX0_acceptsSpeaker_1 : decode cX0_acceptsSpeaker 1 = .ok (.bipush 65, 2) := by decide +kernel
theorem dX0_acceptsSpeaker_3 : decode cX0_acceptsSpeaker 3 = .ok (.if_icmp .lt 9, 3) := by decide +kernel
theorem dX0_acceptsSpeaker_6 : decode cX0_acceptsSpeaker 6 = .ok (.iload_n 1, 1) := by decide +kernel
theorem dX0_acceptsSpeaker_7 : decode cX0_acceptsSpeaker 7 = .ok (.bipush 70, 2) := by decide +kernel
theorem dX0_acceptsSpeaker_9 : decode cX0_acceptsSpeaker 9 = .ok (.if_icmp .lt 5, 3) := by decide +kernel
theorem dX0_acceptsSpeaker_12 : decode cX0_acceptsSpeaker 12 = .ok (.iconst 0, 1) := by decide +kernel
theorem dX0_acceptsSpeaker_13 : decode cX0_acceptsSpeaker 13 = .ok (.ireturn, 1) := by decide +kernel
theorem dX0_acceptsSpeaker_14 : decode cX0_acceptsSpeaker 14 = .ok (.aload_n 0, 1) := by decide +kernel
theorem dX0_acceptsSpeaker_15 : decode cX0_acceptsSpeaker 15 = .ok (.getfield 18, 3) := by decide +kernel
theorem dX0_acceptsSpeaker_18 : decode cX0_acceptsSpeaker 18 = .ok (.aload_n 0, 1) := by decide +kernel
theorem dX0_acceptsSpeaker_19 : decode cX0_acceptsSpeaker 19 = .ok (.getfield 35, 3) := by decide +kernel
theorem dX0_acceptsSpeaker_22 : decode cX0_acceptsSpeaker 22 = .ok (.iload_n 1, 1) := by decide +kernel
theorem dX0_acceptsSpeaker_23 : decode cX0_acceptsSpeaker 23 = .ok (.bipush 65, 2) := by decide +kernel
theorem dX0_acceptsSpeaker_25 : decode cX0_acceptsSpeaker 25 = .ok (.isub, 1) := by decide +kernel
theorem dX0_acceptsSpeaker_26 : decode cX0_acceptsSpeaker 26 = .ok (.invokestatic 31, 3) := by decide +kernel
theorem dX0_acceptsSpeaker_29 : decode cX0_acceptsSpeaker 29 = .ok (.aload_n 0, 1) := by decide +kernel
theorem dX0_acceptsSpeaker_30 : decode cX0_acceptsSpeaker 30 = .ok (.getfield 21, 3) := by decide +kernel
theorem dX0_acceptsSpeaker_33 : decode cX0_acceptsSpeaker 33 = .ok (.aload_n 0, 1) := by decide +kernel
theorem dX0_acceptsSpeaker_34 : decode cX0_acceptsSpeaker 34 = .ok (.getfield 35, 3) := by decide +kernel
theorem dX0_acceptsSpeaker_37 : decode cX0_acceptsSpeaker 37 = .ok (.iconst 0, 1) := by decide +kernel
theorem dX0_acceptsSpeaker_38 : decode cX0_acceptsSpeaker 38 = .ok (.invokestatic 31, 3) := by decide +kernel
theorem dX0_acceptsSpeaker_41 : decode cX0_acceptsSpeaker 41 = .ok (.aload_n 0, 1) := by decide +kernel
theorem dX0_acceptsSpeaker_42 : decode cX0_acceptsSpeaker 42 = .ok (.getfield 24, 3) := by decide +kernel
theorem dX0_acceptsSpeaker_45 : decode cX0_acceptsSpeaker 45 = .ok (.aload_n 0, 1) := by decide +kernel
theorem dX0_acceptsSpeaker_46 : decode cX0_acceptsSpeaker 46 = .ok (.getfield 35, 3) := by decide +kernel
theorem dX0_acceptsSpeaker_49 : decode cX0_acceptsSpeaker 49 = .ok (.iconst 0, 1) := by decide +kernel
theorem dX0_acceptsSpeaker_50 : decode cX0_acceptsSpeaker 50 = .ok (.invokestatic 31, 3) := by decide +kernel
theorem dX0_acceptsSpeaker_53 : decode cX0_acceptsSpeaker 53 = .ok (.aload_n 0, 1) := by decide +kernel
theorem dX0_acceptsSpeaker_54 : decode cX0_acceptsSpeaker 54 = .ok (.iconst 2, 1) := by decide +kernel
theorem dX0_acceptsSpeaker_55 : decode cX0_acceptsSpeaker 55 = .ok (.putfield 38, 3) := by decide +kernel
theorem dX0_acceptsSpeaker_58 : decode cX0_acceptsSpeaker 58 = .ok (.iconst 1, 1) := by decide +kernel
theorem dX0_acceptsSpeaker_59 : decode cX0_acceptsSpeaker 59 = .ok (.ireturn, 1) := by decide +kernel
theorem dX0_acceptsLips_0 : decode cX0_acceptsLips 0 = .ok (.iload_n 1, 1) := by decide +kernel
theorem dX0_acceptsLips_1 : decode cX0_acceptsLips 1 = .ok (.bipush 48, 2) := by decide +kernel
theorem dX0_acceptsLips_3 : decode cX0_acceptsLips 3 = .ok (.if_icmp .lt 21, 3) := by decide +kernel
theorem dX0_acceptsLips_6 : decode cX0_acceptsLips 6 = .ok (.iload_n 1, 1) := by decide +kernel
theorem dX0_acceptsLips_7 : decode cX0_acceptsLips 7 = .ok (.bipush 57, 2) := by decide +kernel
theorem dX0_acceptsLips_9 : decode cX0_acceptsLips 9 = .ok (.if_icmp .gt 15, 3) := by decide +kernel
theorem dX0_acceptsLips_12 : decode cX0_acceptsLips 12 = .ok (.aload_n 0, 1) := by decide +kernel
theorem dX0_acceptsLips_13 : decode cX0_acceptsLips 13 = .ok (.aload_n 0, 1) := by decide +kernel
theorem dX0_acceptsLips_14 : decode cX0_acceptsLips 14 = .ok (.getfield 21, 3) := by decide +kernel
theorem dX0_acceptsLips_17 : decode cX0_acceptsLips 17 = .ok (.iload_n 1, 1) := by decide +kernel
theorem dX0_acceptsLips_18 : decode cX0_acceptsLips 18 = .ok (.bipush 60, 2) := by decide +kernel
theorem dX0_acceptsLips_20 : decode cX0_acceptsLips 20 = .ok (.invokevirtual 65, 3) := by decide +kernel
theorem dX0_acceptsLips_23 : decode cX0_acceptsLips 23 = .ok (.ireturn, 1) := by decide +kernel
theorem dX0_acceptsLips_24 : decode cX0_acceptsLips 24 = .ok (.aload_n 0, 1) := by decide +kernel
theorem dX0_acceptsLips_25 : decode cX0_acceptsLips 25 = .ok (.getfield 21, 3) := by decide +kernel
theorem dX0_acceptsLips_28 : decode cX0_acceptsLips 28 = .ok (.aload_n 0, 1) := by decide +kernel
theorem dX0_acceptsLips_29 : decode cX0_acceptsLips 29 = .ok (.getfield 35, 3) := by decide +kernel
theorem dX0_acceptsLips_32 : decode cX0_acceptsLips 32 = .ok (.invokestatic 41, 3) := by decide +kernel
theorem dX0_acceptsLips_35 : decode cX0_acceptsLips 35 = .ok (.iconst 4, 1) := by decide +kernel
theorem dX0_acceptsLips_36 : decode cX0_acceptsLips 36 = .ok (.if_icmp .ge 5, 3) := by decide +kernel
theorem dX0_acceptsLips_39 : decode cX0_acceptsLips 39 = .ok (.iconst 0, 1) := by decide +kernel
theorem dX0_acceptsLips_40 : decode cX0_acceptsLips 40 = .ok (.ireturn, 1) := by decide +kernel
theorem dX0_acceptsLips_41 : decode cX0_acceptsLips 41 = .ok (.iload_n 1, 1) := by decide +kernel
theorem dX0_acceptsLips_42 : decode cX0_acceptsLips 42 = .ok (.bipush 126, 2) := by decide +kernel
theorem dX0_acceptsLips_44 : decode cX0_acceptsLips 44 = .ok (.if_icmp .ne 10, 3) := by decide +kernel
theorem dX0_acceptsLips_47 : decode cX0_acceptsLips 47 = .ok (.aload_n 0, 1) := by decide +kernel
theorem dX0_acceptsLips_48 : decode cX0_acceptsLips 48 = .ok (.iconst 3, 1) := by decide +kernel
theorem dX0_acceptsLips_49 : decode cX0_acceptsLips 49 = .ok (.putfield 38, 3) := by decide +kernel
theorem dX0_acceptsLips_52 : decode cX0_acceptsLips 52 = .ok (.iconst 1, 1) := by decide +kernel
theorem dX0_acceptsLips_53 : decode cX0_acceptsLips 53 = .ok (.ireturn, 1) := by decide +kernel
theorem dX0_acceptsLips_54 : decode cX0_acceptsLips 54 = .ok (.aload_n 0, 1) := by decide +kernel
theorem dX0_acceptsLips_55 : decode cX0_acceptsLips 55 = .ok (.iload_n 1, 1) := by decide +kernel
theorem dX0_acceptsLips_56 : decode cX0_acceptsLips 56 = .ok (.invokevirtual 69, 3) := by decide +kernel
theorem dX0_acceptsLips_59 : decode cX0_acceptsLips 59 = .ok (.ireturn, 1) := by decide +kernel
theorem dX0_acceptsSigh_0 : decode cX0_acceptsSigh 0 = .ok (.iload_n 1, 1) := by decide +kernel
theorem dX0_acceptsSigh_1 : decode cX0_acceptsSigh 1 = .ok (.bipush 48, 2) := by decide +kernel
theorem dX0_acceptsSigh_3 : decode cX0_acceptsSigh 3 = .ok (.if_icmp .lt 21, 3) := by decide +kernel
theorem dX0_acceptsSigh_6 : decode cX0_acceptsSigh 6 = .ok (.iload_n 1, 1) := by decide +kernel
theorem dX0_acceptsSigh_7 : decode cX0_acceptsSigh 7 = .ok (.bipush 57, 2) := by decide +kernel
theorem dX0_acceptsSigh_9 : decode cX0_acceptsSigh 9 = .ok (.if_icmp .gt 15, 3) := by decide +kernel
theorem dX0_acceptsSigh_12 : decode cX0_acceptsSigh 12 = .ok (.aload_n 0, 1) := by decide +kernel
theorem dX0_acceptsSigh_13 : decode cX0_acceptsSigh 13 = .ok (.aload_n 0, 1) := by decide +kernel
theorem dX0_acceptsSigh_14 : decode cX0_acceptsSigh 14 = .ok (.getfield 24, 3) := by decide +kernel
theorem dX0_acceptsSigh_17 : decode cX0_acceptsSigh 17 = .ok (.iload_n 1, 1) := by decide +kernel
theorem dX0_acceptsSigh_18 : decode cX0_acceptsSigh 18 = .ok (.bipush 20, 2) := by decide +kernel
theorem dX0_acceptsSigh_20 : decode cX0_acceptsSigh 20 = .ok (.invokevirtual 65, 3) := by decide +kernel
theorem dX0_acceptsSigh_23 : decode cX0_acceptsSigh 23 = .ok (.ireturn, 1) := by decide +kernel
theorem dX0_acceptsSigh_24 : decode cX0_acceptsSigh 24 = .ok (.aload_n 0, 1) := by decide +kernel
theorem dX0_acceptsSigh_25 : decode cX0_acceptsSigh 25 = .ok (.getfield 24, 3) := by decide +kernel
theorem dX0_acceptsSigh_28 : decode cX0_acceptsSigh 28 = .ok (.aload_n 0, 1) := by decide +kernel
theorem dX0_acceptsSigh_29 : decode cX0_acceptsSigh 29 = .ok (.getfield 35, 3) := by decide +kernel
theorem dX0_acceptsSigh_32 : decode cX0_acceptsSigh 32 = .ok (.invokestatic 41, 3) := by decide +kernel
theorem dX0_acceptsSigh_35 : decode cX0_acceptsSigh 35 = .ok (.iconst 1, 1) := by decide +kernel
theorem dX0_acceptsSigh_36 : decode cX0_acceptsSigh 36 = .ok (.if_icmp .lt 15, 3) := by decide +kernel
theorem dX0_acceptsSigh_39 : decode cX0_acceptsSigh 39 = .ok (.aload_n 0, 1) := by decide +kernel
theorem dX0_acceptsSigh_40 : decode cX0_acceptsSigh 40 = .ok (.iload_n 1, 1) := by decide +kernel
theorem dX0_acceptsSigh_41 : decode cX0_acceptsSigh 41 = .ok (.invokevirtual 69, 3) := by decide +kernel
theorem dX0_acceptsSigh_44 : decode cX0_acceptsSigh 44 = .ok (.ifCond .eq 7, 3) := by decide +kernel
theorem dX0_acceptsSigh_47 : decode cX0_acceptsSigh 47 = .ok (.iconst 1, 1) := by decide +kernel
theorem dX0_acceptsSigh_48 : decode cX0_acceptsSigh 48 = .ok (.goto 4, 3) := by decide +kernel
theorem dX0_acceptsSigh_51 : decode cX0_acceptsSigh 51 = .ok (.iconst 0, 1) := by decide +kernel
theorem dX0_acceptsSigh_52 : decode cX0_acceptsSigh 52 = .ok (.ireturn, 1) := by decide +kernel
theorem dX0_acceptsDigit_0 : decode cX0_acceptsDigit 0 = .ok (.aload_n 1, 1) := by decide +kernel
theorem dX0_acceptsDigit_1 : decode cX0_acceptsDigit 1 = .ok (.aload_n 0, 1) := by decide +kernel
theorem dX0_acceptsDigit_2 : decode cX0_acceptsDigit 2 = .ok (.getfield 35, 3) := by decide +kernel
theorem dX0_acceptsDigit_5 : decode cX0_acceptsDigit 5 = .ok (.invokestatic 41, 3) := by decide +kernel
theorem dX0_acceptsDigit_8 : decode cX0_acceptsDigit 8 = .ok (.bipush 10, 2) := by decide +kernel
theorem dX0_acceptsDigit_10 : decode cX0_acceptsDigit 10 = .ok (.imul, 1) := by decide +kernel
theorem dX0_acceptsDigit_11 : decode cX0_acceptsDigit 11 = .ok (.iload_n 2, 1) := by decide +kernel
theorem dX0_acceptsDigit_12 : decode cX0_acceptsDigit 12 = .ok (.iadd, 1) := by decide +kernel
theorem dX0_acceptsDigit_13 : decode cX0_acceptsDigit 13 = .ok (.bipush 48, 2) := by decide +kernel
theorem dX0_acceptsDigit_15 : decode cX0_acceptsDigit 15 = .ok (.isub, 1) := by decide +kernel
theorem dX0_acceptsDigit_16 : decode cX0_acceptsDigit 16 = .ok (.istore 4, 2) := by decide +kernel
theorem dX0_acceptsDigit_18 : decode cX0_acceptsDigit 18 = .ok (.iload 4, 2) := by decide +kernel
theorem dX0_acceptsDigit_20 : decode cX0_acceptsDigit 20 = .ok (.iconst 1, 1) := by decide +kernel
theorem dX0_acceptsDigit_21 : decode cX0_acceptsDigit 21 = .ok (.if_icmp .lt 9, 3) := by decide +kernel
theorem dX0_acceptsDigit_24 : decode cX0_acceptsDigit 24 = .ok (.iload 4, 2) := by decide +kernel
theorem dX0_acceptsDigit_26 : decode cX0_acceptsDigit 26 = .ok (.iload_n 3, 1) := by decide +kernel
theorem dX0_acceptsDigit_27 : decode cX0_acceptsDigit 27 = .ok (.if_icmp .le 5, 3) := by decide +kernel
theorem dX0_acceptsDigit_30 : decode cX0_acceptsDigit 30 = .ok (.iconst 0, 1) := by decide +kernel
theorem dX0_acceptsDigit_31 : decode cX0_acceptsDigit 31 = .ok (.ireturn, 1) := by decide +kernel
theorem dX0_acceptsDigit_32 : decode cX0_acceptsDigit 32 = .ok (.aload_n 1, 1) := by decide +kernel
theorem dX0_acceptsDigit_33 : decode cX0_acceptsDigit 33 = .ok (.aload_n 0, 1) := by decide +kernel
theorem dX0_acceptsDigit_34 : decode cX0_acceptsDigit 34 = .ok (.getfield 35, 3) := by decide +kernel
theorem dX0_acceptsDigit_37 : decode cX0_acceptsDigit 37 = .ok (.iload 4, 2) := by decide +kernel
theorem dX0_acceptsDigit_39 : decode cX0_acceptsDigit 39 = .ok (.invokestatic 31, 3) := by decide +kernel
theorem dX0_acceptsDigit_42 : decode cX0_acceptsDigit 42 = .ok (.iconst 1, 1) := by decide +kernel
theorem dX0_acceptsDigit_43 : decode cX0_acceptsDigit 43 = .ok (.ireturn, 1) := by decide +kernel
theorem dX0_acceptsEnd_0 : decode cX0_acceptsEnd 0 = .ok (.iload_n 1, 1) := by decide +kernel
theorem dX0_acceptsEnd_1 : decode cX0_acceptsEnd 1 = .ok (.bipush 59, 2) := by decide +kernel
theorem dX0_acceptsEnd_3 : decode cX0_acceptsEnd 3 = .ok (.if_icmp .eq 5, 3) := by decide +kernel
theorem dX0_acceptsEnd_6 : decode cX0_acceptsEnd 6 = .ok (.iconst 0, 1) := by decide +kernel
theorem dX0_acceptsEnd_7 : decode cX0_acceptsEnd 7 = .ok (.ireturn, 1) := by decide +kernel
theorem dX0_acceptsEnd_8 : decode cX0_acceptsEnd 8 = .ok (.aload_n 0, 1) := by decide +kernel
theorem dX0_acceptsEnd_9 : decode cX0_acceptsEnd 9 = .ok (.dup, 1) := by decide +kernel
theorem dX0_acceptsEnd_10 : decode cX0_acceptsEnd 10 = .ok (.getfield 35, 3) := by decide +kernel
theorem dX0_acceptsEnd_13 : decode cX0_acceptsEnd 13 = .ok (.iconst 1, 1) := by decide +kernel
theorem dX0_acceptsEnd_14 : decode cX0_acceptsEnd 14 = .ok (.iadd, 1) := by decide +kernel
theorem dX0_acceptsEnd_15 : decode cX0_acceptsEnd 15 = .ok (.putfield 35, 3) := by decide +kernel
theorem dX0_acceptsEnd_18 : decode cX0_acceptsEnd 18 = .ok (.aload_n 0, 1) := by decide +kernel
theorem dX0_acceptsEnd_19 : decode cX0_acceptsEnd 19 = .ok (.iconst 0, 1) := by decide +kernel
theorem dX0_acceptsEnd_20 : decode cX0_acceptsEnd 20 = .ok (.putfield 38, 3) := by decide +kernel
theorem dX0_acceptsEnd_23 : decode cX0_acceptsEnd 23 = .ok (.iconst 1, 1) := by decide +kernel
theorem dX0_acceptsEnd_24 : decode cX0_acceptsEnd 24 = .ok (.ireturn, 1) := by decide +kernel
theorem dX1_init_0 : decode cX1_init 0 = .ok (.aload_n 0, 1) := by decide +kernel
theorem dX1_init_1 : decode cX1_init 1 = .ok (.invokespecial 3, 3) := by decide +kernel
theorem dX1_init_4 : decode cX1_init 4 = .ok (.aload_n 0, 1) := by decide +kernel
theorem dX1_init_5 : decode cX1_init 5 = .ok (.bipush 6, 2) := by decide +kernel
theorem dX1_init_7 : decode cX1_init 7 = .ok (.anewarray 9, 3) := by decide +kernel
theorem dX1_init_10 : decode cX1_init 10 = .ok (.putfield 11, 3) := by decide +kernel
theorem dX1_init_13 : decode cX1_init 13 = .ok (.iconst 0, 1) := by decide +kernel
theorem dX1_init_14 : decode cX1_init 14 = .ok (.istore_n 1, 1) := by decide +kernel
theorem dX1_init_15 : decode cX1_init 15 = .ok (.iload_n 1, 1) := by decide +kernel
theorem dX1_init_16 : decode cX1_init 16 = .ok (.aload_n 0, 1) := by decide +kernel
theorem dX1_init_17 : decode cX1_init 17 = .ok (.getfield 11, 3) := by decide +kernel
theorem dX1_init_20 : decode cX1_init 20 = .ok (.arraylength, 1) := by decide +kernel
theorem dX1_init_21 : decode cX1_init 21 = .ok (.if_icmp .ge 22, 3) := by decide +kernel
theorem dX1_init_24 : decode cX1_init 24 = .ok (.aload_n 0, 1) := by decide +kernel
theorem dX1_init_25 : decode cX1_init 25 = .ok (.getfield 11, 3) := by decide +kernel
theorem dX1_init_28 : decode cX1_init 28 = .ok (.iload_n 1, 1) := by decide +kernel
theorem dX1_init_29 : decode cX1_init 29 = .ok (.new 9, 3) := by decide +kernel
theorem dX1_init_32 : decode cX1_init 32 = .ok (.dup, 1) := by decide +kernel
theorem dX1_init_33 : decode cX1_init 33 = .ok (.invokespecial 17, 3) := by decide +kernel
theorem dX1_init_36 : decode cX1_init 36 = .ok (.aastore, 1) := by decide +kernel
theorem dX1_init_37 : decode cX1_init 37 = .ok (.iinc 1 1, 3) := by decide +kernel
theorem dX1_init_40 : decode cX1_init 40 = .ok (.goto (-25), 3) := by decide +kernel
theorem dX1_init_43 : decode cX1_init 43 = .ok (.return_, 1) := by decide +kernel
theorem dX1_push_0 : decode cX1_push 0 = .ok (.aload_n 0, 1) := by decide +kernel
theorem dX1_push_1 : decode cX1_push 1 = .ok (.getfield 18, 3) := by decide +kernel
theorem dX1_push_4 : decode cX1_push 4 = .ok (.aload_n 0, 1) := by decide +kernel
theorem dX1_push_5 : decode cX1_push 5 = .ok (.getfield 11, 3) := by decide +kernel
theorem dX1_push_8 : decode cX1_push 8 = .ok (.arraylength, 1) := by decide +kernel
theorem dX1_push_9 : decode cX1_push 9 = .ok (.if_icmp .lt 7, 3) := by decide +kernel
theorem dX1_push_12 : decode cX1_push 12 = .ok (.aload_n 0, 1) := by decide +kernel
theorem dX1_push_13 : decode cX1_push 13 = .ok (.invokevirtual 22, 3) := by decide +kernel
theorem dX1_push_16 : decode cX1_push 16 = .ok (.aload_n 0, 1) := by decide +kernel
theorem dX1_push_17 : decode cX1_push 17 = .ok (.getfield 11, 3) := by decide +kernel
theorem dX1_push_20 : decode cX1_push 20 = .ok (.aload_n 0, 1) := by decide +kernel
theorem dX1_push_21 : decode cX1_push 21 = .ok (.getfield 18, 3) := by decide +kernel
theorem dX1_push_24 : decode cX1_push 24 = .ok (.invokestatic 25, 3) := by decide +kernel
theorem dX1_push_27 : decode cX1_push 27 = .ok (.astore_n 2, 1) := by decide +kernel
theorem dX1_push_28 : decode cX1_push 28 = .ok (.aload_n 2, 1) := by decide +kernel
theorem dX1_push_29 : decode cX1_push 29 = .ok (.ifnull 18, 3) := by decide +kernel
theorem dX1_push_32 : decode cX1_push 32 = .ok (.aload_n 2, 1) := by decide +kernel
theorem dX1_push_33 : decode cX1_push 33 = .ok (.aload_n 1, 1) := by decide +kernel
theorem dX1_push_34 : decode cX1_push 34 = .ok (.invokevirtual 29, 3) := by decide +kernel
theorem dX1_push_37 : decode cX1_push 37 = .ok (.aload_n 0, 1) := by decide +kernel
theorem dX1_push_38 : decode cX1_push 38 = .ok (.dup, 1) := by decide +kernel
theorem dX1_push_39 : decode cX1_push 39 = .ok (.getfield 18, 3) := by decide +kernel
theorem dX1_push_42 : decode cX1_push 42 = .ok (.iconst 1, 1) := by decide +kernel
theorem dX1_push_43 : decode cX1_push 43 = .ok (.iadd, 1) := by decide +kernel
theorem dX1_push_44 : decode cX1_push 44 = .ok (.putfield 18, 3) := by decide +kernel
theorem dX1_push_47 : decode cX1_push 47 = .ok (.return_, 1) := by decide +kernel
theorem dX1_popInto_0 : decode cX1_popInto 0 = .ok (.aload_n 0, 1) := by decide +kernel
theorem dX1_popInto_1 : decode cX1_popInto 1 = .ok (.getfield 18, 3) := by decide +kernel
theorem dX1_popInto_4 : decode cX1_popInto 4 = .ok (.ifCond .le 32, 3) := by decide +kernel
theorem dX1_popInto_7 : decode cX1_popInto 7 = .ok (.aload_n 1, 1) := by decide +kernel
theorem dX1_popInto_8 : decode cX1_popInto 8 = .ok (.ifnull 28, 3) := by decide +kernel
theorem dX1_popInto_11 : decode cX1_popInto 11 = .ok (.aload_n 0, 1) := by decide +kernel
theorem dX1_popInto_12 : decode cX1_popInto 12 = .ok (.dup, 1) := by decide +kernel
theorem dX1_popInto_13 : decode cX1_popInto 13 = .ok (.getfield 18, 3) := by decide +kernel
theorem dX1_popInto_16 : decode cX1_popInto 16 = .ok (.iconst 1, 1) := by decide +kernel
theorem dX1_popInto_17 : decode cX1_popInto 17 = .ok (.isub, 1) := by decide +kernel
theorem dX1_popInto_18 : decode cX1_popInto 18 = .ok (.putfield 18, 3) := by decide +kernel
theorem dX1_popInto_21 : decode cX1_popInto 21 = .ok (.aload_n 1, 1) := by decide +kernel
theorem dX1_popInto_22 : decode cX1_popInto 22 = .ok (.aload_n 0, 1) := by decide +kernel
theorem dX1_popInto_23 : decode cX1_popInto 23 = .ok (.getfield 11, 3) := by decide +kernel
theorem dX1_popInto_26 : decode cX1_popInto 26 = .ok (.aload_n 0, 1) := by decide +kernel
theorem dX1_popInto_27 : decode cX1_popInto 27 = .ok (.getfield 18, 3) := by decide +kernel
theorem dX1_popInto_30 : decode cX1_popInto 30 = .ok (.invokestatic 25, 3) := by decide +kernel
theorem dX1_popInto_33 : decode cX1_popInto 33 = .ok (.invokevirtual 29, 3) := by decide +kernel
theorem dX1_popInto_36 : decode cX1_popInto 36 = .ok (.return_, 1) := by decide +kernel
theorem dX1_dropOldest_0 : decode cX1_dropOldest 0 = .ok (.aload_n 0, 1) := by decide +kernel
theorem dX1_dropOldest_1 : decode cX1_dropOldest 1 = .ok (.getfield 11, 3) := by decide +kernel
theorem dX1_dropOldest_4 : decode cX1_dropOldest 4 = .ok (.iconst 0, 1) := by decide +kernel
theorem dX1_dropOldest_5 : decode cX1_dropOldest 5 = .ok (.invokestatic 25, 3) := by decide +kernel
theorem dX1_dropOldest_8 : decode cX1_dropOldest 8 = .ok (.astore_n 1, 1) := by decide +kernel
theorem dX1_dropOldest_9 : decode cX1_dropOldest 9 = .ok (.iconst 1, 1) := by decide +kernel
theorem dX1_dropOldest_10 : decode cX1_dropOldest 10 = .ok (.istore_n 2, 1) := by decide +kernel
theorem dX1_dropOldest_11 : decode cX1_dropOldest 11 = .ok (.iload_n 2, 1) := by decide +kernel
theorem dX1_dropOldest_12 : decode cX1_dropOldest 12 = .ok (.aload_n 0, 1) := by decide +kernel
theorem dX1_dropOldest_13 : decode cX1_dropOldest 13 = .ok (.getfield 11, 3) := by decide +kernel
theorem dX1_dropOldest_16 : decode cX1_dropOldest 16 = .ok (.arraylength, 1) := by decide +kernel
theorem dX1_dropOldest_17 : decode cX1_dropOldest 17 = .ok (.if_icmp .ge 23, 3) := by decide +kernel
theorem dX1_dropOldest_20 : decode cX1_dropOldest 20 = .ok (.aload_n 0, 1) := by decide +kernel
theorem dX1_dropOldest_21 : decode cX1_dropOldest 21 = .ok (.getfield 11, 3) := by decide +kernel
theorem dX1_dropOldest_24 : decode cX1_dropOldest 24 = .ok (.iload_n 2, 1) := by decide +kernel
theorem dX1_dropOldest_25 : decode cX1_dropOldest 25 = .ok (.iconst 1, 1) := by decide +kernel
theorem dX1_dropOldest_26 : decode cX1_dropOldest 26 = .ok (.isub, 1) := by decide +kernel
theorem dX1_dropOldest_27 : decode cX1_dropOldest 27 = .ok (.aload_n 0, 1) := by decide +kernel
theorem dX1_dropOldest_28 : decode cX1_dropOldest 28 = .ok (.getfield 11, 3) := by decide +kernel
theorem dX1_dropOldest_31 : decode cX1_dropOldest 31 = .ok (.iload_n 2, 1) := by decide +kernel
theorem dX1_dropOldest_32 : decode cX1_dropOldest 32 = .ok (.aaload, 1) := by decide +kernel
theorem dX1_dropOldest_33 : decode cX1_dropOldest 33 = .ok (.aastore, 1) := by decide +kernel
theorem dX1_dropOldest_34 : decode cX1_dropOldest 34 = .ok (.iinc 2 1, 3) := by decide +kernel
theorem dX1_dropOldest_37 : decode cX1_dropOldest 37 = .ok (.goto (-26), 3) := by decide +kernel
theorem dX1_dropOldest_40 : decode cX1_dropOldest 40 = .ok (.aload_n 0, 1) := by decide +kernel
theorem dX1_dropOldest_41 : decode cX1_dropOldest 41 = .ok (.getfield 11, 3) := by decide +kernel
theorem dX1_dropOldest_44 : decode cX1_dropOldest 44 = .ok (.arraylength, 1) := by decide +kernel
theorem dX1_dropOldest_45 : decode cX1_dropOldest 45 = .ok (.ifCond .le 16, 3) := by decide +kernel
theorem dX1_dropOldest_48 : decode cX1_dropOldest 48 = .ok (.aload_n 0, 1) := by decide +kernel
theorem dX1_dropOldest_49 : decode cX1_dropOldest 49 = .ok (.getfield 11, 3) := by decide +kernel
theorem dX1_dropOldest_52 : decode cX1_dropOldest 52 = .ok (.aload_n 0, 1) := by decide +kernel
theorem dX1_dropOldest_53 : decode cX1_dropOldest 53 = .ok (.getfield 11, 3) := by decide +kernel
theorem dX1_dropOldest_56 : decode cX1_dropOldest 56 = .ok (.arraylength, 1) := by decide +kernel
theorem dX1_dropOldest_57 : decode cX1_dropOldest 57 = .ok (.iconst 1, 1) := by decide +kernel
theorem dX1_dropOldest_58 : decode cX1_dropOldest 58 = .ok (.isub, 1) := by decide +kernel
theorem dX1_dropOldest_59 : decode cX1_dropOldest 59 = .ok (.aload_n 1, 1) := by decide +kernel
theorem dX1_dropOldest_60 : decode cX1_dropOldest 60 = .ok (.aastore, 1) := by decide +kernel
theorem dX1_dropOldest_61 : decode cX1_dropOldest 61 = .ok (.aload_n 0, 1) := by decide +kernel
theorem dX1_dropOldest_62 : decode cX1_dropOldest 62 = .ok (.dup, 1) := by decide +kernel
theorem dX1_dropOldest_63 : decode cX1_dropOldest 63 = .ok (.getfield 18, 3) := by decide +kernel
theorem dX1_dropOldest_66 : decode cX1_dropOldest 66 = .ok (.iconst 1, 1) := by decide +kernel
theorem dX1_dropOldest_67 : decode cX1_dropOldest 67 = .ok (.isub, 1) := by decide +kernel
theorem dX1_dropOldest_68 : decode cX1_dropOldest 68 = .ok (.putfield 18, 3) := by decide +kernel
theorem dX1_dropOldest_71 : decode cX1_dropOldest 71 = .ok (.return_, 1) := by decide +kernel
theorem dX2_init_0 : decode cX2_init 0 = .ok (.aload_n 0, 1) := by decide +kernel
theorem dX2_init_1 : decode cX2_init 1 = .ok (.invokespecial 3, 3) := by decide +kernel
theorem dX2_init_4 : decode cX2_init 4 = .ok (.aload_n 0, 1) := by decide +kernel
theorem dX2_init_5 : decode cX2_init 5 = .ok (.bipush 24, 2) := by decide +kernel
theorem dX2_init_7 : decode cX2_init 7 = .ok (.newarray .int, 2) := by decide +kernel
theorem dX2_init_9 : decode cX2_init 9 = .ok (.putfield 9, 3) := by decide +kernel
theorem dX2_init_12 : decode cX2_init 12 = .ok (.aload_n 0, 1) := by decide +kernel
theorem dX2_init_13 : decode cX2_init 13 = .ok (.bipush 25, 2) := by decide +kernel
theorem dX2_init_15 : decode cX2_init 15 = .ok (.newarray .int, 2) := by decide +kernel
theorem dX2_init_17 : decode cX2_init 17 = .ok (.putfield 15, 3) := by decide +kernel
theorem dX2_init_20 : decode cX2_init 20 = .ok (.return_, 1) := by decide +kernel
theorem dX2_start_0 : decode cX2_start 0 = .ok (.aload_n 0, 1) := by decide +kernel
theorem dX2_start_1 : decode cX2_start 1 = .ok (.iconst 0, 1) := by decide +kernel
theorem dX2_start_2 : decode cX2_start 2 = .ok (.putfield 18, 3) := by decide +kernel
theorem dX2_start_5 : decode cX2_start 5 = .ok (.aload_n 0, 1) := by decide +kernel
theorem dX2_start_6 : decode cX2_start 6 = .ok (.iload_n 1, 1) := by decide +kernel
theorem dX2_start_7 : decode cX2_start 7 = .ok (.putfield 22, 3) := by decide +kernel
theorem dX2_start_10 : decode cX2_start 10 = .ok (.aload_n 0, 1) := by decide +kernel
theorem dX2_start_11 : decode cX2_start 11 = .ok (.iload_n 2, 1) := by decide +kernel
theorem dX2_start_12 : decode cX2_start 12 = .ok (.putfield 25, 3) := by decide +kernel
theorem dX2_start_15 : decode cX2_start 15 = .ok (.return_, 1) := by decide +kernel
theorem dX2_add_0 : decode cX2_add 0 = .ok (.aload_n 0, 1) := by decide +kernel
theorem dX2_add_1 : decode cX2_add 1 = .ok (.getfield 18, 3) := by decide +kernel
theorem dX2_add_4 : decode cX2_add 4 = .ok (.aload_n 0, 1) := by decide +kernel
theorem dX2_add_5 : decode cX2_add 5 = .ok (.getfield 9, 3) := by decide +kernel
theorem dX2_add_8 : decode cX2_add 8 = .ok (.arraylength, 1) := by decide +kernel
theorem dX2_add_9 : decode cX2_add 9 = .ok (.if_icmp .ge 25, 3) := by decide +kernel
theorem dX2_add_12 : decode cX2_add 12 = .ok (.aload_n 0, 1) := by decide +kernel
theorem dX2_add_13 : decode cX2_add 13 = .ok (.getfield 9, 3) := by decide +kernel
theorem dX2_add_16 : decode cX2_add 16 = .ok (.aload_n 0, 1) := by decide +kernel
theorem dX2_add_17 : decode cX2_add 17 = .ok (.getfield 18, 3) := by decide +kernel
theorem dX2_add_20 : decode cX2_add 20 = .ok (.iload_n 1, 1) := by decide +kernel
theorem dX2_add_21 : decode cX2_add 21 = .ok (.invokestatic 28, 3) := by decide +kernel
theorem dX2_add_24 : decode cX2_add 24 = .ok (.aload_n 0, 1) := by decide +kernel
theorem dX2_add_25 : decode cX2_add 25 = .ok (.dup, 1) := by decide +kernel
theorem dX2_add_26 : decode cX2_add 26 = .ok (.getfield 18, 3) := by decide +kernel
theorem dX2_add_29 : decode cX2_add 29 = .ok (.iconst 1, 1) := by decide +kernel
theorem dX2_add_30 : decode cX2_add 30 = .ok (.iadd, 1) := by decide +kernel
theorem dX2_add_31 : decode cX2_add 31 = .ok (.putfield 18, 3) := by decide +kernel
theorem dX2_add_34 : decode cX2_add 34 = .ok (.return_, 1) := by decide +kernel
theorem dX2_hasTooLong_0 : decode cX2_hasTooLong 0 = .ok (.iconst 0, 1) := by decide +kernel
theorem dX2_hasTooLong_1 : decode cX2_hasTooLong 1 = .ok (.istore_n 1, 1) := by decide +kernel
theorem dX2_hasTooLong_2 : decode cX2_hasTooLong 2 = .ok (.iload_n 1, 1) := by decide +kernel
theorem dX2_hasTooLong_3 : decode cX2_hasTooLong 3 = .ok (.aload_n 0, 1) := by decide +kernel
theorem dX2_hasTooLong_4 : decode cX2_hasTooLong 4 = .ok (.getfield 18, 3) := by decide +kernel
theorem dX2_hasTooLong_7 : decode cX2_hasTooLong 7 = .ok (.if_icmp .ge 26, 3) := by decide +kernel
theorem dX2_hasTooLong_10 : decode cX2_hasTooLong 10 = .ok (.aload_n 0, 1) := by decide +kernel
theorem dX2_hasTooLong_11 : decode cX2_hasTooLong 11 = .ok (.getfield 9, 3) := by decide +kernel
theorem dX2_hasTooLong_14 : decode cX2_hasTooLong 14 = .ok (.iload_n 1, 1) := by decide +kernel
theorem dX2_hasTooLong_15 : decode cX2_hasTooLong 15 = .ok (.invokestatic 32, 3) := by decide +kernel
theorem dX2_hasTooLong_18 : decode cX2_hasTooLong 18 = .ok (.aload_n 0, 1) := by decide +kernel
theorem dX2_hasTooLong_19 : decode cX2_hasTooLong 19 = .ok (.getfield 25, 3) := by decide +kernel
theorem dX2_hasTooLong_22 : decode cX2_hasTooLong 22 = .ok (.if_icmp .le 5, 3) := by decide +kernel
theorem dX2_hasTooLong_25 : decode cX2_hasTooLong 25 = .ok (.iconst 1, 1) := by decide +kernel
theorem dX2_hasTooLong_26 : decode cX2_hasTooLong 26 = .ok (.ireturn, 1) := by decide +kernel
theorem dX2_hasTooLong_27 : decode cX2_hasTooLong 27 = .ok (.iinc 1 1, 3) := by decide +kernel
theorem dX2_hasTooLong_30 : decode cX2_hasTooLong 30 = .ok (.goto (-28), 3) := by decide +kernel
theorem dX2_hasTooLong_33 : decode cX2_hasTooLong 33 = .ok (.iconst 0, 1) := by decide +kernel
theorem dX2_hasTooLong_34 : decode cX2_hasTooLong 34 = .ok (.ireturn, 1) := by decide +kernel
theorem dX2_goThrough_0 : decode cX2_goThrough 0 = .ok (.aload_n 0, 1) := by decide +kernel
theorem dX2_goThrough_1 : decode cX2_goThrough 1 = .ok (.getfield 18, 3) := by decide +kernel
theorem dX2_goThrough_4 : decode cX2_goThrough 4 = .ok (.ifCond .ne 5, 3) := by decide +kernel
theorem dX2_goThrough_7 : decode cX2_goThrough 7 = .ok (.iconst 0, 1) := by decide +kernel
theorem dX2_goThrough_8 : decode cX2_goThrough 8 = .ok (.ireturn, 1) := by decide +kernel
theorem dX2_goThrough_9 : decode cX2_goThrough 9 = .ok (.iconst 1, 1) := by decide +kernel
theorem dX2_goThrough_10 : decode cX2_goThrough 10 = .ok (.istore_n 1, 1) := by decide +kernel
theorem dX2_goThrough_11 : decode cX2_goThrough 11 = .ok (.aload_n 0, 1) := by decide +kernel
theorem dX2_goThrough_12 : decode cX2_goThrough 12 = .ok (.getfield 22, 3) := by decide +kernel
theorem dX2_goThrough_15 : decode cX2_goThrough 15 = .ok (.istore_n 2, 1) := by decide +kernel
theorem dX2_goThrough_16 : decode cX2_goThrough 16 = .ok (.iconst 0, 1) := by decide +kernel
theorem dX2_goThrough_17 : decode cX2_goThrough 17 = .ok (.istore_n 3, 1) := by decide +kernel
theorem dX2_goThrough_18 : decode cX2_goThrough 18 = .ok (.iload_n 3, 1) := by decide +kernel
theorem dX2_goThrough_19 : decode cX2_goThrough 19 = .ok (.aload_n 0, 1) := by decide +kernel
theorem dX2_goThrough_20 : decode cX2_goThrough 20 = .ok (.getfield 18, 3) := by decide +kernel
theorem dX2_goThrough_23 : decode cX2_goThrough 23 = .ok (.if_icmp .ge 38, 3) := by decide +kernel
theorem dX2_goThrough_26 : decode cX2_goThrough 26 = .ok (.aload_n 0, 1) := by decide +kernel
theorem dX2_goThrough_27 : decode cX2_goThrough 27 = .ok (.getfield 9, 3) := by decide +kernel
theorem dX2_goThrough_30 : decode cX2_goThrough 30 = .ok (.iload_n 3, 1) := by decide +kernel
theorem dX2_goThrough_31 : decode cX2_goThrough 31 = .ok (.invokestatic 32, 3) := by decide +kernel
theorem dX2_goThrough_34 : decode cX2_goThrough 34 = .ok (.istore 4, 2) := by decide +kernel
theorem dX2_goThrough_36 : decode cX2_goThrough 36 = .ok (.iload 4, 2) := by decide +kernel
theorem dX2_goThrough_38 : decode cX2_goThrough 38 = .ok (.iload_n 2, 1) := by decide +kernel
theorem dX2_goThrough_39 : decode cX2_goThrough 39 = .ok (.if_icmp .le 11, 3) := by decide +kernel
theorem dX2_goThrough_42 : decode cX2_goThrough 42 = .ok (.iinc 1 1, 3) := by decide +kernel
theorem dX2_goThrough_45 : decode cX2_goThrough 45 = .ok (.aload_n 0, 1) := by decide +kernel
theorem dX2_goThrough_46 : decode cX2_goThrough 46 = .ok (.getfield 25, 3) := by decide +kernel
theorem dX2_goThrough_49 : decode cX2_goThrough 49 = .ok (.istore_n 2, 1) := by decide +kernel
theorem dX2_goThrough_50 : decode cX2_goThrough 50 = .ok (.iload_n 2, 1) := by decide +kernel
theorem dX2_goThrough_51 : decode cX2_goThrough 51 = .ok (.iload 4, 2) := by decide +kernel
theorem dX2_goThrough_53 : decode cX2_goThrough 53 = .ok (.isub, 1) := by decide +kernel
theorem dX2_goThrough_54 : decode cX2_goThrough 54 = .ok (.istore_n 2, 1) := by decide +kernel
theorem dX2_goThrough_55 : decode cX2_goThrough 55 = .ok (.iinc 3 1, 3) := by decide +kernel
theorem dX2_goThrough_58 : decode cX2_goThrough 58 = .ok (.goto (-40), 3) := by decide +kernel
theorem dX2_goThrough_61 : decode cX2_goThrough 61 = .ok (.iload_n 1, 1) := by decide +kernel
theorem dX2_goThrough_62 : decode cX2_goThrough 62 = .ok (.ireturn, 1) := by decide +kernel
theorem dX2_fillTable_0 : decode cX2_fillTable 0 = .ok (.aload_n 0, 1) := by decide +kernel
theorem dX2_fillTable_1 : decode cX2_fillTable 1 = .ok (.getfield 18, 3) := by decide +kernel
theorem dX2_fillTable_4 : decode cX2_fillTable 4 = .ok (.ifCond .ne 5, 3) := by decide +kernel
theorem dX2_fillTable_7 : decode cX2_fillTable 7 = .ok (.iconst 0, 1) := by decide +kernel
theorem dX2_fillTable_8 : decode cX2_fillTable 8 = .ok (.ireturn, 1) := by decide +kernel
theorem dX2_fillTable_9 : decode cX2_fillTable 9 = .ok (.aload_n 0, 1) := by decide +kernel
theorem dX2_fillTable_10 : decode cX2_fillTable 10 = .ok (.getfield 15, 3) := by decide +kernel
theorem dX2_fillTable_13 : decode cX2_fillTable 13 = .ok (.iconst 0, 1) := by decide +kernel
theorem dX2_fillTable_14 : decode cX2_fillTable 14 = .ok (.iconst 1, 1) := by decide +kernel
theorem dX2_fillTable_15 : decode cX2_fillTable 15 = .ok (.invokestatic 28, 3) := by decide +kernel
theorem dX2_fillTable_18 : decode cX2_fillTable 18 = .ok (.iconst 1, 1) := by decide +kernel
theorem dX2_fillTable_19 : decode cX2_fillTable 19 = .ok (.istore_n 1, 1) := by decide +kernel
theorem dX2_fillTable_20 : decode cX2_fillTable 20 = .ok (.iload_n 1, 1) := by decide +kernel
theorem dX2_fillTable_21 : decode cX2_fillTable 21 = .ok (.aload_n 0, 1) := by decide +kernel
theorem dX2_fillTable_22 : decode cX2_fillTable 22 = .ok (.getfield 18, 3) := by decide +kernel
theorem dX2_fillTable_25 : decode cX2_fillTable 25 = .ok (.if_icmp .gt 22, 3) := by decide +kernel
theorem dX2_fillTable_28 : decode cX2_fillTable 28 = .ok (.aload_n 0, 1) := by decide +kernel
theorem dX2_fillTable_29 : decode cX2_fillTable 29 = .ok (.getfield 15, 3) := by decide +kernel
theorem dX2_fillTable_32 : decode cX2_fillTable 32 = .ok (.iload_n 1, 1) := by decide +kernel
theorem dX2_fillTable_33 : decode cX2_fillTable 33 = .ok (.aload_n 0, 1) := by decide +kernel
theorem dX2_fillTable_34 : decode cX2_fillTable 34 = .ok (.iload_n 1, 1) := by decide +kernel
theorem dX2_fillTable_35 : decode cX2_fillTable 35 = .ok (.invokevirtual 36, 3) := by decide +kernel
theorem dX2_fillTable_38 : decode cX2_fillTable 38 = .ok (.invokestatic 28, 3) := by decide +kernel
theorem dX2_fillTable_41 : decode cX2_fillTable 41 = .ok (.iinc 1 1, 3) := by decide +kernel
theorem dX2_fillTable_44 : decode cX2_fillTable 44 = .ok (.goto (-24), 3) := by decide +kernel
theorem dX2_fillTable_47 : decode cX2_fillTable 47 = .ok (.aload_n 0, 1) := by decide +kernel
theorem dX2_fillTable_48 : decode cX2_fillTable 48 = .ok (.getfield 15, 3) := by decide +kernel
theorem dX2_fillTable_51 : decode cX2_fillTable 51 = .ok (.aload_n 0, 1) := by decide +kernel
theorem dX2_fillTable_52 : decode cX2_fillTable 52 = .ok (.getfield 18, 3) := by decide +kernel
theorem dX2_fillTable_55 : decode cX2_fillTable 55 = .ok (.invokestatic 32, 3) := by decide +kernel
theorem dX2_fillTable_58 : decode cX2_fillTable 58 = .ok (.ireturn, 1) := by decide +kernel
theorem dX2_fewestFor_0 : decode cX2_fewestFor 0 = .ok (.iload_n 1, 1) := by decide +kernel
theorem dX2_fewestFor_1 : decode cX2_fewestFor 1 = .ok (.iconst 1, 1) := by decide +kernel
theorem dX2_fewestFor_2 : decode cX2_fewestFor 2 = .ok (.iadd, 1) := by decide +kernel
theorem dX2_fewestFor_3 : decode cX2_fewestFor 3 = .ok (.istore_n 2, 1) := by decide +kernel
theorem dX2_fewestFor_4 : decode cX2_fewestFor 4 = .ok (.iconst 0, 1) := by decide +kernel
theorem dX2_fewestFor_5 : decode cX2_fewestFor 5 = .ok (.istore_n 3, 1) := by decide +kernel
theorem dX2_fewestFor_6 : decode cX2_fewestFor 6 = .ok (.iload_n 1, 1) := by decide +kernel
theorem dX2_fewestFor_7 : decode cX2_fewestFor 7 = .ok (.iconst 1, 1) := by decide +kernel
theorem dX2_fewestFor_8 : decode cX2_fewestFor 8 = .ok (.isub, 1) := by decide +kernel
theorem dX2_fewestFor_9 : decode cX2_fewestFor 9 = .ok (.istore 4, 2) := by decide +kernel
theorem dX2_fewestFor_11 : decode cX2_fewestFor 11 = .ok (.iload 4, 2) := by decide +kernel
theorem dX2_fewestFor_13 : decode cX2_fewestFor 13 = .ok (.ifCond .lt 45, 3) := by decide +kernel
theorem dX2_fewestFor_16 : decode cX2_fewestFor 16 = .ok (.iload_n 3, 1) := by decide +kernel
theorem dX2_fewestFor_17 : decode cX2_fewestFor 17 = .ok (.aload_n 0, 1) := by decide +kernel
theorem dX2_fewestFor_18 : decode cX2_fewestFor 18 = .ok (.getfield 9, 3) := by decide +kernel
theorem dX2_fewestFor_21 : decode cX2_fewestFor 21 = .ok (.iload 4, 2) := by decide +kernel
theorem dX2_fewestFor_23 : decode cX2_fewestFor 23 = .ok (.invokestatic 32, 3) := by decide +kernel
theorem dX2_fewestFor_26 : decode cX2_fewestFor 26 = .ok (.iadd, 1) := by decide +kernel
theorem dX2_fewestFor_27 : decode cX2_fewestFor 27 = .ok (.istore_n 3, 1) := by decide +kernel
theorem dX2_fewestFor_28 : decode cX2_fewestFor 28 = .ok (.iload_n 3, 1) := by decide +kernel
theorem dX2_fewestFor_29 : decode cX2_fewestFor 29 = .ok (.aload_n 0, 1) := by decide +kernel
theorem dX2_fewestFor_30 : decode cX2_fewestFor 30 = .ok (.getfield 25, 3) := by decide +kernel
theorem dX2_fewestFor_33 : decode cX2_fewestFor 33 = .ok (.if_icmp .gt 19, 3) := by decide +kernel
theorem dX2_fewestFor_36 : decode cX2_fewestFor 36 = .ok (.iload_n 2, 1) := by decide +kernel
theorem dX2_fewestFor_37 : decode cX2_fewestFor 37 = .ok (.aload_n 0, 1) := by decide +kernel
theorem dX2_fewestFor_38 : decode cX2_fewestFor 38 = .ok (.getfield 15, 3) := by decide +kernel
theorem dX2_fewestFor_41 : decode cX2_fewestFor 41 = .ok (.iload 4, 2) := by decide +kernel
theorem dX2_fewestFor_43 : decode cX2_fewestFor 43 = .ok (.invokestatic 32, 3) := by decide +kernel
theorem dX2_fewestFor_46 : decode cX2_fewestFor 46 = .ok (.iconst 1, 1) := by decide +kernel
theorem dX2_fewestFor_47 : decode cX2_fewestFor 47 = .ok (.iadd, 1) := by decide +kernel
theorem dX2_fewestFor_48 : decode cX2_fewestFor 48 = .ok (.invokestatic 40, 3) := by decide +kernel
theorem dX2_fewestFor_51 : decode cX2_fewestFor 51 = .ok (.istore_n 2, 1) := by decide +kernel
theorem dX2_fewestFor_52 : decode cX2_fewestFor 52 = .ok (.iinc 4 (-1), 3) := by decide +kernel
theorem dX2_fewestFor_55 : decode cX2_fewestFor 55 = .ok (.goto (-44), 3) := by decide +kernel
theorem dX2_fewestFor_58 : decode cX2_fewestFor 58 = .ok (.iload_n 3, 1) := by decide +kernel
theorem dX2_fewestFor_59 : decode cX2_fewestFor 59 = .ok (.aload_n 0, 1) := by decide +kernel
theorem dX2_fewestFor_60 : decode cX2_fewestFor 60 = .ok (.getfield 22, 3) := by decide +kernel
theorem dX2_fewestFor_63 : decode cX2_fewestFor 63 = .ok (.if_icmp .gt 7, 3) := by decide +kernel
theorem dX2_fewestFor_66 : decode cX2_fewestFor 66 = .ok (.iconst 1, 1) := by decide +kernel
theorem dX2_fewestFor_67 : decode cX2_fewestFor 67 = .ok (.goto 4, 3) := by decide +kernel
theorem dX2_fewestFor_70 : decode cX2_fewestFor 70 = .ok (.iload_n 2, 1) := by decide +kernel
theorem dX2_fewestFor_71 : decode cX2_fewestFor 71 = .ok (.ireturn, 1) := by decide +kernel
theorem dJ6_bitCount_0f7a4_0 : decode cJ6_bitCount_0f7a4 0 = .ok (.iload_n 0, 1) := by decide +kernel
theorem dJ6_bitCount_0f7a4_1 : decode cJ6_bitCount_0f7a4 1 = .ok (.iload_n 0, 1) := by decide +kernel
theorem dJ6_bitCount_0f7a4_2 : decode cJ6_bitCount_0f7a4 2 = .ok (.iconst 1, 1) := by decide +kernel
theorem dJ6_bitCount_0f7a4_3 : decode cJ6_bitCount_0f7a4 3 = .ok (.iushr, 1) := by decide +kernel
theorem dJ6_bitCount_0f7a4_4 : decode cJ6_bitCount_0f7a4 4 = .ok (.ldc_w 265, 3) := by decide +kernel
theorem dJ6_bitCount_0f7a4_7 : decode cJ6_bitCount_0f7a4 7 = .ok (.iand, 1) := by decide +kernel
theorem dJ6_bitCount_0f7a4_8 : decode cJ6_bitCount_0f7a4 8 = .ok (.isub, 1) := by decide +kernel
theorem dJ6_bitCount_0f7a4_9 : decode cJ6_bitCount_0f7a4 9 = .ok (.istore_n 0, 1) := by decide +kernel
theorem dJ6_bitCount_0f7a4_10 : decode cJ6_bitCount_0f7a4 10 = .ok (.iload_n 0, 1) := by decide +kernel
theorem dJ6_bitCount_0f7a4_11 : decode cJ6_bitCount_0f7a4 11 = .ok (.ldc_w 266, 3) := by decide +kernel
theorem dJ6_bitCount_0f7a4_14 : decode cJ6_bitCount_0f7a4 14 = .ok (.iand, 1) := by decide +kernel
theorem dJ6_bitCount_0f7a4_15 : decode cJ6_bitCount_0f7a4 15 = .ok (.iload_n 0, 1) := by decide +kernel
theorem dJ6_bitCount_0f7a4_16 : decode cJ6_bitCount_0f7a4 16 = .ok (.iconst 2, 1) := by decide +kernel
theorem dJ6_bitCount_0f7a4_17 : decode cJ6_bitCount_0f7a4 17 = .ok (.iushr, 1) := by decide +kernel
theorem dJ6_bitCount_0f7a4_18 : decode cJ6_bitCount_0f7a4 18 = .ok (.ldc_w 266, 3) := by decide +kernel
theorem dJ6_bitCount_0f7a4_21 : decode cJ6_bitCount_0f7a4 21 = .ok (.iand, 1) := by decide +kernel
theorem dJ6_bitCount_0f7a4_22 : decode cJ6_bitCount_0f7a4 22 = .ok (.iadd, 1) := by decide +kernel
theorem dJ6_bitCount_0f7a4_23 : decode cJ6_bitCount_0f7a4 23 = .ok (.istore_n 0, 1) := by decide +kernel
theorem dJ6_bitCount_0f7a4_24 : decode cJ6_bitCount_0f7a4 24 = .ok (.iload_n 0, 1) := by decide +kernel
theorem dJ6_bitCount_0f7a4_25 : decode cJ6_bitCount_0f7a4 25 = .ok (.iload_n 0, 1) := by decide +kernel
theorem dJ6_bitCount_0f7a4_26 : decode cJ6_bitCount_0f7a4 26 = .ok (.iconst 4, 1) := by decide +kernel
theorem dJ6_bitCount_0f7a4_27 : decode cJ6_bitCount_0f7a4 27 = .ok (.iushr, 1) := by decide +kernel
theorem dJ6_bitCount_0f7a4_28 : decode cJ6_bitCount_0f7a4 28 = .ok (.iadd, 1) := by decide +kernel
theorem dJ6_bitCount_0f7a4_29 : decode cJ6_bitCount_0f7a4 29 = .ok (.ldc_w 267, 3) := by decide +kernel
theorem dJ6_bitCount_0f7a4_32 : decode cJ6_bitCount_0f7a4 32 = .ok (.iand, 1) := by decide +kernel
theorem dJ6_bitCount_0f7a4_33 : decode cJ6_bitCount_0f7a4 33 = .ok (.istore_n 0, 1) := by decide +kernel
theorem dJ6_bitCount_0f7a4_34 : decode cJ6_bitCount_0f7a4 34 = .ok (.iload_n 0, 1) := by decide +kernel
theorem dJ6_bitCount_0f7a4_35 : decode cJ6_bitCount_0f7a4 35 = .ok (.iload_n 0, 1) := by decide +kernel
theorem dJ6_bitCount_0f7a4_36 : decode cJ6_bitCount_0f7a4 36 = .ok (.bipush 8, 2) := by decide +kernel
theorem dJ6_bitCount_0f7a4_38 : decode cJ6_bitCount_0f7a4 38 = .ok (.iushr, 1) := by decide +kernel
theorem dJ6_bitCount_0f7a4_39 : decode cJ6_bitCount_0f7a4 39 = .ok (.iadd, 1) := by decide +kernel
theorem dJ6_bitCount_0f7a4_40 : decode cJ6_bitCount_0f7a4 40 = .ok (.istore_n 0, 1) := by decide +kernel
theorem dJ6_bitCount_0f7a4_41 : decode cJ6_bitCount_0f7a4 41 = .ok (.iload_n 0, 1) := by decide +kernel
theorem dJ6_bitCount_0f7a4_42 : decode cJ6_bitCount_0f7a4 42 = .ok (.iload_n 0, 1) := by decide +kernel
theorem dJ6_bitCount_0f7a4_43 : decode cJ6_bitCount_0f7a4 43 = .ok (.bipush 16, 2) := by decide +kernel
theorem dJ6_bitCount_0f7a4_45 : decode cJ6_bitCount_0f7a4 45 = .ok (.iushr, 1) := by decide +kernel
theorem dJ6_bitCount_0f7a4_46 : decode cJ6_bitCount_0f7a4 46 = .ok (.iadd, 1) := by decide +kernel
theorem dJ6_bitCount_0f7a4_47 : decode cJ6_bitCount_0f7a4 47 = .ok (.istore_n 0, 1) := by decide +kernel
theorem dJ6_bitCount_0f7a4_48 : decode cJ6_bitCount_0f7a4 48 = .ok (.iload_n 0, 1) := by decide +kernel
theorem dJ6_bitCount_0f7a4_49 : decode cJ6_bitCount_0f7a4 49 = .ok (.bipush 63, 2) := by decide +kernel
theorem dJ6_bitCount_0f7a4_51 : decode cJ6_bitCount_0f7a4 51 = .ok (.iand, 1) := by decide +kernel
theorem dJ6_bitCount_0f7a4_52 : decode cJ6_bitCount_0f7a4 52 = .ok (.ireturn, 1) := by decide +kernel
theorem dJ9_max_7cf53_0 : decode cJ9_max_7cf53 0 = .ok (.iload_n 0, 1) := by decide +kernel
theorem dJ9_max_7cf53_1 : decode cJ9_max_7cf53 1 = .ok (.iload_n 1, 1) := by decide +kernel
theorem dJ9_max_7cf53_2 : decode cJ9_max_7cf53 2 = .ok (.if_icmp .lt 7, 3) := by decide +kernel
theorem dJ9_max_7cf53_5 : decode cJ9_max_7cf53 5 = .ok (.iload_n 0, 1) := by decide +kernel
theorem dJ9_max_7cf53_6 : decode cJ9_max_7cf53 6 = .ok (.goto 4, 3) := by decide +kernel
theorem dJ9_max_7cf53_9 : decode cJ9_max_7cf53 9 = .ok (.iload_n 1, 1) := by decide +kernel
theorem dJ9_max_7cf53_10 : decode cJ9_max_7cf53 10 = .ok (.ireturn, 1) := by decide +kernel
theorem dJ9_min_7cf53_0 : decode cJ9_min_7cf53 0 = .ok (.iload_n 0, 1) := by decide +kernel
theorem dJ9_min_7cf53_1 : decode cJ9_min_7cf53 1 = .ok (.iload_n 1, 1) := by decide +kernel
theorem dJ9_min_7cf53_2 : decode cJ9_min_7cf53 2 = .ok (.if_icmp .gt 7, 3) := by decide +kernel
theorem dJ9_min_7cf53_5 : decode cJ9_min_7cf53 5 = .ok (.iload_n 0, 1) := by decide +kernel
theorem dJ9_min_7cf53_6 : decode cJ9_min_7cf53 6 = .ok (.goto 4, 3) := by decide +kernel
theorem dJ9_min_7cf53_9 : decode cJ9_min_7cf53 9 = .ok (.iload_n 1, 1) := by decide +kernel
theorem dJ9_min_7cf53_10 : decode cJ9_min_7cf53 10 = .ok (.ireturn, 1) := by decide +kernel
