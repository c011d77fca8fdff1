theorem d_M_init_700 : decode b_M_init 700 = .ok (.ldc 156, 2) := by decide +kernel
theorem d_M_init_702 : decode b_M_init 702 = .ok (.aastore, 1) := by decide +kernel
theorem d_M_init_703 : decode b_M_init 703 = .ok (.dup, 1) := by decide +kernel
theorem d_M_init_704 : decode b_M_init 704 = .ok (.bipush 28, 2) := by decide +kernel
theorem d_M_init_706 : decode b_M_init 706 = .ok (.ldc 183, 2) := by decide +kernel
theorem d_M_init_708 : decode b_M_init 708 = .ok (.aastore, 1) := by decide +kernel
theorem d_M_init_709 : decode b_M_init 709 = .ok (.dup, 1) := by decide +kernel
theorem d_M_init_710 : decode b_M_init 710 = .ok (.bipush 29, 2) := by decide +kernel
theorem d_M_init_712 : decode b_M_init 712 = .ok (.ldc 156, 2) := by decide +kernel
theorem d_M_init_714 : decode b_M_init 714 = .ok (.aastore, 1) := by decide +kernel
theorem d_M_init_715 : decode b_M_init 715 = .ok (.dup, 1) := by decide +kernel
theorem d_M_init_716 : decode b_M_init 716 = .ok (.bipush 30, 2) := by decide +kernel
theorem d_M_init_718 : decode b_M_init 718 = .ok (.ldc 119, 2) := by decide +kernel
theorem d_M_init_720 : decode b_M_init 720 = .ok (.aastore, 1) := by decide +kernel
theorem d_M_init_721 : decode b_M_init 721 = .ok (.dup, 1) := by decide +kernel
theorem d_M_init_722 : decode b_M_init 722 = .ok (.bipush 31, 2) := by decide +kernel
theorem d_M_init_724 : decode b_M_init 724 = .ok (.ldc 156, 2) := by decide +kernel
theorem d_M_init_726 : decode b_M_init 726 = .ok (.aastore, 1) := by decide +kernel
theorem d_M_init_727 : decode b_M_init 727 = .ok (.dup, 1) := by decide +kernel
theorem d_M_init_728 : decode b_M_init 728 = .ok (.bipush 32, 2) := by decide +kernel
theorem d_M_init_730 : decode b_M_init 730 = .ok (.ldc 131, 2) := by decide +kernel
theorem d_M_init_732 : decode b_M_init 732 = .ok (.aastore, 1) := by decide +kernel
theorem d_M_init_733 : decode b_M_init 733 = .ok (.dup, 1) := by decide +kernel
theorem d_M_init_734 : decode b_M_init 734 = .ok (.bipush 33, 2) := by decide +kernel
theorem d_M_init_736 : decode b_M_init 736 = .ok (.ldc 156, 2) := by decide +kernel
theorem d_M_init_738 : decode b_M_init 738 = .ok (.aastore, 1) := by decide +kernel
theorem d_M_init_739 : decode b_M_init 739 = .ok (.dup, 1) := by decide +kernel
theorem d_M_init_740 : decode b_M_init 740 = .ok (.bipush 34, 2) := by decide +kernel
theorem d_M_init_742 : decode b_M_init 742 = .ok (.ldc 99, 2) := by decide +kernel
theorem d_M_init_744 : decode b_M_init 744 = .ok (.aastore, 1) := by decide +kernel
theorem d_M_init_745 : decode b_M_init 745 = .ok (.dup, 1) := by decide +kernel
theorem d_M_init_746 : decode b_M_init 746 = .ok (.bipush 35, 2) := by decide +kernel
theorem d_M_init_748 : decode b_M_init 748 = .ok (.ldc 156, 2) := by decide +kernel
theorem d_M_init_750 : decode b_M_init 750 = .ok (.aastore, 1) := by decide +kernel
theorem d_M_init_751 : decode b_M_init 751 = .ok (.dup, 1) := by decide +kernel
theorem d_M_init_752 : decode b_M_init 752 = .ok (.bipush 36, 2) := by decide +kernel
theorem d_M_init_754 : decode b_M_init 754 = .ok (.ldc 185, 2) := by decide +kernel
theorem d_M_init_756 : decode b_M_init 756 = .ok (.aastore, 1) := by decide +kernel
theorem d_M_init_757 : decode b_M_init 757 = .ok (.dup, 1) := by decide +kernel
theorem d_M_init_758 : decode b_M_init 758 = .ok (.bipush 37, 2) := by decide +kernel
theorem d_M_init_760 : decode b_M_init 760 = .ok (.ldc 156, 2) := by decide +kernel
theorem d_M_init_762 : decode b_M_init 762 = .ok (.aastore, 1) := by decide +kernel
theorem d_M_init_763 : decode b_M_init 763 = .ok (.putfield 187, 3) := by decide +kernel
theorem d_M_init_766 : decode b_M_init 766 = .ok (.aload_n 0, 1) := by decide +kernel
theorem d_M_init_767 : decode b_M_init 767 = .ok (.sipush 8192, 3) := by decide +kernel
theorem d_M_init_770 : decode b_M_init 770 = .ok (.newarray .byte, 2) := by decide +kernel
theorem d_M_init_772 : decode b_M_init 772 = .ok (.putfield 190, 3) := by decide +kernel
theorem d_M_init_775 : decode b_M_init 775 = .ok (.aload_n 0, 1) := by decide +kernel
theorem d_M_init_776 : decode b_M_init 776 = .ok (.sipush 8192, 3) := by decide +kernel
theorem d_M_init_779 : decode b_M_init 779 = .ok (.newarray .int, 2) := by decide +kernel
theorem d_M_init_781 : decode b_M_init 781 = .ok (.putfield 194, 3) := by decide +kernel
theorem d_M_init_784 : decode b_M_init 784 = .ok (.aload_n 0, 1) := by decide +kernel
theorem d_M_init_785 : decode b_M_init 785 = .ok (.sipush 8704, 3) := by decide +kernel
theorem d_M_init_788 : decode b_M_init 788 = .ok (.newarray .int, 2) := by decide +kernel
theorem d_M_init_790 : decode b_M_init 790 = .ok (.putfield 198, 3) := by decide +kernel
theorem d_M_init_793 : decode b_M_init 793 = .ok (.aload_n 0, 1) := by decide +kernel
theorem d_M_init_794 : decode b_M_init 794 = .ok (.sipush 8193, 3) := by decide +kernel
theorem d_M_init_797 : decode b_M_init 797 = .ok (.newarray .int, 2) := by decide +kernel
theorem d_M_init_799 : decode b_M_init 799 = .ok (.putfield 201, 3) := by decide +kernel
theorem d_M_init_802 : decode b_M_init 802 = .ok (.aload_n 0, 1) := by decide +kernel
theorem d_M_init_803 : decode b_M_init 803 = .ok (.sipush 8192, 3) := by decide +kernel
theorem d_M_init_806 : decode b_M_init 806 = .ok (.newarray .int, 2) := by decide +kernel
theorem d_M_init_808 : decode b_M_init 808 = .ok (.putfield 204, 3) := by decide +kernel
theorem d_M_init_811 : decode b_M_init 811 = .ok (.aload_n 0, 1) := by decide +kernel
theorem d_M_init_812 : decode b_M_init 812 = .ok (.sipush 260, 3) := by decide +kernel
theorem d_M_init_815 : decode b_M_init 815 = .ok (.newarray .int, 2) := by decide +kernel
theorem d_M_init_817 : decode b_M_init 817 = .ok (.putfield 207, 3) := by decide +kernel
theorem d_M_init_820 : decode b_M_init 820 = .ok (.return_, 1) := by decide +kernel
theorem d_M_thrown_0 : decode b_M_thrown 0 = .ok (.aload_n 0, 1) := by decide +kernel
theorem d_M_thrown_1 : decode b_M_thrown 1 = .ok (.getfield 210, 3) := by decide +kernel
theorem d_M_thrown_4 : decode b_M_thrown 4 = .ok (.ireturn, 1) := by decide +kernel
theorem d_M_feed_0 : decode b_M_feed 0 = .ok (.aload_n 0, 1) := by decide +kernel
theorem d_M_feed_1 : decode b_M_feed 1 = .ok (.aload_n 0, 1) := by decide +kernel
theorem d_M_feed_2 : decode b_M_feed 2 = .ok (.getfield 326, 3) := by decide +kernel
theorem d_M_feed_5 : decode b_M_feed 5 = .ok (.bipush 20, 2) := by decide +kernel
theorem d_M_feed_7 : decode b_M_feed 7 = .ok (.iadd, 1) := by decide +kernel
theorem d_M_feed_8 : decode b_M_feed 8 = .ok (.sipush 8192, 3) := by decide +kernel
theorem d_M_feed_11 : decode b_M_feed 11 = .ok (.if_icmp .le 7, 3) := by decide +kernel
theorem d_M_feed_14 : decode b_M_feed 14 = .ok (.iconst 1, 1) := by decide +kernel
theorem d_M_feed_15 : decode b_M_feed 15 = .ok (.goto 4, 3) := by decide +kernel
theorem d_M_feed_18 : decode b_M_feed 18 = .ok (.iconst 0, 1) := by decide +kernel
theorem d_M_feed_19 : decode b_M_feed 19 = .ok (.putfield 210, 3) := by decide +kernel
theorem d_M_feed_22 : decode b_M_feed 22 = .ok (.aload_n 0, 1) := by decide +kernel
theorem d_M_feed_23 : decode b_M_feed 23 = .ok (.getfield 210, 3) := by decide +kernel
theorem d_M_feed_26 : decode b_M_feed 26 = .ok (.ifCond .eq 5, 3) := by decide +kernel
theorem d_M_feed_29 : decode b_M_feed 29 = .ok (.iconst 0, 1) := by decide +kernel
theorem d_M_feed_30 : decode b_M_feed 30 = .ok (.ireturn, 1) := by decide +kernel
theorem d_M_feed_31 : decode b_M_feed 31 = .ok (.iconst 0, 1) := by decide +kernel
theorem d_M_feed_32 : decode b_M_feed 32 = .ok (.istore 6, 2) := by decide +kernel
theorem d_M_feed_34 : decode b_M_feed 34 = .ok (.iload 6, 2) := by decide +kernel
theorem d_M_feed_36 : decode b_M_feed 36 = .ok (.bipush 20, 2) := by decide +kernel
theorem d_M_feed_38 : decode b_M_feed 38 = .ok (.if_icmp .ge 83, 3) := by decide +kernel
theorem d_M_feed_41 : decode b_M_feed 41 = .ok (.iload 6, 2) := by decide +kernel
theorem d_M_feed_43 : decode b_M_feed 43 = .ok (.iconst 4, 1) := by decide +kernel
theorem d_M_feed_44 : decode b_M_feed 44 = .ok (.if_icmp .ge 7, 3) := by decide +kernel
theorem d_M_feed_47 : decode b_M_feed 47 = .ok (.iload_n 1, 1) := by decide +kernel
theorem d_M_feed_48 : decode b_M_feed 48 = .ok (.goto 39, 3) := by decide +kernel
theorem d_M_feed_51 : decode b_M_feed 51 = .ok (.iload 6, 2) := by decide +kernel
theorem d_M_feed_53 : decode b_M_feed 53 = .ok (.bipush 8, 2) := by decide +kernel
theorem d_M_feed_55 : decode b_M_feed 55 = .ok (.if_icmp .ge 7, 3) := by decide +kernel
theorem d_M_feed_58 : decode b_M_feed 58 = .ok (.iload_n 2, 1) := by decide +kernel
theorem d_M_feed_59 : decode b_M_feed 59 = .ok (.goto 28, 3) := by decide +kernel
theorem d_M_feed_62 : decode b_M_feed 62 = .ok (.iload 6, 2) := by decide +kernel
theorem d_M_feed_64 : decode b_M_feed 64 = .ok (.bipush 12, 2) := by decide +kernel
theorem d_M_feed_66 : decode b_M_feed 66 = .ok (.if_icmp .ge 7, 3) := by decide +kernel
theorem d_M_feed_69 : decode b_M_feed 69 = .ok (.iload_n 3, 1) := by decide +kernel
theorem d_M_feed_70 : decode b_M_feed 70 = .ok (.goto 17, 3) := by decide +kernel
theorem d_M_feed_73 : decode b_M_feed 73 = .ok (.iload 6, 2) := by decide +kernel
theorem d_M_feed_75 : decode b_M_feed 75 = .ok (.bipush 16, 2) := by decide +kernel
theorem d_M_feed_77 : decode b_M_feed 77 = .ok (.if_icmp .ge 8, 3) := by decide +kernel
theorem d_M_feed_80 : decode b_M_feed 80 = .ok (.iload 4, 2) := by decide +kernel
theorem d_M_feed_82 : decode b_M_feed 82 = .ok (.goto 5, 3) := by decide +kernel
theorem d_M_feed_85 : decode b_M_feed 85 = .ok (.iload 5, 2) := by decide +kernel
theorem d_M_feed_87 : decode b_M_feed 87 = .ok (.istore 7, 2) := by decide +kernel
theorem d_M_feed_89 : decode b_M_feed 89 = .ok (.aload_n 0, 1) := by decide +kernel
theorem d_M_feed_90 : decode b_M_feed 90 = .ok (.getfield 190, 3) := by decide +kernel
theorem d_M_feed_93 : decode b_M_feed 93 = .ok (.aload_n 0, 1) := by decide +kernel
theorem d_M_feed_94 : decode b_M_feed 94 = .ok (.getfield 326, 3) := by decide +kernel
theorem d_M_feed_97 : decode b_M_feed 97 = .ok (.iload 6, 2) := by decide +kernel
theorem d_M_feed_99 : decode b_M_feed 99 = .ok (.iadd, 1) := by decide +kernel
theorem d_M_feed_100 : decode b_M_feed 100 = .ok (.iload 7, 2) := by decide +kernel
theorem d_M_feed_102 : decode b_M_feed 102 = .ok (.bipush 24, 2) := by decide +kernel
theorem d_M_feed_104 : decode b_M_feed 104 = .ok (.iload 6, 2) := by decide +kernel
theorem d_M_feed_106 : decode b_M_feed 106 = .ok (.iconst 4, 1) := by decide +kernel
theorem d_M_feed_107 : decode b_M_feed 107 = .ok (.irem, 1) := by decide +kernel
theorem d_M_feed_108 : decode b_M_feed 108 = .ok (.bipush 8, 2) := by decide +kernel
theorem d_M_feed_110 : decode b_M_feed 110 = .ok (.imul, 1) := by decide +kernel
theorem d_M_feed_111 : decode b_M_feed 111 = .ok (.isub, 1) := by decide +kernel
theorem d_M_feed_112 : decode b_M_feed 112 = .ok (.iushr, 1) := by decide +kernel
theorem d_M_feed_113 : decode b_M_feed 113 = .ok (.i2b, 1) := by decide +kernel
theorem d_M_feed_114 : decode b_M_feed 114 = .ok (.bastore, 1) := by decide +kernel
theorem d_M_feed_115 : decode b_M_feed 115 = .ok (.iinc 6 1, 3) := by decide +kernel
theorem d_M_feed_118 : decode b_M_feed 118 = .ok (.goto (-84), 3) := by decide +kernel
theorem d_M_feed_121 : decode b_M_feed 121 = .ok (.aload_n 0, 1) := by decide +kernel
theorem d_M_feed_122 : decode b_M_feed 122 = .ok (.dup, 1) := by decide +kernel
theorem d_M_feed_123 : decode b_M_feed 123 = .ok (.getfield 326, 3) := by decide +kernel
theorem d_M_feed_126 : decode b_M_feed 126 = .ok (.bipush 20, 2) := by decide +kernel
theorem d_M_feed_128 : decode b_M_feed 128 = .ok (.iadd, 1) := by decide +kernel
theorem d_M_feed_129 : decode b_M_feed 129 = .ok (.putfield 326, 3) := by decide +kernel
theorem d_M_feed_132 : decode b_M_feed 132 = .ok (.aload_n 0, 1) := by decide +kernel
theorem d_M_feed_133 : decode b_M_feed 133 = .ok (.getfield 326, 3) := by decide +kernel
theorem d_M_feed_136 : decode b_M_feed 136 = .ok (.ireturn, 1) := by decide +kernel
theorem d_M_end_0 : decode b_M_end 0 = .ok (.aload_n 0, 1) := by decide +kernel
theorem d_M_end_1 : decode b_M_end 1 = .ok (.iload_n 1, 1) := by decide +kernel
theorem d_M_end_2 : decode b_M_end 2 = .ok (.ifCond .lt 20, 3) := by decide +kernel
theorem d_M_end_5 : decode b_M_end 5 = .ok (.iload_n 1, 1) := by decide +kernel
theorem d_M_end_6 : decode b_M_end 6 = .ok (.bipush 19, 2) := by decide +kernel
theorem d_M_end_8 : decode b_M_end 8 = .ok (.if_icmp .gt 14, 3) := by decide +kernel
theorem d_M_end_11 : decode b_M_end 11 = .ok (.bipush 20, 2) := by decide +kernel
theorem d_M_end_13 : decode b_M_end 13 = .ok (.iload_n 1, 1) := by decide +kernel
theorem d_M_end_14 : decode b_M_end 14 = .ok (.isub, 1) := by decide +kernel
theorem d_M_end_15 : decode b_M_end 15 = .ok (.aload_n 0, 1) := by decide +kernel
theorem d_M_end_16 : decode b_M_end 16 = .ok (.getfield 326, 3) := by decide +kernel
theorem d_M_end_19 : decode b_M_end 19 = .ok (.if_icmp .le 7, 3) := by decide +kernel
theorem d_M_end_22 : decode b_M_end 22 = .ok (.iconst 1, 1) := by decide +kernel
theorem d_M_end_23 : decode b_M_end 23 = .ok (.goto 4, 3) := by decide +kernel
theorem d_M_end_26 : decode b_M_end 26 = .ok (.iconst 0, 1) := by decide +kernel
theorem d_M_end_27 : decode b_M_end 27 = .ok (.putfield 210, 3) := by decide +kernel
theorem d_M_end_30 : decode b_M_end 30 = .ok (.aload_n 0, 1) := by decide +kernel
theorem d_M_end_31 : decode b_M_end 31 = .ok (.getfield 210, 3) := by decide +kernel
theorem d_M_end_34 : decode b_M_end 34 = .ok (.ifCond .eq 5, 3) := by decide +kernel
theorem d_M_end_37 : decode b_M_end 37 = .ok (.iconst 0, 1) := by decide +kernel
theorem d_M_end_38 : decode b_M_end 38 = .ok (.ireturn, 1) := by decide +kernel
theorem d_M_end_39 : decode b_M_end 39 = .ok (.aload_n 0, 1) := by decide +kernel
theorem d_M_end_40 : decode b_M_end 40 = .ok (.dup, 1) := by decide +kernel
theorem d_M_end_41 : decode b_M_end 41 = .ok (.getfield 326, 3) := by decide +kernel
theorem d_M_end_44 : decode b_M_end 44 = .ok (.bipush 20, 2) := by decide +kernel
theorem d_M_end_46 : decode b_M_end 46 = .ok (.iload_n 1, 1) := by decide +kernel
theorem d_M_end_47 : decode b_M_end 47 = .ok (.isub, 1) := by decide +kernel
theorem d_M_end_48 : decode b_M_end 48 = .ok (.isub, 1) := by decide +kernel
theorem d_M_end_49 : decode b_M_end 49 = .ok (.putfield 326, 3) := by decide +kernel
theorem d_M_end_52 : decode b_M_end 52 = .ok (.aload_n 0, 1) := by decide +kernel
theorem d_M_end_53 : decode b_M_end 53 = .ok (.getfield 326, 3) := by decide +kernel
theorem d_M_end_56 : decode b_M_end 56 = .ok (.ireturn, 1) := by decide +kernel
theorem d_M_cut_v_0 : decode b_M_cut_v 0 = .ok (.aload_n 0, 1) := by decide +kernel
theorem d_M_cut_v_1 : decode b_M_cut_v 1 = .ok (.iconst 0, 1) := by decide +kernel
theorem d_M_cut_v_2 : decode b_M_cut_v 2 = .ok (.putfield 210, 3) := by decide +kernel
theorem d_M_cut_v_5 : decode b_M_cut_v 5 = .ok (.aload_n 0, 1) := by decide +kernel
theorem d_M_cut_v_6 : decode b_M_cut_v 6 = .ok (.aload_n 0, 1) := by decide +kernel
theorem d_M_cut_v_7 : decode b_M_cut_v 7 = .ok (.getfield 190, 3) := by decide +kernel
theorem d_M_cut_v_10 : decode b_M_cut_v 10 = .ok (.iconst 0, 1) := by decide +kernel
theorem d_M_cut_v_11 : decode b_M_cut_v 11 = .ok (.aload_n 0, 1) := by decide +kernel
theorem d_M_cut_v_12 : decode b_M_cut_v 12 = .ok (.getfield 326, 3) := by decide +kernel
theorem d_M_cut_v_15 : decode b_M_cut_v 15 = .ok (.invokevirtual 329, 3) := by decide +kernel
theorem d_M_cut_v_18 : decode b_M_cut_v 18 = .ok (.aload_n 0, 1) := by decide +kernel
theorem d_M_cut_v_19 : decode b_M_cut_v 19 = .ok (.iconst 0, 1) := by decide +kernel
theorem d_M_cut_v_20 : decode b_M_cut_v 20 = .ok (.putfield 326, 3) := by decide +kernel
theorem d_M_cut_v_23 : decode b_M_cut_v 23 = .ok (.aload_n 0, 1) := by decide +kernel
theorem d_M_cut_v_24 : decode b_M_cut_v 24 = .ok (.aload_n 0, 1) := by decide +kernel
theorem d_M_cut_v_25 : decode b_M_cut_v 25 = .ok (.getfield 194, 3) := by decide +kernel
theorem d_M_cut_v_28 : decode b_M_cut_v 28 = .ok (.iconst 0, 1) := by decide +kernel
theorem d_M_cut_v_29 : decode b_M_cut_v 29 = .ok (.aload_n 0, 1) := by decide +kernel
theorem d_M_cut_v_30 : decode b_M_cut_v 30 = .ok (.getfield 218, 3) := by decide +kernel
theorem d_M_cut_v_33 : decode b_M_cut_v 33 = .ok (.invokevirtual 333, 3) := by decide +kernel
theorem d_M_cut_v_36 : decode b_M_cut_v 36 = .ok (.aload_n 0, 1) := by decide +kernel
theorem d_M_cut_v_37 : decode b_M_cut_v 37 = .ok (.getfield 234, 3) := by decide +kernel
theorem d_M_cut_v_40 : decode b_M_cut_v 40 = .ok (.ireturn, 1) := by decide +kernel
theorem d_M_decode_0 : decode b_M_decode 0 = .ok (.aload_n 0, 1) := by decide +kernel
theorem d_M_decode_1 : decode b_M_decode 1 = .ok (.iconst 0, 1) := by decide +kernel
theorem d_M_decode_2 : decode b_M_decode 2 = .ok (.putfield 218, 3) := by decide +kernel
theorem d_M_decode_5 : decode b_M_decode 5 = .ok (.iload_n 2, 1) := by decide +kernel
theorem d_M_decode_6 : decode b_M_decode 6 = .ok (.istore 4, 2) := by decide +kernel
theorem d_M_decode_8 : decode b_M_decode 8 = .ok (.iload 4, 2) := by decide +kernel
theorem d_M_decode_10 : decode b_M_decode 10 = .ok (.iload_n 3, 1) := by decide +kernel
theorem d_M_decode_11 : decode b_M_decode 11 = .ok (.if_icmp .ge 195, 3) := by decide +kernel
theorem d_M_decode_14 : decode b_M_decode 14 = .ok (.aload_n 1, 1) := by decide +kernel
theorem d_M_decode_15 : decode b_M_decode 15 = .ok (.iload 4, 2) := by decide +kernel
theorem d_M_decode_17 : decode b_M_decode 17 = .ok (.iload_n 3, 1) := by decide +kernel
theorem d_M_decode_18 : decode b_M_decode 18 = .ok (.invokestatic 221, 3) := by decide +kernel
theorem d_M_decode_21 : decode b_M_decode 21 = .ok (.istore 5, 2) := by decide +kernel
theorem d_M_decode_23 : decode b_M_decode 23 = .ok (.ldc 225, 2) := by decide +kernel
theorem d_M_decode_25 : decode b_M_decode 25 = .ok (.istore 6, 2) := by decide +kernel
theorem d_M_decode_27 : decode b_M_decode 27 = .ok (.iload 5, 2) := by decide +kernel
theorem d_M_decode_29 : decode b_M_decode 29 = .ok (.iconst 1, 1) := by decide +kernel
theorem d_M_decode_30 : decode b_M_decode 30 = .ok (.if_icmp .ne 13, 3) := by decide +kernel
theorem d_M_decode_33 : decode b_M_decode 33 = .ok (.aload_n 1, 1) := by decide +kernel
theorem d_M_decode_34 : decode b_M_decode 34 = .ok (.iload 4, 2) := by decide +kernel
theorem d_M_decode_36 : decode b_M_decode 36 = .ok (.baload, 1) := by decide +kernel
theorem d_M_decode_37 : decode b_M_decode 37 = .ok (.sipush 255, 3) := by decide +kernel
theorem d_M_decode_40 : decode b_M_decode 40 = .ok (.iand, 1) := by decide +kernel
theorem d_M_decode_41 : decode b_M_decode 41 = .ok (.istore 6, 2) := by decide +kernel
theorem d_M_decode_43 : decode b_M_decode 43 = .ok (.iload 5, 2) := by decide +kernel
theorem d_M_decode_45 : decode b_M_decode 45 = .ok (.iconst 2, 1) := by decide +kernel
theorem d_M_decode_46 : decode b_M_decode 46 = .ok (.if_icmp .ne 25, 3) := by decide +kernel
theorem d_M_decode_49 : decode b_M_decode 49 = .ok (.aload_n 1, 1) := by decide +kernel
theorem d_M_decode_50 : decode b_M_decode 50 = .ok (.iload 4, 2) := by decide +kernel
theorem d_M_decode_52 : decode b_M_decode 52 = .ok (.baload, 1) := by decide +kernel
theorem d_M_decode_53 : decode b_M_decode 53 = .ok (.bipush 31, 2) := by decide +kernel
theorem d_M_decode_55 : decode b_M_decode 55 = .ok (.iand, 1) := by decide +kernel
theorem d_M_decode_56 : decode b_M_decode 56 = .ok (.bipush 6, 2) := by decide +kernel
theorem d_M_decode_58 : decode b_M_decode 58 = .ok (.ishl, 1) := by decide +kernel
theorem d_M_decode_59 : decode b_M_decode 59 = .ok (.aload_n 1, 1) := by decide +kernel
theorem d_M_decode_60 : decode b_M_decode 60 = .ok (.iload 4, 2) := by decide +kernel
theorem d_M_decode_62 : decode b_M_decode 62 = .ok (.iconst 1, 1) := by decide +kernel
theorem d_M_decode_63 : decode b_M_decode 63 = .ok (.iadd, 1) := by decide +kernel
theorem d_M_decode_64 : decode b_M_decode 64 = .ok (.baload, 1) := by decide +kernel
theorem d_M_decode_65 : decode b_M_decode 65 = .ok (.bipush 63, 2) := by decide +kernel
theorem d_M_decode_67 : decode b_M_decode 67 = .ok (.iand, 1) := by decide +kernel
theorem d_M_decode_68 : decode b_M_decode 68 = .ok (.ior, 1) := by decide +kernel
theorem d_M_decode_69 : decode b_M_decode 69 = .ok (.istore 6, 2) := by decide +kernel
theorem d_M_decode_71 : decode b_M_decode 71 = .ok (.iload 5, 2) := by decide +kernel
theorem d_M_decode_73 : decode b_M_decode 73 = .ok (.iconst 3, 1) := by decide +kernel
theorem d_M_decode_74 : decode b_M_decode 74 = .ok (.if_icmp .ne 38, 3) := by decide +kernel
theorem d_M_decode_77 : decode b_M_decode 77 = .ok (.aload_n 1, 1) := by decide +kernel
theorem d_M_decode_78 : decode b_M_decode 78 = .ok (.iload 4, 2) := by decide +kernel
theorem d_M_decode_80 : decode b_M_decode 80 = .ok (.baload, 1) := by decide +kernel
theorem d_M_decode_81 : decode b_M_decode 81 = .ok (.bipush 15, 2) := by decide +kernel
theorem d_M_decode_83 : decode b_M_decode 83 = .ok (.iand, 1) := by decide +kernel
theorem d_M_decode_84 : decode b_M_decode 84 = .ok (.bipush 12, 2) := by decide +kernel
theorem d_M_decode_86 : decode b_M_decode 86 = .ok (.ishl, 1) := by decide +kernel
theorem d_M_decode_87 : decode b_M_decode 87 = .ok (.aload_n 1, 1) := by decide +kernel
theorem d_M_decode_88 : decode b_M_decode 88 = .ok (.iload 4, 2) := by decide +kernel
theorem d_M_decode_90 : decode b_M_decode 90 = .ok (.iconst 1, 1) := by decide +kernel
theorem d_M_decode_91 : decode b_M_decode 91 = .ok (.iadd, 1) := by decide +kernel
theorem d_M_decode_92 : decode b_M_decode 92 = .ok (.baload, 1) := by decide +kernel
theorem d_M_decode_93 : decode b_M_decode 93 = .ok (.bipush 63, 2) := by decide +kernel
theorem d_M_decode_95 : decode b_M_decode 95 = .ok (.iand, 1) := by decide +kernel
theorem d_M_decode_96 : decode b_M_decode 96 = .ok (.bipush 6, 2) := by decide +kernel
theorem d_M_decode_98 : decode b_M_decode 98 = .ok (.ishl, 1) := by decide +kernel
theorem d_M_decode_99 : decode b_M_decode 99 = .ok (.ior, 1) := by decide +kernel
theorem d_M_decode_100 : decode b_M_decode 100 = .ok (.aload_n 1, 1) := by decide +kernel
theorem d_M_decode_101 : decode b_M_decode 101 = .ok (.iload 4, 2) := by decide +kernel
theorem d_M_decode_103 : decode b_M_decode 103 = .ok (.iconst 2, 1) := by decide +kernel
theorem d_M_decode_104 : decode b_M_decode 104 = .ok (.iadd, 1) := by decide +kernel
theorem d_M_decode_105 : decode b_M_decode 105 = .ok (.baload, 1) := by decide +kernel
theorem d_M_decode_106 : decode b_M_decode 106 = .ok (.bipush 63, 2) := by decide +kernel
theorem d_M_decode_108 : decode b_M_decode 108 = .ok (.iand, 1) := by decide +kernel
theorem d_M_decode_109 : decode b_M_decode 109 = .ok (.ior, 1) := by decide +kernel
theorem d_M_decode_110 : decode b_M_decode 110 = .ok (.istore 6, 2) := by decide +kernel
theorem d_M_decode_112 : decode b_M_decode 112 = .ok (.iload 5, 2) := by decide +kernel
theorem d_M_decode_114 : decode b_M_decode 114 = .ok (.iconst 4, 1) := by decide +kernel
theorem d_M_decode_115 : decode b_M_decode 115 = .ok (.if_icmp .ne 51, 3) := by decide +kernel
theorem d_M_decode_118 : decode b_M_decode 118 = .ok (.aload_n 1, 1) := by decide +kernel
theorem d_M_decode_119 : decode b_M_decode 119 = .ok (.iload 4, 2) := by decide +kernel
theorem d_M_decode_121 : decode b_M_decode 121 = .ok (.baload, 1) := by decide +kernel
theorem d_M_decode_122 : decode b_M_decode 122 = .ok (.bipush 7, 2) := by decide +kernel
theorem d_M_decode_124 : decode b_M_decode 124 = .ok (.iand, 1) := by decide +kernel
theorem d_M_decode_125 : decode b_M_decode 125 = .ok (.bipush 18, 2) := by decide +kernel
theorem d_M_decode_127 : decode b_M_decode 127 = .ok (.ishl, 1) := by decide +kernel
theorem d_M_decode_128 : decode b_M_decode 128 = .ok (.aload_n 1, 1) := by decide +kernel
theorem d_M_decode_129 : decode b_M_decode 129 = .ok (.iload 4, 2) := by decide +kernel
theorem d_M_decode_131 : decode b_M_decode 131 = .ok (.iconst 1, 1) := by decide +kernel
theorem d_M_decode_132 : decode b_M_decode 132 = .ok (.iadd, 1) := by decide +kernel
theorem d_M_decode_133 : decode b_M_decode 133 = .ok (.baload, 1) := by decide +kernel
theorem d_M_decode_134 : decode b_M_decode 134 = .ok (.bipush 63, 2) := by decide +kernel
theorem d_M_decode_136 : decode b_M_decode 136 = .ok (.iand, 1) := by decide +kernel
theorem d_M_decode_137 : decode b_M_decode 137 = .ok (.bipush 12, 2) := by decide +kernel
theorem d_M_decode_139 : decode b_M_decode 139 = .ok (.ishl, 1) := by decide +kernel
theorem d_M_decode_140 : decode b_M_decode 140 = .ok (.ior, 1) := by decide +kernel
theorem d_M_decode_141 : decode b_M_decode 141 = .ok (.aload_n 1, 1) := by decide +kernel
theorem d_M_decode_142 : decode b_M_decode 142 = .ok (.iload 4, 2) := by decide +kernel
theorem d_M_decode_144 : decode b_M_decode 144 = .ok (.iconst 2, 1) := by decide +kernel
theorem d_M_decode_145 : decode b_M_decode 145 = .ok (.iadd, 1) := by decide +kernel
theorem d_M_decode_146 : decode b_M_decode 146 = .ok (.baload, 1) := by decide +kernel
theorem d_M_decode_147 : decode b_M_decode 147 = .ok (.bipush 63, 2) := by decide +kernel
theorem d_M_decode_149 : decode b_M_decode 149 = .ok (.iand, 1) := by decide +kernel
theorem d_M_decode_150 : decode b_M_decode 150 = .ok (.bipush 6, 2) := by decide +kernel
theorem d_M_decode_152 : decode b_M_decode 152 = .ok (.ishl, 1) := by decide +kernel
theorem d_M_decode_153 : decode b_M_decode 153 = .ok (.ior, 1) := by decide +kernel
theorem d_M_decode_154 : decode b_M_decode 154 = .ok (.aload_n 1, 1) := by decide +kernel
theorem d_M_decode_155 : decode b_M_decode 155 = .ok (.iload 4, 2) := by decide +kernel
theorem d_M_decode_157 : decode b_M_decode 157 = .ok (.iconst 3, 1) := by decide +kernel
theorem d_M_decode_158 : decode b_M_decode 158 = .ok (.iadd, 1) := by decide +kernel
theorem d_M_decode_159 : decode b_M_decode 159 = .ok (.baload, 1) := by decide +kernel
theorem d_M_decode_160 : decode b_M_decode 160 = .ok (.bipush 63, 2) := by decide +kernel
theorem d_M_decode_162 : decode b_M_decode 162 = .ok (.iand, 1) := by decide +kernel
theorem d_M_decode_163 : decode b_M_decode 163 = .ok (.ior, 1) := by decide +kernel
theorem d_M_decode_164 : decode b_M_decode 164 = .ok (.istore 6, 2) := by decide +kernel
theorem d_M_decode_166 : decode b_M_decode 166 = .ok (.aload_n 0, 1) := by decide +kernel
theorem d_M_decode_167 : decode b_M_decode 167 = .ok (.getfield 194, 3) := by decide +kernel
theorem d_M_decode_170 : decode b_M_decode 170 = .ok (.aload_n 0, 1) := by decide +kernel
theorem d_M_decode_171 : decode b_M_decode 171 = .ok (.getfield 218, 3) := by decide +kernel
theorem d_M_decode_174 : decode b_M_decode 174 = .ok (.iload 6, 2) := by decide +kernel
theorem d_M_decode_176 : decode b_M_decode 176 = .ok (.iastore, 1) := by decide +kernel
theorem d_M_decode_177 : decode b_M_decode 177 = .ok (.aload_n 0, 1) := by decide +kernel
theorem d_M_decode_178 : decode b_M_decode 178 = .ok (.dup, 1) := by decide +kernel
theorem d_M_decode_179 : decode b_M_decode 179 = .ok (.getfield 218, 3) := by decide +kernel
theorem d_M_decode_182 : decode b_M_decode 182 = .ok (.iconst 1, 1) := by decide +kernel
theorem d_M_decode_183 : decode b_M_decode 183 = .ok (.iadd, 1) := by decide +kernel
theorem d_M_decode_184 : decode b_M_decode 184 = .ok (.putfield 218, 3) := by decide +kernel
theorem d_M_decode_187 : decode b_M_decode 187 = .ok (.iload 4, 2) := by decide +kernel
theorem d_M_decode_189 : decode b_M_decode 189 = .ok (.iload 5, 2) := by decide +kernel
theorem d_M_decode_191 : decode b_M_decode 191 = .ok (.ifCond .ne 7, 3) := by decide +kernel
theorem d_M_decode_194 : decode b_M_decode 194 = .ok (.iconst 1, 1) := by decide +kernel
theorem d_M_decode_195 : decode b_M_decode 195 = .ok (.goto 5, 3) := by decide +kernel
theorem d_M_decode_198 : decode b_M_decode 198 = .ok (.iload 5, 2) := by decide +kernel
theorem d_M_decode_200 : decode b_M_decode 200 = .ok (.iadd, 1) := by decide +kernel
theorem d_M_decode_201 : decode b_M_decode 201 = .ok (.istore 4, 2) := by decide +kernel
theorem d_M_decode_203 : decode b_M_decode 203 = .ok (.goto (-195), 3) := by decide +kernel
theorem d_M_decode_206 : decode b_M_decode 206 = .ok (.return_, 1) := by decide +kernel
theorem d_M_formed_0 : decode b_M_formed 0 = .ok (.aload_n 0, 1) := by decide +kernel
theorem d_M_formed_1 : decode b_M_formed 1 = .ok (.iload_n 1, 1) := by decide +kernel
theorem d_M_formed_2 : decode b_M_formed 2 = .ok (.baload, 1) := by decide +kernel
theorem d_M_formed_3 : decode b_M_formed 3 = .ok (.sipush 255, 3) := by decide +kernel
theorem d_M_formed_6 : decode b_M_formed 6 = .ok (.iand, 1) := by decide +kernel
theorem d_M_formed_7 : decode b_M_formed 7 = .ok (.istore_n 3, 1) := by decide +kernel
theorem d_M_formed_8 : decode b_M_formed 8 = .ok (.iload_n 3, 1) := by decide +kernel
theorem d_M_formed_9 : decode b_M_formed 9 = .ok (.sipush 128, 3) := by decide +kernel
theorem d_M_formed_12 : decode b_M_formed 12 = .ok (.if_icmp .ge 5, 3) := by decide +kernel
theorem d_M_formed_15 : decode b_M_formed 15 = .ok (.iconst 1, 1) := by decide +kernel
theorem d_M_formed_16 : decode b_M_formed 16 = .ok (.ireturn, 1) := by decide +kernel
theorem d_M_formed_17 : decode b_M_formed 17 = .ok (.iload_n 1, 1) := by decide +kernel
theorem d_M_formed_18 : decode b_M_formed 18 = .ok (.iconst 1, 1) := by decide +kernel
theorem d_M_formed_19 : decode b_M_formed 19 = .ok (.iadd, 1) := by decide +kernel
theorem d_M_formed_20 : decode b_M_formed 20 = .ok (.iload_n 2, 1) := by decide +kernel
theorem d_M_formed_21 : decode b_M_formed 21 = .ok (.if_icmp .ge 15, 3) := by decide +kernel
theorem d_M_formed_24 : decode b_M_formed 24 = .ok (.aload_n 0, 1) := by decide +kernel
theorem d_M_formed_25 : decode b_M_formed 25 = .ok (.iload_n 1, 1) := by decide +kernel
theorem d_M_formed_26 : decode b_M_formed 26 = .ok (.iconst 1, 1) := by decide +kernel
theorem d_M_formed_27 : decode b_M_formed 27 = .ok (.iadd, 1) := by decide +kernel
theorem d_M_formed_28 : decode b_M_formed 28 = .ok (.baload, 1) := by decide +kernel
theorem d_M_formed_29 : decode b_M_formed 29 = .ok (.sipush 255, 3) := by decide +kernel
theorem d_M_formed_32 : decode b_M_formed 32 = .ok (.iand, 1) := by decide +kernel
theorem d_M_formed_33 : decode b_M_formed 33 = .ok (.goto 4, 3) := by decide +kernel
theorem d_M_formed_36 : decode b_M_formed 36 = .ok (.iconst 0, 1) := by decide +kernel
theorem d_M_formed_37 : decode b_M_formed 37 = .ok (.istore 4, 2) := by decide +kernel
theorem d_M_formed_39 : decode b_M_formed 39 = .ok (.iload_n 1, 1) := by decide +kernel
theorem d_M_formed_40 : decode b_M_formed 40 = .ok (.iconst 2, 1) := by decide +kernel
theorem d_M_formed_41 : decode b_M_formed 41 = .ok (.iadd, 1) := by decide +kernel
theorem d_M_formed_42 : decode b_M_formed 42 = .ok (.iload_n 2, 1) := by decide +kernel
theorem d_M_formed_43 : decode b_M_formed 43 = .ok (.if_icmp .ge 15, 3) := by decide +kernel
theorem d_M_formed_46 : decode b_M_formed 46 = .ok (.aload_n 0, 1) := by decide +kernel
theorem d_M_formed_47 : decode b_M_formed 47 = .ok (.iload_n 1, 1) := by decide +kernel
theorem d_M_formed_48 : decode b_M_formed 48 = .ok (.iconst 2, 1) := by decide +kernel
theorem d_M_formed_49 : decode b_M_formed 49 = .ok (.iadd, 1) := by decide +kernel
theorem d_M_formed_50 : decode b_M_formed 50 = .ok (.baload, 1) := by decide +kernel
theorem d_M_formed_51 : decode b_M_formed 51 = .ok (.sipush 255, 3) := by decide +kernel
theorem d_M_formed_54 : decode b_M_formed 54 = .ok (.iand, 1) := by decide +kernel
theorem d_M_formed_55 : decode b_M_formed 55 = .ok (.goto 4, 3) := by decide +kernel
theorem d_M_formed_58 : decode b_M_formed 58 = .ok (.iconst 0, 1) := by decide +kernel
theorem d_M_formed_59 : decode b_M_formed 59 = .ok (.istore 5, 2) := by decide +kernel
theorem d_M_formed_61 : decode b_M_formed 61 = .ok (.iload_n 1, 1) := by decide +kernel
theorem d_M_formed_62 : decode b_M_formed 62 = .ok (.iconst 3, 1) := by decide +kernel
theorem d_M_formed_63 : decode b_M_formed 63 = .ok (.iadd, 1) := by decide +kernel
theorem d_M_formed_64 : decode b_M_formed 64 = .ok (.iload_n 2, 1) := by decide +kernel
theorem d_M_formed_65 : decode b_M_formed 65 = .ok (.if_icmp .ge 15, 3) := by decide +kernel
theorem d_M_formed_68 : decode b_M_formed 68 = .ok (.aload_n 0, 1) := by decide +kernel
theorem d_M_formed_69 : decode b_M_formed 69 = .ok (.iload_n 1, 1) := by decide +kernel
theorem d_M_formed_70 : decode b_M_formed 70 = .ok (.iconst 3, 1) := by decide +kernel
theorem d_M_formed_71 : decode b_M_formed 71 = .ok (.iadd, 1) := by decide +kernel
theorem d_M_formed_72 : decode b_M_formed 72 = .ok (.baload, 1) := by decide +kernel
theorem d_M_formed_73 : decode b_M_formed 73 = .ok (.sipush 255, 3) := by decide +kernel
theorem d_M_formed_76 : decode b_M_formed 76 = .ok (.iand, 1) := by decide +kernel
theorem d_M_formed_77 : decode b_M_formed 77 = .ok (.goto 4, 3) := by decide +kernel
theorem d_M_formed_80 : decode b_M_formed 80 = .ok (.iconst 0, 1) := by decide +kernel
theorem d_M_formed_81 : decode b_M_formed 81 = .ok (.istore 6, 2) := by decide +kernel
theorem d_M_formed_83 : decode b_M_formed 83 = .ok (.iload_n 3, 1) := by decide +kernel
theorem d_M_formed_84 : decode b_M_formed 84 = .ok (.sipush 194, 3) := by decide +kernel
theorem d_M_formed_87 : decode b_M_formed 87 = .ok (.if_icmp .lt 24, 3) := by decide +kernel
theorem d_M_formed_90 : decode b_M_formed 90 = .ok (.iload_n 3, 1) := by decide +kernel
theorem d_M_formed_91 : decode b_M_formed 91 = .ok (.sipush 223, 3) := by decide +kernel
theorem d_M_formed_94 : decode b_M_formed 94 = .ok (.if_icmp .gt 17, 3) := by decide +kernel
theorem d_M_formed_97 : decode b_M_formed 97 = .ok (.iload 4, 2) := by decide +kernel
theorem d_M_formed_99 : decode b_M_formed 99 = .ok (.invokestatic 214, 3) := by decide +kernel
theorem d_M_formed_102 : decode b_M_formed 102 = .ok (.ifCond .eq 7, 3) := by decide +kernel
theorem d_M_formed_105 : decode b_M_formed 105 = .ok (.iconst 2, 1) := by decide +kernel
theorem d_M_formed_106 : decode b_M_formed 106 = .ok (.goto 4, 3) := by decide +kernel
theorem d_M_formed_109 : decode b_M_formed 109 = .ok (.iconst 0, 1) := by decide +kernel
theorem d_M_formed_110 : decode b_M_formed 110 = .ok (.ireturn, 1) := by decide +kernel
theorem d_M_formed_111 : decode b_M_formed 111 = .ok (.iload_n 3, 1) := by decide +kernel
theorem d_M_formed_112 : decode b_M_formed 112 = .ok (.sipush 224, 3) := by decide +kernel
theorem d_M_formed_115 : decode b_M_formed 115 = .ok (.if_icmp .ne 33, 3) := by decide +kernel
theorem d_M_formed_118 : decode b_M_formed 118 = .ok (.iload 4, 2) := by decide +kernel
theorem d_M_formed_120 : decode b_M_formed 120 = .ok (.sipush 160, 3) := by decide +kernel
theorem d_M_formed_123 : decode b_M_formed 123 = .ok (.if_icmp .lt 23, 3) := by decide +kernel
theorem d_M_formed_126 : decode b_M_formed 126 = .ok (.iload 4, 2) := by decide +kernel
theorem d_M_formed_128 : decode b_M_formed 128 = .ok (.invokestatic 214, 3) := by decide +kernel
theorem d_M_formed_131 : decode b_M_formed 131 = .ok (.ifCond .eq 15, 3) := by decide +kernel
theorem d_M_formed_134 : decode b_M_formed 134 = .ok (.iload 5, 2) := by decide +kernel
theorem d_M_formed_136 : decode b_M_formed 136 = .ok (.invokestatic 214, 3) := by decide +kernel
theorem d_M_formed_139 : decode b_M_formed 139 = .ok (.ifCond .eq 7, 3) := by decide +kernel
theorem d_M_formed_142 : decode b_M_formed 142 = .ok (.iconst 3, 1) := by decide +kernel
theorem d_M_formed_143 : decode b_M_formed 143 = .ok (.goto 4, 3) := by decide +kernel
theorem d_M_formed_146 : decode b_M_formed 146 = .ok (.iconst 0, 1) := by decide +kernel
theorem d_M_formed_147 : decode b_M_formed 147 = .ok (.ireturn, 1) := by decide +kernel
theorem d_M_formed_148 : decode b_M_formed 148 = .ok (.iload_n 3, 1) := by decide +kernel
theorem d_M_formed_149 : decode b_M_formed 149 = .ok (.sipush 237, 3) := by decide +kernel
theorem d_M_formed_152 : decode b_M_formed 152 = .ok (.if_icmp .ne 33, 3) := by decide +kernel
theorem d_M_formed_155 : decode b_M_formed 155 = .ok (.iload 4, 2) := by decide +kernel
theorem d_M_formed_157 : decode b_M_formed 157 = .ok (.invokestatic 214, 3) := by decide +kernel
theorem d_M_formed_160 : decode b_M_formed 160 = .ok (.ifCond .eq 23, 3) := by decide +kernel
theorem d_M_formed_163 : decode b_M_formed 163 = .ok (.iload 4, 2) := by decide +kernel
theorem d_M_formed_165 : decode b_M_formed 165 = .ok (.sipush 160, 3) := by decide +kernel
theorem d_M_formed_168 : decode b_M_formed 168 = .ok (.if_icmp .ge 15, 3) := by decide +kernel
theorem d_M_formed_171 : decode b_M_formed 171 = .ok (.iload 5, 2) := by decide +kernel
theorem d_M_formed_173 : decode b_M_formed 173 = .ok (.invokestatic 214, 3) := by decide +kernel
theorem d_M_formed_176 : decode b_M_formed 176 = .ok (.ifCond .eq 7, 3) := by decide +kernel
theorem d_M_formed_179 : decode b_M_formed 179 = .ok (.iconst 3, 1) := by decide +kernel
theorem d_M_formed_180 : decode b_M_formed 180 = .ok (.goto 4, 3) := by decide +kernel
theorem d_M_formed_183 : decode b_M_formed 183 = .ok (.iconst 0, 1) := by decide +kernel
theorem d_M_formed_184 : decode b_M_formed 184 = .ok (.ireturn, 1) := by decide +kernel
theorem d_M_formed_185 : decode b_M_formed 185 = .ok (.iload_n 3, 1) := by decide +kernel
theorem d_M_formed_186 : decode b_M_formed 186 = .ok (.sipush 225, 3) := by decide +kernel
theorem d_M_formed_189 : decode b_M_formed 189 = .ok (.if_icmp .lt 32, 3) := by decide +kernel
theorem d_M_formed_192 : decode b_M_formed 192 = .ok (.iload_n 3, 1) := by decide +kernel
theorem d_M_formed_193 : decode b_M_formed 193 = .ok (.sipush 239, 3) := by decide +kernel
theorem d_M_formed_196 : decode b_M_formed 196 = .ok (.if_icmp .gt 25, 3) := by decide +kernel
theorem d_M_formed_199 : decode b_M_formed 199 = .ok (.iload 4, 2) := by decide +kernel
theorem d_M_formed_201 : decode b_M_formed 201 = .ok (.invokestatic 214, 3) := by decide +kernel
theorem d_M_formed_204 : decode b_M_formed 204 = .ok (.ifCond .eq 15, 3) := by decide +kernel
theorem d_M_formed_207 : decode b_M_formed 207 = .ok (.iload 5, 2) := by decide +kernel
theorem d_M_formed_209 : decode b_M_formed 209 = .ok (.invokestatic 214, 3) := by decide +kernel
theorem d_M_formed_212 : decode b_M_formed 212 = .ok (.ifCond .eq 7, 3) := by decide +kernel
theorem d_M_formed_215 : decode b_M_formed 215 = .ok (.iconst 3, 1) := by decide +kernel
theorem d_M_formed_216 : decode b_M_formed 216 = .ok (.goto 4, 3) := by decide +kernel
theorem d_M_formed_219 : decode b_M_formed 219 = .ok (.iconst 0, 1) := by decide +kernel
theorem d_M_formed_220 : decode b_M_formed 220 = .ok (.ireturn, 1) := by decide +kernel
theorem d_M_formed_221 : decode b_M_formed 221 = .ok (.iload_n 3, 1) := by decide +kernel
theorem d_M_formed_222 : decode b_M_formed 222 = .ok (.sipush 240, 3) := by decide +kernel
theorem d_M_formed_225 : decode b_M_formed 225 = .ok (.if_icmp .ne 41, 3) := by decide +kernel
theorem d_M_formed_228 : decode b_M_formed 228 = .ok (.iload 4, 2) := by decide +kernel
theorem d_M_formed_230 : decode b_M_formed 230 = .ok (.sipush 144, 3) := by decide +kernel
theorem d_M_formed_233 : decode b_M_formed 233 = .ok (.if_icmp .lt 31, 3) := by decide +kernel
theorem d_M_formed_236 : decode b_M_formed 236 = .ok (.iload 4, 2) := by decide +kernel
theorem d_M_formed_238 : decode b_M_formed 238 = .ok (.invokestatic 214, 3) := by decide +kernel
theorem d_M_formed_241 : decode b_M_formed 241 = .ok (.ifCond .eq 23, 3) := by decide +kernel
theorem d_M_formed_244 : decode b_M_formed 244 = .ok (.iload 5, 2) := by decide +kernel
theorem d_M_formed_246 : decode b_M_formed 246 = .ok (.invokestatic 214, 3) := by decide +kernel
theorem d_M_formed_249 : decode b_M_formed 249 = .ok (.ifCond .eq 15, 3) := by decide +kernel
theorem d_M_formed_252 : decode b_M_formed 252 = .ok (.iload 6, 2) := by decide +kernel
theorem d_M_formed_254 : decode b_M_formed 254 = .ok (.invokestatic 214, 3) := by decide +kernel
theorem d_M_formed_257 : decode b_M_formed 257 = .ok (.ifCond .eq 7, 3) := by decide +kernel
theorem d_M_formed_260 : decode b_M_formed 260 = .ok (.iconst 4, 1) := by decide +kernel
theorem d_M_formed_261 : decode b_M_formed 261 = .ok (.goto 4, 3) := by decide +kernel
theorem d_M_formed_264 : decode b_M_formed 264 = .ok (.iconst 0, 1) := by decide +kernel
theorem d_M_formed_265 : decode b_M_formed 265 = .ok (.ireturn, 1) := by decide +kernel
theorem d_M_formed_266 : decode b_M_formed 266 = .ok (.iload_n 3, 1) := by decide +kernel
theorem d_M_formed_267 : decode b_M_formed 267 = .ok (.sipush 241, 3) := by decide +kernel
theorem d_M_formed_270 : decode b_M_formed 270 = .ok (.if_icmp .lt 40, 3) := by decide +kernel
theorem d_M_formed_273 : decode b_M_formed 273 = .ok (.iload_n 3, 1) := by decide +kernel
theorem d_M_formed_274 : decode b_M_formed 274 = .ok (.sipush 243, 3) := by decide +kernel
theorem d_M_formed_277 : decode b_M_formed 277 = .ok (.if_icmp .gt 33, 3) := by decide +kernel
theorem d_M_formed_280 : decode b_M_formed 280 = .ok (.iload 4, 2) := by decide +kernel
theorem d_M_formed_282 : decode b_M_formed 282 = .ok (.invokestatic 214, 3) := by decide +kernel
theorem d_M_formed_285 : decode b_M_formed 285 = .ok (.ifCond .eq 23, 3) := by decide +kernel
theorem d_M_formed_288 : decode b_M_formed 288 = .ok (.iload 5, 2) := by decide +kernel
theorem d_M_formed_290 : decode b_M_formed 290 = .ok (.invokestatic 214, 3) := by decide +kernel
theorem d_M_formed_293 : decode b_M_formed 293 = .ok (.ifCond .eq 15, 3) := by decide +kernel
theorem d_M_formed_296 : decode b_M_formed 296 = .ok (.iload 6, 2) := by decide +kernel
theorem d_M_formed_298 : decode b_M_formed 298 = .ok (.invokestatic 214, 3) := by decide +kernel
theorem d_M_formed_301 : decode b_M_formed 301 = .ok (.ifCond .eq 7, 3) := by decide +kernel
theorem d_M_formed_304 : decode b_M_formed 304 = .ok (.iconst 4, 1) := by decide +kernel
theorem d_M_formed_305 : decode b_M_formed 305 = .ok (.goto 4, 3) := by decide +kernel
theorem d_M_formed_308 : decode b_M_formed 308 = .ok (.iconst 0, 1) := by decide +kernel
theorem d_M_formed_309 : decode b_M_formed 309 = .ok (.ireturn, 1) := by decide +kernel
theorem d_M_formed_310 : decode b_M_formed 310 = .ok (.iload_n 3, 1) := by decide +kernel
theorem d_M_formed_311 : decode b_M_formed 311 = .ok (.sipush 244, 3) := by decide +kernel
theorem d_M_formed_314 : decode b_M_formed 314 = .ok (.if_icmp .ne 41, 3) := by decide +kernel
theorem d_M_formed_317 : decode b_M_formed 317 = .ok (.iload 4, 2) := by decide +kernel
theorem d_M_formed_319 : decode b_M_formed 319 = .ok (.invokestatic 214, 3) := by decide +kernel
theorem d_M_formed_322 : decode b_M_formed 322 = .ok (.ifCond .eq 31, 3) := by decide +kernel
theorem d_M_formed_325 : decode b_M_formed 325 = .ok (.iload 4, 2) := by decide +kernel
theorem d_M_formed_327 : decode b_M_formed 327 = .ok (.sipush 144, 3) := by decide +kernel
theorem d_M_formed_330 : decode b_M_formed 330 = .ok (.if_icmp .ge 23, 3) := by decide +kernel
theorem d_M_formed_333 : decode b_M_formed 333 = .ok (.iload 5, 2) := by decide +kernel
theorem d_M_formed_335 : decode b_M_formed 335 = .ok (.invokestatic 214, 3) := by decide +kernel
theorem d_M_formed_338 : decode b_M_formed 338 = .ok (.ifCond .eq 15, 3) := by decide +kernel
theorem d_M_formed_341 : decode b_M_formed 341 = .ok (.iload 6, 2) := by decide +kernel
theorem d_M_formed_343 : decode b_M_formed 343 = .ok (.invokestatic 214, 3) := by decide +kernel
theorem d_M_formed_346 : decode b_M_formed 346 = .ok (.ifCond .eq 7, 3) := by decide +kernel
theorem d_M_formed_349 : decode b_M_formed 349 = .ok (.iconst 4, 1) := by decide +kernel
theorem d_M_formed_350 : decode b_M_formed 350 = .ok (.goto 4, 3) := by decide +kernel
theorem d_M_formed_353 : decode b_M_formed 353 = .ok (.iconst 0, 1) := by decide +kernel
theorem d_M_formed_354 : decode b_M_formed 354 = .ok (.ireturn, 1) := by decide +kernel
theorem d_M_formed_355 : decode b_M_formed 355 = .ok (.iconst 0, 1) := by decide +kernel
theorem d_M_formed_356 : decode b_M_formed 356 = .ok (.ireturn, 1) := by decide +kernel
theorem d_M_tail_0 : decode b_M_tail 0 = .ok (.iload_n 0, 1) := by decide +kernel
theorem d_M_tail_1 : decode b_M_tail 1 = .ok (.sipush 128, 3) := by decide +kernel
theorem d_M_tail_4 : decode b_M_tail 4 = .ok (.if_icmp .lt 14, 3) := by decide +kernel
theorem d_M_tail_7 : decode b_M_tail 7 = .ok (.iload_n 0, 1) := by decide +kernel
theorem d_M_tail_8 : decode b_M_tail 8 = .ok (.sipush 192, 3) := by decide +kernel
theorem d_M_tail_11 : decode b_M_tail 11 = .ok (.if_icmp .ge 7, 3) := by decide +kernel
theorem d_M_tail_14 : decode b_M_tail 14 = .ok (.iconst 1, 1) := by decide +kernel
theorem d_M_tail_15 : decode b_M_tail 15 = .ok (.goto 4, 3) := by decide +kernel
theorem d_M_tail_18 : decode b_M_tail 18 = .ok (.iconst 0, 1) := by decide +kernel
theorem d_M_tail_19 : decode b_M_tail 19 = .ok (.ireturn, 1) := by decide +kernel
theorem d_M_cut_aIII_0 : decode b_M_cut_aIII 0 = .ok (.aload_n 0, 1) := by decide +kernel
theorem d_M_cut_aIII_1 : decode b_M_cut_aIII 1 = .ok (.iconst 0, 1) := by decide +kernel
theorem d_M_cut_aIII_2 : decode b_M_cut_aIII 2 = .ok (.putfield 234, 3) := by decide +kernel
theorem d_M_cut_aIII_5 : decode b_M_cut_aIII 5 = .ok (.aload_n 0, 1) := by decide +kernel
theorem d_M_cut_aIII_6 : decode b_M_cut_aIII 6 = .ok (.iconst 0, 1) := by decide +kernel
theorem d_M_cut_aIII_7 : decode b_M_cut_aIII 7 = .ok (.putfield 237, 3) := by decide +kernel
theorem d_M_cut_aIII_10 : decode b_M_cut_aIII 10 = .ok (.aload_n 0, 1) := by decide +kernel
theorem d_M_cut_aIII_11 : decode b_M_cut_aIII 11 = .ok (.getfield 201, 3) := by decide +kernel
theorem d_M_cut_aIII_14 : decode b_M_cut_aIII 14 = .ok (.iconst 0, 1) := by decide +kernel
theorem d_M_cut_aIII_15 : decode b_M_cut_aIII 15 = .ok (.iconst 0, 1) := by decide +kernel
theorem d_M_cut_aIII_16 : decode b_M_cut_aIII 16 = .ok (.iastore, 1) := by decide +kernel
theorem d_M_cut_aIII_17 : decode b_M_cut_aIII 17 = .ok (.iload_n 2, 1) := by decide +kernel
theorem d_M_cut_aIII_18 : decode b_M_cut_aIII 18 = .ok (.istore 4, 2) := by decide +kernel
theorem d_M_cut_aIII_20 : decode b_M_cut_aIII 20 = .ok (.iload 4, 2) := by decide +kernel
theorem d_M_cut_aIII_22 : decode b_M_cut_aIII 22 = .ok (.iload_n 3, 1) := by decide +kernel
theorem d_M_cut_aIII_23 : decode b_M_cut_aIII 23 = .ok (.if_icmp .ge 174, 3) := by decide +kernel
theorem d_M_cut_aIII_26 : decode b_M_cut_aIII 26 = .ok (.aload_n 1, 1) := by decide +kernel
theorem d_M_cut_aIII_27 : decode b_M_cut_aIII 27 = .ok (.iload 4, 2) := by decide +kernel
theorem d_M_cut_aIII_29 : decode b_M_cut_aIII 29 = .ok (.iaload, 1) := by decide +kernel
theorem d_M_cut_aIII_30 : decode b_M_cut_aIII 30 = .ok (.invokestatic 227, 3) := by decide +kernel
theorem d_M_cut_aIII_33 : decode b_M_cut_aIII 33 = .ok (.istore 5, 2) := by decide +kernel
theorem d_M_cut_aIII_35 : decode b_M_cut_aIII 35 = .ok (.iload 4, 2) := by decide +kernel
theorem d_M_cut_aIII_37 : decode b_M_cut_aIII 37 = .ok (.iconst 1, 1) := by decide +kernel
theorem d_M_cut_aIII_38 : decode b_M_cut_aIII 38 = .ok (.iadd, 1) := by decide +kernel
theorem d_M_cut_aIII_39 : decode b_M_cut_aIII 39 = .ok (.istore 6, 2) := by decide +kernel
theorem d_M_cut_aIII_41 : decode b_M_cut_aIII 41 = .ok (.iload 5, 2) := by decide +kernel
theorem d_M_cut_aIII_43 : decode b_M_cut_aIII 43 = .ok (.iconst 1, 1) := by decide +kernel
theorem d_M_cut_aIII_44 : decode b_M_cut_aIII 44 = .ok (.if_icmp .eq 16, 3) := by decide +kernel
theorem d_M_cut_aIII_47 : decode b_M_cut_aIII 47 = .ok (.iload 5, 2) := by decide +kernel
theorem d_M_cut_aIII_49 : decode b_M_cut_aIII 49 = .ok (.iconst 2, 1) := by decide +kernel
theorem d_M_cut_aIII_50 : decode b_M_cut_aIII 50 = .ok (.if_icmp .eq 10, 3) := by decide +kernel
theorem d_M_cut_aIII_53 : decode b_M_cut_aIII 53 = .ok (.iload 5, 2) := by decide +kernel
theorem d_M_cut_aIII_55 : decode b_M_cut_aIII 55 = .ok (.bipush 7, 2) := by decide +kernel
theorem d_M_cut_aIII_57 : decode b_M_cut_aIII 57 = .ok (.if_icmp .ne 7, 3) := by decide +kernel
theorem d_M_cut_aIII_60 : decode b_M_cut_aIII 60 = .ok (.iconst 1, 1) := by decide +kernel
theorem d_M_cut_aIII_61 : decode b_M_cut_aIII 61 = .ok (.goto 4, 3) := by decide +kernel
theorem d_M_cut_aIII_64 : decode b_M_cut_aIII 64 = .ok (.iconst 0, 1) := by decide +kernel
theorem d_M_cut_aIII_65 : decode b_M_cut_aIII 65 = .ok (.istore 7, 2) := by decide +kernel
theorem d_M_cut_aIII_67 : decode b_M_cut_aIII 67 = .ok (.iload 5, 2) := by decide +kernel
theorem d_M_cut_aIII_69 : decode b_M_cut_aIII 69 = .ok (.invokestatic 231, 3) := by decide +kernel
theorem d_M_cut_aIII_72 : decode b_M_cut_aIII 72 = .ok (.ifCond .eq 75, 3) := by decide +kernel
theorem d_M_cut_aIII_75 : decode b_M_cut_aIII 75 = .ok (.aload_n 1, 1) := by decide +kernel
theorem d_M_cut_aIII_76 : decode b_M_cut_aIII 76 = .ok (.iload 6, 2) := by decide +kernel
theorem d_M_cut_aIII_78 : decode b_M_cut_aIII 78 = .ok (.iconst 1, 1) := by decide +kernel
theorem d_M_cut_aIII_79 : decode b_M_cut_aIII 79 = .ok (.isub, 1) := by decide +kernel
theorem d_M_cut_aIII_80 : decode b_M_cut_aIII 80 = .ok (.iload_n 3, 1) := by decide +kernel
theorem d_M_cut_aIII_81 : decode b_M_cut_aIII 81 = .ok (.invokestatic 240, 3) := by decide +kernel
theorem d_M_cut_aIII_84 : decode b_M_cut_aIII 84 = .ok (.istore 8, 2) := by decide +kernel
theorem d_M_cut_aIII_86 : decode b_M_cut_aIII 86 = .ok (.iload 8, 2) := by decide +kernel
theorem d_M_cut_aIII_88 : decode b_M_cut_aIII 88 = .ok (.ifCond .le 59, 3) := by decide +kernel
theorem d_M_cut_aIII_91 : decode b_M_cut_aIII 91 = .ok (.iload 6, 2) := by decide +kernel
theorem d_M_cut_aIII_93 : decode b_M_cut_aIII 93 = .ok (.iload 8, 2) := by decide +kernel
theorem d_M_cut_aIII_95 : decode b_M_cut_aIII 95 = .ok (.iadd, 1) := by decide +kernel
theorem d_M_cut_aIII_96 : decode b_M_cut_aIII 96 = .ok (.istore 6, 2) := by decide +kernel
theorem d_M_cut_aIII_98 : decode b_M_cut_aIII 98 = .ok (.aload_n 1, 1) := by decide +kernel
theorem d_M_cut_aIII_99 : decode b_M_cut_aIII 99 = .ok (.iload 6, 2) := by decide +kernel
theorem d_M_cut_aIII_101 : decode b_M_cut_aIII 101 = .ok (.iconst 1, 1) := by decide +kernel
theorem d_M_cut_aIII_102 : decode b_M_cut_aIII 102 = .ok (.isub, 1) := by decide +kernel
theorem d_M_cut_aIII_103 : decode b_M_cut_aIII 103 = .ok (.iaload, 1) := by decide +kernel
theorem d_M_cut_aIII_104 : decode b_M_cut_aIII 104 = .ok (.invokestatic 227, 3) := by decide +kernel
theorem d_M_cut_aIII_107 : decode b_M_cut_aIII 107 = .ok (.istore 9, 2) := by decide +kernel
theorem d_M_cut_aIII_109 : decode b_M_cut_aIII 109 = .ok (.iload 7, 2) := by decide +kernel
theorem d_M_cut_aIII_111 : decode b_M_cut_aIII 111 = .ok (.ifCond .ne 15, 3) := by decide +kernel
theorem d_M_cut_aIII_114 : decode b_M_cut_aIII 114 = .ok (.iload 9, 2) := by decide +kernel
theorem d_M_cut_aIII_116 : decode b_M_cut_aIII 116 = .ok (.iconst 1, 1) := by decide +kernel
theorem d_M_cut_aIII_117 : decode b_M_cut_aIII 117 = .ok (.if_icmp .eq 9, 3) := by decide +kernel
theorem d_M_cut_aIII_120 : decode b_M_cut_aIII 120 = .ok (.iload 9, 2) := by decide +kernel
theorem d_M_cut_aIII_122 : decode b_M_cut_aIII 122 = .ok (.iconst 2, 1) := by decide +kernel
theorem d_M_cut_aIII_123 : decode b_M_cut_aIII 123 = .ok (.if_icmp .ne 7, 3) := by decide +kernel
theorem d_M_cut_aIII_126 : decode b_M_cut_aIII 126 = .ok (.iconst 1, 1) := by decide +kernel
theorem d_M_cut_aIII_127 : decode b_M_cut_aIII 127 = .ok (.goto 4, 3) := by decide +kernel
theorem d_M_cut_aIII_130 : decode b_M_cut_aIII 130 = .ok (.iconst 0, 1) := by decide +kernel
theorem d_M_cut_aIII_131 : decode b_M_cut_aIII 131 = .ok (.istore 7, 2) := by decide +kernel
theorem d_M_cut_aIII_133 : decode b_M_cut_aIII 133 = .ok (.aload_n 1, 1) := by decide +kernel
theorem d_M_cut_aIII_134 : decode b_M_cut_aIII 134 = .ok (.iload 6, 2) := by decide +kernel
theorem d_M_cut_aIII_136 : decode b_M_cut_aIII 136 = .ok (.iconst 1, 1) := by decide +kernel
theorem d_M_cut_aIII_137 : decode b_M_cut_aIII 137 = .ok (.isub, 1) := by decide +kernel
theorem d_M_cut_aIII_138 : decode b_M_cut_aIII 138 = .ok (.iload_n 3, 1) := by decide +kernel
theorem d_M_cut_aIII_139 : decode b_M_cut_aIII 139 = .ok (.invokestatic 240, 3) := by decide +kernel
theorem d_M_cut_aIII_142 : decode b_M_cut_aIII 142 = .ok (.istore 8, 2) := by decide +kernel
theorem d_M_cut_aIII_144 : decode b_M_cut_aIII 144 = .ok (.goto (-58), 3) := by decide +kernel
theorem d_M_cut_aIII_147 : decode b_M_cut_aIII 147 = .ok (.iload 7, 2) := by decide +kernel
theorem d_M_cut_aIII_149 : decode b_M_cut_aIII 149 = .ok (.ifCond .eq 41, 3) := by decide +kernel
theorem d_M_cut_aIII_152 : decode b_M_cut_aIII 152 = .ok (.iload 4, 2) := by decide +kernel
theorem d_M_cut_aIII_154 : decode b_M_cut_aIII 154 = .ok (.istore 8, 2) := by decide +kernel
theorem d_M_cut_aIII_156 : decode b_M_cut_aIII 156 = .ok (.iload 8, 2) := by decide +kernel
theorem d_M_cut_aIII_158 : decode b_M_cut_aIII 158 = .ok (.iload 6, 2) := by decide +kernel
theorem d_M_cut_aIII_160 : decode b_M_cut_aIII 160 = .ok (.if_icmp .ge 30, 3) := by decide +kernel
theorem d_M_cut_aIII_163 : decode b_M_cut_aIII 163 = .ok (.aload_n 0, 1) := by decide +kernel
theorem d_M_cut_aIII_164 : decode b_M_cut_aIII 164 = .ok (.aload_n 1, 1) := by decide +kernel
theorem d_M_cut_aIII_165 : decode b_M_cut_aIII 165 = .ok (.iload 8, 2) := by decide +kernel
theorem d_M_cut_aIII_167 : decode b_M_cut_aIII 167 = .ok (.iload 8, 2) := by decide +kernel
theorem d_M_cut_aIII_169 : decode b_M_cut_aIII 169 = .ok (.sipush 255, 3) := by decide +kernel
theorem d_M_cut_aIII_172 : decode b_M_cut_aIII 172 = .ok (.iadd, 1) := by decide +kernel
theorem d_M_cut_aIII_173 : decode b_M_cut_aIII 173 = .ok (.iload 6, 2) := by decide +kernel
theorem d_M_cut_aIII_175 : decode b_M_cut_aIII 175 = .ok (.invokestatic 244, 3) := by decide +kernel
theorem d_M_cut_aIII_178 : decode b_M_cut_aIII 178 = .ok (.invokevirtual 250, 3) := by decide +kernel
theorem d_M_cut_aIII_181 : decode b_M_cut_aIII 181 = .ok (.iinc 8 255, 6) := by decide +kernel
theorem d_M_cut_aIII_187 : decode b_M_cut_aIII 187 = .ok (.goto (-31), 3) := by decide +kernel
theorem d_M_cut_aIII_190 : decode b_M_cut_aIII 190 = .ok (.iload 6, 2) := by decide +kernel
theorem d_M_cut_aIII_192 : decode b_M_cut_aIII 192 = .ok (.istore 4, 2) := by decide +kernel
theorem d_M_cut_aIII_194 : decode b_M_cut_aIII 194 = .ok (.goto (-174), 3) := by decide +kernel
theorem d_M_cut_aIII_197 : decode b_M_cut_aIII 197 = .ok (.return_, 1) := by decide +kernel
theorem d_M_sortOf_0 : decode b_M_sortOf 0 = .ok (.iload_n 0, 1) := by decide +kernel
theorem d_M_sortOf_1 : decode b_M_sortOf 1 = .ok (.bipush 97, 2) := by decide +kernel
theorem d_M_sortOf_3 : decode b_M_sortOf 3 = .ok (.if_icmp .lt 9, 3) := by decide +kernel
theorem d_M_sortOf_6 : decode b_M_sortOf 6 = .ok (.iload_n 0, 1) := by decide +kernel
theorem d_M_sortOf_7 : decode b_M_sortOf 7 = .ok (.bipush 122, 2) := by decide +kernel
theorem d_M_sortOf_9 : decode b_M_sortOf 9 = .ok (.if_icmp .le 21, 3) := by decide +kernel
theorem d_M_sortOf_12 : decode b_M_sortOf 12 = .ok (.iload_n 0, 1) := by decide +kernel
theorem d_M_sortOf_13 : decode b_M_sortOf 13 = .ok (.bipush 65, 2) := by decide +kernel
theorem d_M_sortOf_15 : decode b_M_sortOf 15 = .ok (.if_icmp .lt 9, 3) := by decide +kernel
theorem d_M_sortOf_18 : decode b_M_sortOf 18 = .ok (.iload_n 0, 1) := by decide +kernel
theorem d_M_sortOf_19 : decode b_M_sortOf 19 = .ok (.bipush 90, 2) := by decide +kernel
theorem d_M_sortOf_21 : decode b_M_sortOf 21 = .ok (.if_icmp .le 9, 3) := by decide +kernel
theorem d_M_sortOf_24 : decode b_M_sortOf 24 = .ok (.iload_n 0, 1) := by decide +kernel
theorem d_M_sortOf_25 : decode b_M_sortOf 25 = .ok (.bipush 95, 2) := by decide +kernel
theorem d_M_sortOf_27 : decode b_M_sortOf 27 = .ok (.if_icmp .ne 15, 3) := by decide +kernel
theorem d_M_sortOf_30 : decode b_M_sortOf 30 = .ok (.iload_n 0, 1) := by decide +kernel
theorem d_M_sortOf_31 : decode b_M_sortOf 31 = .ok (.bipush 95, 2) := by decide +kernel
theorem d_M_sortOf_33 : decode b_M_sortOf 33 = .ok (.if_icmp .ne 7, 3) := by decide +kernel
theorem d_M_sortOf_36 : decode b_M_sortOf 36 = .ok (.iconst 3, 1) := by decide +kernel
theorem d_M_sortOf_37 : decode b_M_sortOf 37 = .ok (.goto 4, 3) := by decide +kernel
theorem d_M_sortOf_40 : decode b_M_sortOf 40 = .ok (.iconst 1, 1) := by decide +kernel
theorem d_M_sortOf_41 : decode b_M_sortOf 41 = .ok (.ireturn, 1) := by decide +kernel
theorem d_M_sortOf_42 : decode b_M_sortOf 42 = .ok (.iload_n 0, 1) := by decide +kernel
theorem d_M_sortOf_43 : decode b_M_sortOf 43 = .ok (.bipush 48, 2) := by decide +kernel
theorem d_M_sortOf_45 : decode b_M_sortOf 45 = .ok (.if_icmp .lt 11, 3) := by decide +kernel
theorem d_M_sortOf_48 : decode b_M_sortOf 48 = .ok (.iload_n 0, 1) := by decide +kernel
theorem d_M_sortOf_49 : decode b_M_sortOf 49 = .ok (.bipush 57, 2) := by decide +kernel
theorem d_M_sortOf_51 : decode b_M_sortOf 51 = .ok (.if_icmp .gt 5, 3) := by decide +kernel
theorem d_M_sortOf_54 : decode b_M_sortOf 54 = .ok (.iconst 2, 1) := by decide +kernel
theorem d_M_sortOf_55 : decode b_M_sortOf 55 = .ok (.ireturn, 1) := by decide +kernel
theorem d_M_sortOf_56 : decode b_M_sortOf 56 = .ok (.iload_n 0, 1) := by decide +kernel
theorem d_M_sortOf_57 : decode b_M_sortOf 57 = .ok (.sipush 192, 3) := by decide +kernel
theorem d_M_sortOf_60 : decode b_M_sortOf 60 = .ok (.if_icmp .lt 30, 3) := by decide +kernel
theorem d_M_sortOf_63 : decode b_M_sortOf 63 = .ok (.iload_n 0, 1) := by decide +kernel
theorem d_M_sortOf_64 : decode b_M_sortOf 64 = .ok (.sipush 591, 3) := by decide +kernel
theorem d_M_sortOf_67 : decode b_M_sortOf 67 = .ok (.if_icmp .gt 23, 3) := by decide +kernel
theorem d_M_sortOf_70 : decode b_M_sortOf 70 = .ok (.iload_n 0, 1) := by decide +kernel
theorem d_M_sortOf_71 : decode b_M_sortOf 71 = .ok (.sipush 215, 3) := by decide +kernel
theorem d_M_sortOf_74 : decode b_M_sortOf 74 = .ok (.if_icmp .eq 10, 3) := by decide +kernel
theorem d_M_sortOf_77 : decode b_M_sortOf 77 = .ok (.iload_n 0, 1) := by decide +kernel
theorem d_M_sortOf_78 : decode b_M_sortOf 78 = .ok (.sipush 247, 3) := by decide +kernel
theorem d_M_sortOf_81 : decode b_M_sortOf 81 = .ok (.if_icmp .ne 7, 3) := by decide +kernel
theorem d_M_sortOf_84 : decode b_M_sortOf 84 = .ok (.iconst 0, 1) := by decide +kernel
theorem d_M_sortOf_85 : decode b_M_sortOf 85 = .ok (.goto 4, 3) := by decide +kernel
theorem d_M_sortOf_88 : decode b_M_sortOf 88 = .ok (.iconst 1, 1) := by decide +kernel
theorem d_M_sortOf_89 : decode b_M_sortOf 89 = .ok (.ireturn, 1) := by decide +kernel
theorem d_M_sortOf_90 : decode b_M_sortOf 90 = .ok (.iload_n 0, 1) := by decide +kernel
theorem d_M_sortOf_91 : decode b_M_sortOf 91 = .ok (.sipush 913, 3) := by decide +kernel
theorem d_M_sortOf_94 : decode b_M_sortOf 94 = .ok (.if_icmp .lt 10, 3) := by decide +kernel
theorem d_M_sortOf_97 : decode b_M_sortOf 97 = .ok (.iload_n 0, 1) := by decide +kernel
theorem d_M_sortOf_98 : decode b_M_sortOf 98 = .ok (.sipush 1023, 3) := by decide +kernel
theorem d_M_sortOf_101 : decode b_M_sortOf 101 = .ok (.if_icmp .le 17, 3) := by decide +kernel
theorem d_M_sortOf_104 : decode b_M_sortOf 104 = .ok (.iload_n 0, 1) := by decide +kernel
theorem d_M_sortOf_105 : decode b_M_sortOf 105 = .ok (.sipush 1024, 3) := by decide +kernel
theorem d_M_sortOf_108 : decode b_M_sortOf 108 = .ok (.if_icmp .lt 12, 3) := by decide +kernel
theorem d_M_sortOf_111 : decode b_M_sortOf 111 = .ok (.iload_n 0, 1) := by decide +kernel
theorem d_M_sortOf_112 : decode b_M_sortOf 112 = .ok (.sipush 1279, 3) := by decide +kernel
theorem d_M_sortOf_115 : decode b_M_sortOf 115 = .ok (.if_icmp .gt 5, 3) := by decide +kernel
theorem d_M_sortOf_118 : decode b_M_sortOf 118 = .ok (.iconst 1, 1) := by decide +kernel
theorem d_M_sortOf_119 : decode b_M_sortOf 119 = .ok (.ireturn, 1) := by decide +kernel
theorem d_M_sortOf_120 : decode b_M_sortOf 120 = .ok (.iload_n 0, 1) := by decide +kernel
theorem d_M_sortOf_121 : decode b_M_sortOf 121 = .ok (.sipush 19968, 3) := by decide +kernel
theorem d_M_sortOf_124 : decode b_M_sortOf 124 = .ok (.if_icmp .lt 12, 3) := by decide +kernel
theorem d_M_sortOf_127 : decode b_M_sortOf 127 = .ok (.iload_n 0, 1) := by decide +kernel
theorem d_M_sortOf_128 : decode b_M_sortOf 128 = .ok (.ldc 226, 2) := by decide +kernel
theorem d_M_sortOf_130 : decode b_M_sortOf 130 = .ok (.if_icmp .gt 6, 3) := by decide +kernel
theorem d_M_sortOf_133 : decode b_M_sortOf 133 = .ok (.bipush 7, 2) := by decide +kernel
theorem d_M_sortOf_135 : decode b_M_sortOf 135 = .ok (.ireturn, 1) := by decide +kernel
theorem d_M_sortOf_136 : decode b_M_sortOf 136 = .ok (.iload_n 0, 1) := by decide +kernel
theorem d_M_sortOf_137 : decode b_M_sortOf 137 = .ok (.sipush 183, 3) := by decide +kernel
theorem d_M_sortOf_140 : decode b_M_sortOf 140 = .ok (.if_icmp .ne 5, 3) := by decide +kernel
theorem d_M_sortOf_143 : decode b_M_sortOf 143 = .ok (.iconst 4, 1) := by decide +kernel
theorem d_M_sortOf_144 : decode b_M_sortOf 144 = .ok (.ireturn, 1) := by decide +kernel
theorem d_M_sortOf_145 : decode b_M_sortOf 145 = .ok (.iload_n 0, 1) := by decide +kernel
theorem d_M_sortOf_146 : decode b_M_sortOf 146 = .ok (.bipush 44, 2) := by decide +kernel
theorem d_M_sortOf_148 : decode b_M_sortOf 148 = .ok (.if_icmp .eq 9, 3) := by decide +kernel
theorem d_M_sortOf_151 : decode b_M_sortOf 151 = .ok (.iload_n 0, 1) := by decide +kernel
theorem d_M_sortOf_152 : decode b_M_sortOf 152 = .ok (.bipush 59, 2) := by decide +kernel
theorem d_M_sortOf_154 : decode b_M_sortOf 154 = .ok (.if_icmp .ne 5, 3) := by decide +kernel
theorem d_M_sortOf_157 : decode b_M_sortOf 157 = .ok (.iconst 5, 1) := by decide +kernel
theorem d_M_sortOf_158 : decode b_M_sortOf 158 = .ok (.ireturn, 1) := by decide +kernel
