theorem d_L_law_917 : decode code 917 = .ok (.aload_n 0, 1) := by decide +kernel
theorem d_L_law_918 : decode code 918 = .ok (.iload 4, 2) := by decide +kernel
theorem d_L_law_920 : decode code 920 = .ok (.iconst 2, 1) := by decide +kernel
theorem d_L_law_921 : decode code 921 = .ok (.iadd, 1) := by decide +kernel
theorem d_L_law_922 : decode code 922 = .ok (.iaload, 1) := by decide +kernel
theorem d_L_law_923 : decode code 923 = .ok (.aload_n 3, 1) := by decide +kernel
theorem d_L_law_924 : decode code 924 = .ok (.invokestatic 131, 3) := by decide +kernel
theorem d_L_law_927 : decode code 927 = .ok (.istore 5, 2) := by decide +kernel
theorem d_L_law_929 : decode code 929 = .ok (.aload_n 2, 1) := by decide +kernel
theorem d_L_law_930 : decode code 930 = .ok (.aload_n 0, 1) := by decide +kernel
theorem d_L_law_931 : decode code 931 = .ok (.iload 4, 2) := by decide +kernel
theorem d_L_law_933 : decode code 933 = .ok (.iconst 1, 1) := by decide +kernel
theorem d_L_law_934 : decode code 934 = .ok (.iadd, 1) := by decide +kernel
theorem d_L_law_935 : decode code 935 = .ok (.iaload, 1) := by decide +kernel
theorem d_L_law_936 : decode code 936 = .ok (.aload_n 0, 1) := by decide +kernel
theorem d_L_law_937 : decode code 937 = .ok (.iload 4, 2) := by decide +kernel
theorem d_L_law_939 : decode code 939 = .ok (.iconst 2, 1) := by decide +kernel
theorem d_L_law_940 : decode code 940 = .ok (.iadd, 1) := by decide +kernel
theorem d_L_law_941 : decode code 941 = .ok (.iaload, 1) := by decide +kernel
theorem d_L_law_942 : decode code 942 = .ok (.invokevirtual 133, 3) := by decide +kernel
theorem d_L_law_945 : decode code 945 = .ok (.istore 6, 2) := by decide +kernel
theorem d_L_law_947 : decode code 947 = .ok (.aload_n 2, 1) := by decide +kernel
theorem d_L_law_948 : decode code 948 = .ok (.invokevirtual 75, 3) := by decide +kernel
theorem d_L_law_951 : decode code 951 = .ok (.iload 5, 2) := by decide +kernel
theorem d_L_law_953 : decode code 953 = .ok (.if_icmp .eq 5, 3) := by decide +kernel
theorem d_L_law_958 : decode code 958 = .ok (.iload 5, 2) := by decide +kernel
theorem d_L_law_960 : decode code 960 = .ok (.ifCond .ne 22, 3) := by decide +kernel
theorem d_L_law_982 : decode code 982 = .ok (.goto 71, 3) := by decide +kernel
theorem d_L_law_985 : decode code 985 = .ok (.aload_n 1, 1) := by decide +kernel
theorem d_L_law_986 : decode code 986 = .ok (.aload_n 0, 1) := by decide +kernel
theorem d_L_law_987 : decode code 987 = .ok (.iload 4, 2) := by decide +kernel
theorem d_L_law_989 : decode code 989 = .ok (.iconst 1, 1) := by decide +kernel
theorem d_L_law_990 : decode code 990 = .ok (.iadd, 1) := by decide +kernel
theorem d_L_law_991 : decode code 991 = .ok (.iaload, 1) := by decide +kernel
theorem d_L_law_992 : decode code 992 = .ok (.aload_n 0, 1) := by decide +kernel
theorem d_L_law_993 : decode code 993 = .ok (.iload 4, 2) := by decide +kernel
theorem d_L_law_995 : decode code 995 = .ok (.iconst 2, 1) := by decide +kernel
theorem d_L_law_996 : decode code 996 = .ok (.iadd, 1) := by decide +kernel
theorem d_L_law_997 : decode code 997 = .ok (.iaload, 1) := by decide +kernel
theorem d_L_law_998 : decode code 998 = .ok (.aload_n 3, 1) := by decide +kernel
theorem d_L_law_999 : decode code 999 = .ok (.invokestatic 134, 3) := by decide +kernel
theorem d_L_law_1002 : decode code 1002 = .ok (.istore 5, 2) := by decide +kernel
theorem d_L_law_1004 : decode code 1004 = .ok (.aload_n 2, 1) := by decide +kernel
theorem d_L_law_1005 : decode code 1005 = .ok (.aload_n 0, 1) := by decide +kernel
theorem d_L_law_1006 : decode code 1006 = .ok (.iload 4, 2) := by decide +kernel
theorem d_L_law_1008 : decode code 1008 = .ok (.iconst 1, 1) := by decide +kernel
theorem d_L_law_1009 : decode code 1009 = .ok (.iadd, 1) := by decide +kernel
theorem d_L_law_1010 : decode code 1010 = .ok (.iaload, 1) := by decide +kernel
theorem d_L_law_1011 : decode code 1011 = .ok (.aload_n 0, 1) := by decide +kernel
theorem d_L_law_1012 : decode code 1012 = .ok (.iload 4, 2) := by decide +kernel
theorem d_L_law_1014 : decode code 1014 = .ok (.iconst 2, 1) := by decide +kernel
theorem d_L_law_1015 : decode code 1015 = .ok (.iadd, 1) := by decide +kernel
theorem d_L_law_1016 : decode code 1016 = .ok (.iaload, 1) := by decide +kernel
theorem d_L_law_1017 : decode code 1017 = .ok (.invokevirtual 136, 3) := by decide +kernel
theorem d_L_law_1020 : decode code 1020 = .ok (.istore 6, 2) := by decide +kernel
theorem d_L_law_1022 : decode code 1022 = .ok (.aload_n 2, 1) := by decide +kernel
theorem d_L_law_1023 : decode code 1023 = .ok (.invokevirtual 75, 3) := by decide +kernel
theorem d_L_law_1026 : decode code 1026 = .ok (.iload 5, 2) := by decide +kernel
theorem d_L_law_1028 : decode code 1028 = .ok (.if_icmp .eq 5, 3) := by decide +kernel
theorem d_L_law_1033 : decode code 1033 = .ok (.iload 5, 2) := by decide +kernel
theorem d_L_law_1035 : decode code 1035 = .ok (.ifCond .ne 15, 3) := by decide +kernel
theorem d_L_law_1050 : decode code 1050 = .ok (.goto 3, 3) := by decide +kernel
theorem d_L_law_412 : decode code 412 = .ok (.aload_n 1, 1) := by decide +kernel
theorem d_L_law_413 : decode code 413 = .ok (.aload_n 0, 1) := by decide +kernel
theorem d_L_law_414 : decode code 414 = .ok (.iload 4, 2) := by decide +kernel
theorem d_L_law_416 : decode code 416 = .ok (.iconst 1, 1) := by decide +kernel
theorem d_L_law_417 : decode code 417 = .ok (.iadd, 1) := by decide +kernel
theorem d_L_law_418 : decode code 418 = .ok (.iaload, 1) := by decide +kernel
theorem d_L_law_419 : decode code 419 = .ok (.invokevirtual 90, 3) := by decide +kernel
theorem d_L_law_422 : decode code 422 = .ok (.aload_n 2, 1) := by decide +kernel
theorem d_L_law_423 : decode code 423 = .ok (.aload_n 0, 1) := by decide +kernel
theorem d_L_law_424 : decode code 424 = .ok (.iload 4, 2) := by decide +kernel
theorem d_L_law_426 : decode code 426 = .ok (.iconst 1, 1) := by decide +kernel
theorem d_L_law_427 : decode code 427 = .ok (.iadd, 1) := by decide +kernel
theorem d_L_law_428 : decode code 428 = .ok (.iaload, 1) := by decide +kernel
theorem d_L_law_429 : decode code 429 = .ok (.invokevirtual 93, 3) := by decide +kernel
theorem d_L_law_432 : decode code 432 = .ok (.if_icmp .eq 621, 3) := by decide +kernel
theorem d_L_law_0 : decode code 0 = .ok (.new 8, 3) := by decide +kernel
theorem d_L_law_3 : decode code 3 = .ok (.dup, 1) := by decide +kernel
theorem d_L_law_4 : decode code 4 = .ok (.invokespecial 65, 3) := by decide +kernel
theorem d_L_law_7 : decode code 7 = .ok (.astore_n 1, 1) := by decide +kernel
theorem d_L_law_8 : decode code 8 = .ok (.new 66, 3) := by decide +kernel
theorem d_L_law_11 : decode code 11 = .ok (.dup, 1) := by decide +kernel
theorem d_L_law_12 : decode code 12 = .ok (.invokespecial 68, 3) := by decide +kernel
theorem d_L_law_15 : decode code 15 = .ok (.astore_n 2, 1) := by decide +kernel
theorem d_L_law_16 : decode code 16 = .ok (.iconst 1, 1) := by decide +kernel
theorem d_L_law_17 : decode code 17 = .ok (.newarray .long, 2) := by decide +kernel
theorem d_L_law_19 : decode code 19 = .ok (.astore_n 3, 1) := by decide +kernel
theorem d_L_law_20 : decode code 20 = .ok (.iconst 0, 1) := by decide +kernel
theorem d_L_law_21 : decode code 21 = .ok (.istore 4, 2) := by decide +kernel
theorem d_L_law_33 : decode code 33 = .ok (.aload_n 0, 1) := by decide +kernel
theorem d_L_law_34 : decode code 34 = .ok (.iload 4, 2) := by decide +kernel
theorem d_L_law_36 : decode code 36 = .ok (.iaload, 1) := by decide +kernel
theorem d_L_law_37 : decode code 37 = .ok (.bipush 31, 2) := by decide +kernel
theorem d_L_law_39 : decode code 39 = .ok (.iand, 1) := by decide +kernel
theorem d_L_law_40 : decode code 40 = .ok (.tableswitch 1013 0 16 #[84, 152, 244, 328, 372, 397, 453, 521, 589, 693, 704, 752, 788, 844, 857, 870, 945], 84) := by decide +kernel
