theorem d_L_law_936 : decode (qB q_L_law) 936 = .ok (.iaload, 1) := by decide +kernel
theorem d_L_law_937 : decode (qB q_L_law) 937 = .ok (.aload_n 0, 1) := by decide +kernel
theorem d_L_law_938 : decode (qB q_L_law) 938 = .ok (.iload_n 3, 1) := by decide +kernel
theorem d_L_law_939 : decode (qB q_L_law) 939 = .ok (.iconst 3, 1) := by decide +kernel
theorem d_L_law_940 : decode (qB q_L_law) 940 = .ok (.iadd, 1) := by decide +kernel
theorem d_L_law_941 : decode (qB q_L_law) 941 = .ok (.iaload, 1) := by decide +kernel
theorem d_L_law_942 : decode (qB q_L_law) 942 = .ok (.invokevirtual 95, 3) := by decide +kernel
theorem d_L_law_945 : decode (qB q_L_law) 945 = .ok (.if_icmp .eq 55, 3) := by decide +kernel
theorem d_L_law_948 : decode (qB q_L_law) 948 = .ok (.iconst 0, 1) := by decide +kernel
theorem d_L_law_949 : decode (qB q_L_law) 949 = .ok (.ireturn, 1) := by decide +kernel
theorem d_L_law_950 : decode (qB q_L_law) 950 = .ok (.aload_n 1, 1) := by decide +kernel
theorem d_L_law_951 : decode (qB q_L_law) 951 = .ok (.aload_n 0, 1) := by decide +kernel
theorem d_L_law_952 : decode (qB q_L_law) 952 = .ok (.iload_n 3, 1) := by decide +kernel
theorem d_L_law_953 : decode (qB q_L_law) 953 = .ok (.iconst 1, 1) := by decide +kernel
theorem d_L_law_954 : decode (qB q_L_law) 954 = .ok (.iadd, 1) := by decide +kernel
theorem d_L_law_955 : decode (qB q_L_law) 955 = .ok (.iaload, 1) := by decide +kernel
theorem d_L_law_956 : decode (qB q_L_law) 956 = .ok (.invokevirtual 96, 3) := by decide +kernel
theorem d_L_law_959 : decode (qB q_L_law) 959 = .ok (.aload_n 2, 1) := by decide +kernel
theorem d_L_law_960 : decode (qB q_L_law) 960 = .ok (.aload_n 0, 1) := by decide +kernel
theorem d_L_law_961 : decode (qB q_L_law) 961 = .ok (.iload_n 3, 1) := by decide +kernel
theorem d_L_law_962 : decode (qB q_L_law) 962 = .ok (.iconst 1, 1) := by decide +kernel
theorem d_L_law_963 : decode (qB q_L_law) 963 = .ok (.iadd, 1) := by decide +kernel
theorem d_L_law_964 : decode (qB q_L_law) 964 = .ok (.iaload, 1) := by decide +kernel
theorem d_L_law_965 : decode (qB q_L_law) 965 = .ok (.invokevirtual 99, 3) := by decide +kernel
theorem d_L_law_968 : decode (qB q_L_law) 968 = .ok (.lcmp, 1) := by decide +kernel
theorem d_L_law_969 : decode (qB q_L_law) 969 = .ok (.ifCond .eq 31, 3) := by decide +kernel
theorem d_L_law_972 : decode (qB q_L_law) 972 = .ok (.iconst 0, 1) := by decide +kernel
theorem d_L_law_973 : decode (qB q_L_law) 973 = .ok (.ireturn, 1) := by decide +kernel
theorem d_L_law_974 : decode (qB q_L_law) 974 = .ok (.aload_n 1, 1) := by decide +kernel
theorem d_L_law_975 : decode (qB q_L_law) 975 = .ok (.invokevirtual 100, 3) := by decide +kernel
theorem d_L_law_978 : decode (qB q_L_law) 978 = .ok (.aload_n 2, 1) := by decide +kernel
theorem d_L_law_979 : decode (qB q_L_law) 979 = .ok (.invokevirtual 104, 3) := by decide +kernel
theorem d_L_law_982 : decode (qB q_L_law) 982 = .ok (.if_icmp .eq 18, 3) := by decide +kernel
theorem d_L_law_985 : decode (qB q_L_law) 985 = .ok (.iconst 0, 1) := by decide +kernel
theorem d_L_law_986 : decode (qB q_L_law) 986 = .ok (.ireturn, 1) := by decide +kernel
theorem d_L_law_987 : decode (qB q_L_law) 987 = .ok (.aload_n 1, 1) := by decide +kernel
theorem d_L_law_988 : decode (qB q_L_law) 988 = .ok (.invokevirtual 105, 3) := by decide +kernel
theorem d_L_law_991 : decode (qB q_L_law) 991 = .ok (.aload_n 2, 1) := by decide +kernel
theorem d_L_law_992 : decode (qB q_L_law) 992 = .ok (.invokevirtual 108, 3) := by decide +kernel
theorem d_L_law_995 : decode (qB q_L_law) 995 = .ok (.if_icmp .eq 5, 3) := by decide +kernel
theorem d_L_law_998 : decode (qB q_L_law) 998 = .ok (.iconst 0, 1) := by decide +kernel
theorem d_L_law_999 : decode (qB q_L_law) 999 = .ok (.ireturn, 1) := by decide +kernel
theorem d_L_law_1000 : decode (qB q_L_law) 1000 = .ok (.iinc 3 7, 3) := by decide +kernel
theorem d_L_law_1003 : decode (qB q_L_law) 1003 = .ok (.goto (-965), 3) := by decide +kernel
theorem d_L_law_1006 : decode (qB q_L_law) 1006 = .ok (.iconst 1, 1) := by decide +kernel
theorem d_L_law_1007 : decode (qB q_L_law) 1007 = .ok (.ireturn, 1) := by decide +kernel
