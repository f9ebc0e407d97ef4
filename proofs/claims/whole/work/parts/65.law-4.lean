theorem dL_law_855 : decode code 855 = .ok (.if_icmp .eq 5, 3) := by decide +kernel
theorem dL_law_858 : decode code 858 = .ok (.iconst 0, 1) := by decide +kernel
theorem dL_law_859 : decode code 859 = .ok (.ireturn, 1) := by decide +kernel
theorem dL_law_860 : decode code 860 = .ok (.iload 5, 2) := by decide +kernel
theorem dL_law_862 : decode code 862 = .ok (.ifCond .ne 14, 3) := by decide +kernel
theorem dL_law_865 : decode code 865 = .ok (.aload_n 3, 1) := by decide +kernel
theorem dL_law_866 : decode code 866 = .ok (.iconst 0, 1) := by decide +kernel
theorem dL_law_867 : decode code 867 = .ok (.laload, 1) := by decide +kernel
theorem dL_law_868 : decode code 868 = .ok (.lload 6, 2) := by decide +kernel
theorem dL_law_870 : decode code 870 = .ok (.lcmp, 1) := by decide +kernel
theorem dL_law_871 : decode code 871 = .ok (.ifCond .eq 5, 3) := by decide +kernel
theorem dL_law_874 : decode code 874 = .ok (.iconst 0, 1) := by decide +kernel
theorem dL_law_875 : decode code 875 = .ok (.ireturn, 1) := by decide +kernel
theorem dL_law_876 : decode code 876 = .ok (.goto 338, 3) := by decide +kernel
theorem dL_law_879 : decode code 879 = .ok (.aload_n 1, 1) := by decide +kernel
theorem dL_law_880 : decode code 880 = .ok (.aload_n 0, 1) := by decide +kernel
theorem dL_law_881 : decode code 881 = .ok (.iload 4, 2) := by decide +kernel
theorem dL_law_883 : decode code 883 = .ok (.iconst 1, 1) := by decide +kernel
theorem dL_law_884 : decode code 884 = .ok (.iadd, 1) := by decide +kernel
theorem dL_law_885 : decode code 885 = .ok (.iaload, 1) := by decide +kernel
theorem dL_law_886 : decode code 886 = .ok (.aload_n 3, 1) := by decide +kernel
theorem dL_law_887 : decode code 887 = .ok (.invokestatic 141, 3) := by decide +kernel
theorem dL_law_890 : decode code 890 = .ok (.istore 5, 2) := by decide +kernel
theorem dL_law_892 : decode code 892 = .ok (.aload_n 2, 1) := by decide +kernel
theorem dL_law_893 : decode code 893 = .ok (.aload_n 0, 1) := by decide +kernel
theorem dL_law_894 : decode code 894 = .ok (.iload 4, 2) := by decide +kernel
theorem dL_law_896 : decode code 896 = .ok (.iconst 1, 1) := by decide +kernel
theorem dL_law_897 : decode code 897 = .ok (.iadd, 1) := by decide +kernel
theorem dL_law_898 : decode code 898 = .ok (.iaload, 1) := by decide +kernel
theorem dL_law_899 : decode code 899 = .ok (.invokevirtual 143, 3) := by decide +kernel
theorem dL_law_902 : decode code 902 = .ok (.istore 6, 2) := by decide +kernel
theorem dL_law_904 : decode code 904 = .ok (.aload_n 2, 1) := by decide +kernel
theorem dL_law_905 : decode code 905 = .ok (.invokevirtual 96, 3) := by decide +kernel
theorem dL_law_908 : decode code 908 = .ok (.iload 5, 2) := by decide +kernel
theorem dL_law_910 : decode code 910 = .ok (.if_icmp .eq 5, 3) := by decide +kernel
theorem dL_law_913 : decode code 913 = .ok (.iconst 0, 1) := by decide +kernel
theorem dL_law_914 : decode code 914 = .ok (.ireturn, 1) := by decide +kernel
theorem dL_law_915 : decode code 915 = .ok (.iload 5, 2) := by decide +kernel
theorem dL_law_917 : decode code 917 = .ok (.ifCond .ne 15, 3) := by decide +kernel
theorem dL_law_920 : decode code 920 = .ok (.aload_n 3, 1) := by decide +kernel
theorem dL_law_921 : decode code 921 = .ok (.iconst 0, 1) := by decide +kernel
theorem dL_law_922 : decode code 922 = .ok (.laload, 1) := by decide +kernel
theorem dL_law_923 : decode code 923 = .ok (.iload 6, 2) := by decide +kernel
theorem dL_law_925 : decode code 925 = .ok (.i2l, 1) := by decide +kernel
theorem dL_law_926 : decode code 926 = .ok (.lcmp, 1) := by decide +kernel
theorem dL_law_927 : decode code 927 = .ok (.ifCond .eq 5, 3) := by decide +kernel
theorem dL_law_930 : decode code 930 = .ok (.iconst 0, 1) := by decide +kernel
theorem dL_law_931 : decode code 931 = .ok (.ireturn, 1) := by decide +kernel
theorem dL_law_932 : decode code 932 = .ok (.goto 282, 3) := by decide +kernel
theorem dL_law_935 : decode code 935 = .ok (.aload_n 1, 1) := by decide +kernel
theorem dL_law_936 : decode code 936 = .ok (.aload_n 0, 1) := by decide +kernel
theorem dL_law_937 : decode code 937 = .ok (.iload 4, 2) := by decide +kernel
theorem dL_law_939 : decode code 939 = .ok (.iconst 1, 1) := by decide +kernel
theorem dL_law_940 : decode code 940 = .ok (.iadd, 1) := by decide +kernel
theorem dL_law_941 : decode code 941 = .ok (.iaload, 1) := by decide +kernel
theorem dL_law_942 : decode code 942 = .ok (.aload_n 3, 1) := by decide +kernel
theorem dL_law_943 : decode code 943 = .ok (.invokestatic 144, 3) := by decide +kernel
theorem dL_law_946 : decode code 946 = .ok (.istore 5, 2) := by decide +kernel
theorem dL_law_948 : decode code 948 = .ok (.aload_n 2, 1) := by decide +kernel
theorem dL_law_949 : decode code 949 = .ok (.aload_n 0, 1) := by decide +kernel
theorem dL_law_950 : decode code 950 = .ok (.iload 4, 2) := by decide +kernel
theorem dL_law_952 : decode code 952 = .ok (.iconst 1, 1) := by decide +kernel
theorem dL_law_953 : decode code 953 = .ok (.iadd, 1) := by decide +kernel
theorem dL_law_954 : decode code 954 = .ok (.iaload, 1) := by decide +kernel
theorem dL_law_955 : decode code 955 = .ok (.invokevirtual 146, 3) := by decide +kernel
theorem dL_law_958 : decode code 958 = .ok (.istore 6, 2) := by decide +kernel
theorem dL_law_960 : decode code 960 = .ok (.aload_n 2, 1) := by decide +kernel
theorem dL_law_961 : decode code 961 = .ok (.invokevirtual 96, 3) := by decide +kernel
theorem dL_law_964 : decode code 964 = .ok (.iload 5, 2) := by decide +kernel
theorem dL_law_966 : decode code 966 = .ok (.if_icmp .eq 5, 3) := by decide +kernel
theorem dL_law_969 : decode code 969 = .ok (.iconst 0, 1) := by decide +kernel
theorem dL_law_970 : decode code 970 = .ok (.ireturn, 1) := by decide +kernel
theorem dL_law_971 : decode code 971 = .ok (.iload 5, 2) := by decide +kernel
theorem dL_law_973 : decode code 973 = .ok (.ifCond .ne 22, 3) := by decide +kernel
theorem dL_law_976 : decode code 976 = .ok (.aload_n 3, 1) := by decide +kernel
theorem dL_law_977 : decode code 977 = .ok (.iconst 0, 1) := by decide +kernel
theorem dL_law_978 : decode code 978 = .ok (.laload, 1) := by decide +kernel
theorem dL_law_979 : decode code 979 = .ok (.iload 6, 2) := by decide +kernel
theorem dL_law_981 : decode code 981 = .ok (.ifCond .eq 7, 3) := by decide +kernel
theorem dL_law_984 : decode code 984 = .ok (.lconst 1, 1) := by decide +kernel
theorem dL_law_985 : decode code 985 = .ok (.goto 4, 3) := by decide +kernel
theorem dL_law_988 : decode code 988 = .ok (.lconst 0, 1) := by decide +kernel
theorem dL_law_989 : decode code 989 = .ok (.lcmp, 1) := by decide +kernel
theorem dL_law_990 : decode code 990 = .ok (.ifCond .eq 5, 3) := by decide +kernel
theorem dL_law_993 : decode code 993 = .ok (.iconst 0, 1) := by decide +kernel
theorem dL_law_994 : decode code 994 = .ok (.ireturn, 1) := by decide +kernel
theorem dL_law_995 : decode code 995 = .ok (.goto 219, 3) := by decide +kernel
theorem dL_law_998 : decode code 998 = .ok (.aload_n 1, 1) := by decide +kernel
theorem dL_law_999 : decode code 999 = .ok (.aload_n 3, 1) := by decide +kernel
theorem dL_law_1000 : decode code 1000 = .ok (.invokestatic 147, 3) := by decide +kernel
theorem dL_law_1003 : decode code 1003 = .ok (.istore 5, 2) := by decide +kernel
theorem dL_law_1005 : decode code 1005 = .ok (.aload_n 2, 1) := by decide +kernel
theorem dL_law_1006 : decode code 1006 = .ok (.invokevirtual 150, 3) := by decide +kernel
theorem dL_law_1009 : decode code 1009 = .ok (.istore 6, 2) := by decide +kernel
theorem dL_law_1011 : decode code 1011 = .ok (.aload_n 2, 1) := by decide +kernel
theorem dL_law_1012 : decode code 1012 = .ok (.invokevirtual 96, 3) := by decide +kernel
theorem dL_law_1015 : decode code 1015 = .ok (.iload 5, 2) := by decide +kernel
theorem dL_law_1017 : decode code 1017 = .ok (.if_icmp .eq 5, 3) := by decide +kernel
theorem dL_law_1020 : decode code 1020 = .ok (.iconst 0, 1) := by decide +kernel
theorem dL_law_1021 : decode code 1021 = .ok (.ireturn, 1) := by decide +kernel
theorem dL_law_1022 : decode code 1022 = .ok (.iload 5, 2) := by decide +kernel
theorem dL_law_1024 : decode code 1024 = .ok (.ifCond .ne 15, 3) := by decide +kernel
theorem dL_law_1027 : decode code 1027 = .ok (.aload_n 3, 1) := by decide +kernel
theorem dL_law_1028 : decode code 1028 = .ok (.iconst 0, 1) := by decide +kernel
theorem dL_law_1029 : decode code 1029 = .ok (.laload, 1) := by decide +kernel
theorem dL_law_1030 : decode code 1030 = .ok (.iload 6, 2) := by decide +kernel
theorem dL_law_1032 : decode code 1032 = .ok (.i2l, 1) := by decide +kernel
theorem dL_law_1033 : decode code 1033 = .ok (.lcmp, 1) := by decide +kernel
theorem dL_law_1034 : decode code 1034 = .ok (.ifCond .eq 5, 3) := by decide +kernel
theorem dL_law_1037 : decode code 1037 = .ok (.iconst 0, 1) := by decide +kernel
theorem dL_law_1038 : decode code 1038 = .ok (.ireturn, 1) := by decide +kernel
theorem dL_law_1039 : decode code 1039 = .ok (.goto 175, 3) := by decide +kernel
theorem dL_law_1042 : decode code 1042 = .ok (.aload_n 1, 1) := by decide +kernel
theorem dL_law_1043 : decode code 1043 = .ok (.aload_n 0, 1) := by decide +kernel
theorem dL_law_1044 : decode code 1044 = .ok (.iload 4, 2) := by decide +kernel
theorem dL_law_1046 : decode code 1046 = .ok (.iconst 1, 1) := by decide +kernel
theorem dL_law_1047 : decode code 1047 = .ok (.iadd, 1) := by decide +kernel
theorem dL_law_1048 : decode code 1048 = .ok (.iaload, 1) := by decide +kernel
theorem dL_law_1049 : decode code 1049 = .ok (.aload_n 0, 1) := by decide +kernel
theorem dL_law_1050 : decode code 1050 = .ok (.iload 4, 2) := by decide +kernel
theorem dL_law_1052 : decode code 1052 = .ok (.iconst 2, 1) := by decide +kernel
theorem dL_law_1053 : decode code 1053 = .ok (.iadd, 1) := by decide +kernel
theorem dL_law_1054 : decode code 1054 = .ok (.iaload, 1) := by decide +kernel
theorem dL_law_1055 : decode code 1055 = .ok (.aload_n 3, 1) := by decide +kernel
theorem dL_law_1056 : decode code 1056 = .ok (.invokestatic 151, 3) := by decide +kernel
theorem dL_law_1059 : decode code 1059 = .ok (.istore 5, 2) := by decide +kernel
theorem dL_law_1061 : decode code 1061 = .ok (.aload_n 2, 1) := by decide +kernel
theorem dL_law_1062 : decode code 1062 = .ok (.aload_n 0, 1) := by decide +kernel
theorem dL_law_1063 : decode code 1063 = .ok (.iload 4, 2) := by decide +kernel
theorem dL_law_1065 : decode code 1065 = .ok (.iconst 1, 1) := by decide +kernel
