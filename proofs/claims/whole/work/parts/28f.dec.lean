theorem d_L_law_871 : decode b_L_law 871 = .ok (.bipush 32, 2) := by decide +kernel
theorem d_L_law_873 : decode b_L_law 873 = .ok (.lshl, 1) := by decide +kernel
theorem d_L_law_874 : decode b_L_law 874 = .ok (.aload_n 0, 1) := by decide +kernel
theorem d_L_law_875 : decode b_L_law 875 = .ok (.iload_n 3, 1) := by decide +kernel
theorem d_L_law_876 : decode b_L_law 876 = .ok (.bipush 6, 2) := by decide +kernel
theorem d_L_law_878 : decode b_L_law 878 = .ok (.iadd, 1) := by decide +kernel
theorem d_L_law_879 : decode b_L_law 879 = .ok (.iaload, 1) := by decide +kernel
theorem d_L_law_880 : decode b_L_law 880 = .ok (.i2l, 1) := by decide +kernel
theorem d_L_law_881 : decode b_L_law 881 = .ok (.ldc2_w 31, 3) := by decide +kernel
theorem d_L_law_884 : decode b_L_law 884 = .ok (.land, 1) := by decide +kernel
theorem d_L_law_885 : decode b_L_law 885 = .ok (.lor, 1) := by decide +kernel
theorem d_L_law_886 : decode b_L_law 886 = .ok (.invokevirtual 97, 3) := by decide +kernel
theorem d_L_law_889 : decode b_L_law 889 = .ok (.aload_n 2, 1) := by decide +kernel
theorem d_L_law_890 : decode b_L_law 890 = .ok (.aload_n 0, 1) := by decide +kernel
theorem d_L_law_891 : decode b_L_law 891 = .ok (.iload_n 3, 1) := by decide +kernel
theorem d_L_law_892 : decode b_L_law 892 = .ok (.iconst 1, 1) := by decide +kernel
theorem d_L_law_893 : decode b_L_law 893 = .ok (.iadd, 1) := by decide +kernel
theorem d_L_law_894 : decode b_L_law 894 = .ok (.iaload, 1) := by decide +kernel
theorem d_L_law_895 : decode b_L_law 895 = .ok (.aload_n 0, 1) := by decide +kernel
theorem d_L_law_896 : decode b_L_law 896 = .ok (.iload_n 3, 1) := by decide +kernel
theorem d_L_law_897 : decode b_L_law 897 = .ok (.iconst 2, 1) := by decide +kernel
theorem d_L_law_898 : decode b_L_law 898 = .ok (.iadd, 1) := by decide +kernel
theorem d_L_law_899 : decode b_L_law 899 = .ok (.iaload, 1) := by decide +kernel
theorem d_L_law_900 : decode b_L_law 900 = .ok (.aload_n 0, 1) := by decide +kernel
theorem d_L_law_901 : decode b_L_law 901 = .ok (.iload_n 3, 1) := by decide +kernel
theorem d_L_law_902 : decode b_L_law 902 = .ok (.iconst 3, 1) := by decide +kernel
theorem d_L_law_903 : decode b_L_law 903 = .ok (.iadd, 1) := by decide +kernel
theorem d_L_law_904 : decode b_L_law 904 = .ok (.iaload, 1) := by decide +kernel
theorem d_L_law_905 : decode b_L_law 905 = .ok (.i2l, 1) := by decide +kernel
theorem d_L_law_906 : decode b_L_law 906 = .ok (.bipush 32, 2) := by decide +kernel
theorem d_L_law_908 : decode b_L_law 908 = .ok (.lshl, 1) := by decide +kernel
theorem d_L_law_909 : decode b_L_law 909 = .ok (.aload_n 0, 1) := by decide +kernel
theorem d_L_law_910 : decode b_L_law 910 = .ok (.iload_n 3, 1) := by decide +kernel
theorem d_L_law_911 : decode b_L_law 911 = .ok (.iconst 4, 1) := by decide +kernel
theorem d_L_law_912 : decode b_L_law 912 = .ok (.iadd, 1) := by decide +kernel
theorem d_L_law_913 : decode b_L_law 913 = .ok (.iaload, 1) := by decide +kernel
theorem d_L_law_914 : decode b_L_law 914 = .ok (.i2l, 1) := by decide +kernel
theorem d_L_law_915 : decode b_L_law 915 = .ok (.ldc2_w 31, 3) := by decide +kernel
theorem d_L_law_918 : decode b_L_law 918 = .ok (.land, 1) := by decide +kernel
theorem d_L_law_919 : decode b_L_law 919 = .ok (.lor, 1) := by decide +kernel
theorem d_L_law_920 : decode b_L_law 920 = .ok (.aload_n 0, 1) := by decide +kernel
theorem d_L_law_921 : decode b_L_law 921 = .ok (.iload_n 3, 1) := by decide +kernel
theorem d_L_law_922 : decode b_L_law 922 = .ok (.iconst 5, 1) := by decide +kernel
theorem d_L_law_923 : decode b_L_law 923 = .ok (.iadd, 1) := by decide +kernel
theorem d_L_law_924 : decode b_L_law 924 = .ok (.iaload, 1) := by decide +kernel
theorem d_L_law_925 : decode b_L_law 925 = .ok (.i2l, 1) := by decide +kernel
theorem d_L_law_926 : decode b_L_law 926 = .ok (.bipush 32, 2) := by decide +kernel
theorem d_L_law_928 : decode b_L_law 928 = .ok (.lshl, 1) := by decide +kernel
theorem d_L_law_929 : decode b_L_law 929 = .ok (.aload_n 0, 1) := by decide +kernel
theorem d_L_law_930 : decode b_L_law 930 = .ok (.iload_n 3, 1) := by decide +kernel
theorem d_L_law_931 : decode b_L_law 931 = .ok (.bipush 6, 2) := by decide +kernel
theorem d_L_law_933 : decode b_L_law 933 = .ok (.iadd, 1) := by decide +kernel
theorem d_L_law_934 : decode b_L_law 934 = .ok (.iaload, 1) := by decide +kernel
theorem d_L_law_935 : decode b_L_law 935 = .ok (.i2l, 1) := by decide +kernel
theorem d_L_law_936 : decode b_L_law 936 = .ok (.ldc2_w 31, 3) := by decide +kernel
theorem d_L_law_939 : decode b_L_law 939 = .ok (.land, 1) := by decide +kernel
theorem d_L_law_940 : decode b_L_law 940 = .ok (.lor, 1) := by decide +kernel
theorem d_L_law_941 : decode b_L_law 941 = .ok (.invokevirtual 101, 3) := by decide +kernel
theorem d_L_law_944 : decode b_L_law 944 = .ok (.if_icmp .eq 52, 3) := by decide +kernel
theorem d_L_law_947 : decode b_L_law 947 = .ok (.iconst 0, 1) := by decide +kernel
theorem d_L_law_948 : decode b_L_law 948 = .ok (.ireturn, 1) := by decide +kernel
theorem d_L_law_949 : decode b_L_law 949 = .ok (.aload_n 1, 1) := by decide +kernel
theorem d_L_law_950 : decode b_L_law 950 = .ok (.aload_n 0, 1) := by decide +kernel
theorem d_L_law_951 : decode b_L_law 951 = .ok (.iload_n 3, 1) := by decide +kernel
theorem d_L_law_952 : decode b_L_law 952 = .ok (.iconst 1, 1) := by decide +kernel
theorem d_L_law_953 : decode b_L_law 953 = .ok (.iadd, 1) := by decide +kernel
theorem d_L_law_954 : decode b_L_law 954 = .ok (.iaload, 1) := by decide +kernel
theorem d_L_law_955 : decode b_L_law 955 = .ok (.invokevirtual 102, 3) := by decide +kernel
theorem d_L_law_958 : decode b_L_law 958 = .ok (.aload_n 2, 1) := by decide +kernel
theorem d_L_law_959 : decode b_L_law 959 = .ok (.aload_n 0, 1) := by decide +kernel
theorem d_L_law_960 : decode b_L_law 960 = .ok (.iload_n 3, 1) := by decide +kernel
theorem d_L_law_961 : decode b_L_law 961 = .ok (.iconst 1, 1) := by decide +kernel
theorem d_L_law_962 : decode b_L_law 962 = .ok (.iadd, 1) := by decide +kernel
theorem d_L_law_963 : decode b_L_law 963 = .ok (.iaload, 1) := by decide +kernel
theorem d_L_law_964 : decode b_L_law 964 = .ok (.invokevirtual 105, 3) := by decide +kernel
theorem d_L_law_967 : decode b_L_law 967 = .ok (.lcmp, 1) := by decide +kernel
theorem d_L_law_968 : decode b_L_law 968 = .ok (.ifCond .eq 28, 3) := by decide +kernel
theorem d_L_law_971 : decode b_L_law 971 = .ok (.iconst 0, 1) := by decide +kernel
theorem d_L_law_972 : decode b_L_law 972 = .ok (.ireturn, 1) := by decide +kernel
theorem d_L_law_973 : decode b_L_law 973 = .ok (.aload_n 1, 1) := by decide +kernel
theorem d_L_law_974 : decode b_L_law 974 = .ok (.aload_n 0, 1) := by decide +kernel
theorem d_L_law_975 : decode b_L_law 975 = .ok (.iload_n 3, 1) := by decide +kernel
theorem d_L_law_976 : decode b_L_law 976 = .ok (.iconst 1, 1) := by decide +kernel
theorem d_L_law_977 : decode b_L_law 977 = .ok (.iadd, 1) := by decide +kernel
theorem d_L_law_978 : decode b_L_law 978 = .ok (.iaload, 1) := by decide +kernel
theorem d_L_law_979 : decode b_L_law 979 = .ok (.invokevirtual 106, 3) := by decide +kernel
theorem d_L_law_982 : decode b_L_law 982 = .ok (.aload_n 2, 1) := by decide +kernel
theorem d_L_law_983 : decode b_L_law 983 = .ok (.aload_n 0, 1) := by decide +kernel
theorem d_L_law_984 : decode b_L_law 984 = .ok (.iload_n 3, 1) := by decide +kernel
theorem d_L_law_985 : decode b_L_law 985 = .ok (.iconst 1, 1) := by decide +kernel
theorem d_L_law_986 : decode b_L_law 986 = .ok (.iadd, 1) := by decide +kernel
theorem d_L_law_987 : decode b_L_law 987 = .ok (.iaload, 1) := by decide +kernel
theorem d_L_law_988 : decode b_L_law 988 = .ok (.invokevirtual 110, 3) := by decide +kernel
theorem d_L_law_991 : decode b_L_law 991 = .ok (.if_icmp .eq 5, 3) := by decide +kernel
theorem d_L_law_994 : decode b_L_law 994 = .ok (.iconst 0, 1) := by decide +kernel
theorem d_L_law_995 : decode b_L_law 995 = .ok (.ireturn, 1) := by decide +kernel
theorem d_L_law_996 : decode b_L_law 996 = .ok (.iinc 3 9, 3) := by decide +kernel
theorem d_L_law_999 : decode b_L_law 999 = .ok (.goto (-951), 3) := by decide +kernel
theorem d_L_law_1002 : decode b_L_law 1002 = .ok (.iconst 1, 1) := by decide +kernel
theorem d_L_law_1003 : decode b_L_law 1003 = .ok (.ireturn, 1) := by decide +kernel

