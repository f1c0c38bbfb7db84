theorem dL_law_902 {nm : String} : pm_dec (mL_law nm) 902 (.iaload, 1) 903 := ⟨(by decide +kernel : decode code 902 = .ok (.iaload, 1)), rfl⟩
theorem dL_law_903 {nm : String} : pm_dec (mL_law nm) 903 (.aload_n 0, 1) 904 := ⟨(by decide +kernel : decode code 903 = .ok (.aload_n 0, 1)), rfl⟩
theorem dL_law_904 {nm : String} : pm_dec (mL_law nm) 904 (.iload_n 3, 1) 905 := ⟨(by decide +kernel : decode code 904 = .ok (.iload_n 3, 1)), rfl⟩
theorem dL_law_905 {nm : String} : pm_dec (mL_law nm) 905 (.iconst 3, 1) 906 := ⟨(by decide +kernel : decode code 905 = .ok (.iconst 3, 1)), rfl⟩
theorem dL_law_906 {nm : String} : pm_dec (mL_law nm) 906 (.iadd, 1) 907 := ⟨(by decide +kernel : decode code 906 = .ok (.iadd, 1)), rfl⟩
theorem dL_law_907 {nm : String} : pm_dec (mL_law nm) 907 (.iaload, 1) 908 := ⟨(by decide +kernel : decode code 907 = .ok (.iaload, 1)), rfl⟩
theorem dL_law_908 {nm : String} : pm_dec (mL_law nm) 908 (.invokevirtual 93, 3) 911 := ⟨(by decide +kernel : decode code 908 = .ok (.invokevirtual 93, 3)), rfl⟩
theorem dL_law_911 {nm : String} : pm_dec (mL_law nm) 911 (.pop, 1) 912 := ⟨(by decide +kernel : decode code 911 = .ok (.pop, 1)), rfl⟩
theorem dL_law_912 {nm : String} : pm_dec (mL_law nm) 912 (.aload_n 2, 1) 913 := ⟨(by decide +kernel : decode code 912 = .ok (.aload_n 2, 1)), rfl⟩
theorem dL_law_913 {nm : String} : pm_dec (mL_law nm) 913 (.aload_n 0, 1) 914 := ⟨(by decide +kernel : decode code 913 = .ok (.aload_n 0, 1)), rfl⟩
theorem dL_law_914 {nm : String} : pm_dec (mL_law nm) 914 (.iload_n 3, 1) 915 := ⟨(by decide +kernel : decode code 914 = .ok (.iload_n 3, 1)), rfl⟩
theorem dL_law_915 {nm : String} : pm_dec (mL_law nm) 915 (.iconst 1, 1) 916 := ⟨(by decide +kernel : decode code 915 = .ok (.iconst 1, 1)), rfl⟩
theorem dL_law_916 {nm : String} : pm_dec (mL_law nm) 916 (.iadd, 1) 917 := ⟨(by decide +kernel : decode code 916 = .ok (.iadd, 1)), rfl⟩
theorem dL_law_917 {nm : String} : pm_dec (mL_law nm) 917 (.iaload, 1) 918 := ⟨(by decide +kernel : decode code 917 = .ok (.iaload, 1)), rfl⟩
theorem dL_law_918 {nm : String} : pm_dec (mL_law nm) 918 (.aload_n 0, 1) 919 := ⟨(by decide +kernel : decode code 918 = .ok (.aload_n 0, 1)), rfl⟩
theorem dL_law_919 {nm : String} : pm_dec (mL_law nm) 919 (.iload_n 3, 1) 920 := ⟨(by decide +kernel : decode code 919 = .ok (.iload_n 3, 1)), rfl⟩
theorem dL_law_920 {nm : String} : pm_dec (mL_law nm) 920 (.iconst 2, 1) 921 := ⟨(by decide +kernel : decode code 920 = .ok (.iconst 2, 1)), rfl⟩
theorem dL_law_921 {nm : String} : pm_dec (mL_law nm) 921 (.iadd, 1) 922 := ⟨(by decide +kernel : decode code 921 = .ok (.iadd, 1)), rfl⟩
theorem dL_law_922 {nm : String} : pm_dec (mL_law nm) 922 (.iaload, 1) 923 := ⟨(by decide +kernel : decode code 922 = .ok (.iaload, 1)), rfl⟩
theorem dL_law_923 {nm : String} : pm_dec (mL_law nm) 923 (.aload_n 0, 1) 924 := ⟨(by decide +kernel : decode code 923 = .ok (.aload_n 0, 1)), rfl⟩
theorem dL_law_924 {nm : String} : pm_dec (mL_law nm) 924 (.iload_n 3, 1) 925 := ⟨(by decide +kernel : decode code 924 = .ok (.iload_n 3, 1)), rfl⟩
theorem dL_law_925 {nm : String} : pm_dec (mL_law nm) 925 (.iconst 3, 1) 926 := ⟨(by decide +kernel : decode code 925 = .ok (.iconst 3, 1)), rfl⟩
theorem dL_law_926 {nm : String} : pm_dec (mL_law nm) 926 (.iadd, 1) 927 := ⟨(by decide +kernel : decode code 926 = .ok (.iadd, 1)), rfl⟩
theorem dL_law_927 {nm : String} : pm_dec (mL_law nm) 927 (.iaload, 1) 928 := ⟨(by decide +kernel : decode code 927 = .ok (.iaload, 1)), rfl⟩
theorem dL_law_928 {nm : String} : pm_dec (mL_law nm) 928 (.invokevirtual 96, 3) 931 := ⟨(by decide +kernel : decode code 928 = .ok (.invokevirtual 96, 3)), rfl⟩
theorem dL_law_931 {nm : String} : pm_dec (mL_law nm) 931 (.pop, 1) 932 := ⟨(by decide +kernel : decode code 931 = .ok (.pop, 1)), rfl⟩
theorem dL_law_932 {nm : String} : pm_dec (mL_law nm) 932 (.goto 1173, 3) 935 := ⟨(by decide +kernel : decode code 932 = .ok (.goto 1173, 3)), rfl⟩
theorem dL_law_935 {nm : String} : pm_dec (mL_law nm) 935 (.aload_n 1, 1) 936 := ⟨(by decide +kernel : decode code 935 = .ok (.aload_n 1, 1)), rfl⟩
theorem dL_law_936 {nm : String} : pm_dec (mL_law nm) 936 (.aload_n 0, 1) 937 := ⟨(by decide +kernel : decode code 936 = .ok (.aload_n 0, 1)), rfl⟩
theorem dL_law_937 {nm : String} : pm_dec (mL_law nm) 937 (.iload_n 3, 1) 938 := ⟨(by decide +kernel : decode code 937 = .ok (.iload_n 3, 1)), rfl⟩
theorem dL_law_938 {nm : String} : pm_dec (mL_law nm) 938 (.iconst 1, 1) 939 := ⟨(by decide +kernel : decode code 938 = .ok (.iconst 1, 1)), rfl⟩
theorem dL_law_939 {nm : String} : pm_dec (mL_law nm) 939 (.iadd, 1) 940 := ⟨(by decide +kernel : decode code 939 = .ok (.iadd, 1)), rfl⟩
theorem dL_law_940 {nm : String} : pm_dec (mL_law nm) 940 (.iaload, 1) 941 := ⟨(by decide +kernel : decode code 940 = .ok (.iaload, 1)), rfl⟩
theorem dL_law_941 {nm : String} : pm_dec (mL_law nm) 941 (.aload_n 0, 1) 942 := ⟨(by decide +kernel : decode code 941 = .ok (.aload_n 0, 1)), rfl⟩
theorem dL_law_942 {nm : String} : pm_dec (mL_law nm) 942 (.iload_n 3, 1) 943 := ⟨(by decide +kernel : decode code 942 = .ok (.iload_n 3, 1)), rfl⟩
theorem dL_law_943 {nm : String} : pm_dec (mL_law nm) 943 (.iconst 2, 1) 944 := ⟨(by decide +kernel : decode code 943 = .ok (.iconst 2, 1)), rfl⟩
theorem dL_law_944 {nm : String} : pm_dec (mL_law nm) 944 (.iadd, 1) 945 := ⟨(by decide +kernel : decode code 944 = .ok (.iadd, 1)), rfl⟩
theorem dL_law_945 {nm : String} : pm_dec (mL_law nm) 945 (.iaload, 1) 946 := ⟨(by decide +kernel : decode code 945 = .ok (.iaload, 1)), rfl⟩
theorem dL_law_946 {nm : String} : pm_dec (mL_law nm) 946 (.aload_n 0, 1) 947 := ⟨(by decide +kernel : decode code 946 = .ok (.aload_n 0, 1)), rfl⟩
theorem dL_law_947 {nm : String} : pm_dec (mL_law nm) 947 (.iload_n 3, 1) 948 := ⟨(by decide +kernel : decode code 947 = .ok (.iload_n 3, 1)), rfl⟩
theorem dL_law_948 {nm : String} : pm_dec (mL_law nm) 948 (.iconst 3, 1) 949 := ⟨(by decide +kernel : decode code 948 = .ok (.iconst 3, 1)), rfl⟩
theorem dL_law_949 {nm : String} : pm_dec (mL_law nm) 949 (.iadd, 1) 950 := ⟨(by decide +kernel : decode code 949 = .ok (.iadd, 1)), rfl⟩
theorem dL_law_950 {nm : String} : pm_dec (mL_law nm) 950 (.iaload, 1) 951 := ⟨(by decide +kernel : decode code 950 = .ok (.iaload, 1)), rfl⟩
theorem dL_law_951 {nm : String} : pm_dec (mL_law nm) 951 (.invokevirtual 97, 3) 954 := ⟨(by decide +kernel : decode code 951 = .ok (.invokevirtual 97, 3)), rfl⟩
theorem dL_law_954 {nm : String} : pm_dec (mL_law nm) 954 (.pop, 1) 955 := ⟨(by decide +kernel : decode code 954 = .ok (.pop, 1)), rfl⟩
theorem dL_law_955 {nm : String} : pm_dec (mL_law nm) 955 (.aload_n 2, 1) 956 := ⟨(by decide +kernel : decode code 955 = .ok (.aload_n 2, 1)), rfl⟩
theorem dL_law_956 {nm : String} : pm_dec (mL_law nm) 956 (.aload_n 0, 1) 957 := ⟨(by decide +kernel : decode code 956 = .ok (.aload_n 0, 1)), rfl⟩
theorem dL_law_957 {nm : String} : pm_dec (mL_law nm) 957 (.iload_n 3, 1) 958 := ⟨(by decide +kernel : decode code 957 = .ok (.iload_n 3, 1)), rfl⟩
theorem dL_law_958 {nm : String} : pm_dec (mL_law nm) 958 (.iconst 1, 1) 959 := ⟨(by decide +kernel : decode code 958 = .ok (.iconst 1, 1)), rfl⟩
theorem dL_law_959 {nm : String} : pm_dec (mL_law nm) 959 (.iadd, 1) 960 := ⟨(by decide +kernel : decode code 959 = .ok (.iadd, 1)), rfl⟩
theorem dL_law_960 {nm : String} : pm_dec (mL_law nm) 960 (.iaload, 1) 961 := ⟨(by decide +kernel : decode code 960 = .ok (.iaload, 1)), rfl⟩
theorem dL_law_961 {nm : String} : pm_dec (mL_law nm) 961 (.aload_n 0, 1) 962 := ⟨(by decide +kernel : decode code 961 = .ok (.aload_n 0, 1)), rfl⟩
theorem dL_law_962 {nm : String} : pm_dec (mL_law nm) 962 (.iload_n 3, 1) 963 := ⟨(by decide +kernel : decode code 962 = .ok (.iload_n 3, 1)), rfl⟩
theorem dL_law_963 {nm : String} : pm_dec (mL_law nm) 963 (.iconst 2, 1) 964 := ⟨(by decide +kernel : decode code 963 = .ok (.iconst 2, 1)), rfl⟩
theorem dL_law_964 {nm : String} : pm_dec (mL_law nm) 964 (.iadd, 1) 965 := ⟨(by decide +kernel : decode code 964 = .ok (.iadd, 1)), rfl⟩
theorem dL_law_965 {nm : String} : pm_dec (mL_law nm) 965 (.iaload, 1) 966 := ⟨(by decide +kernel : decode code 965 = .ok (.iaload, 1)), rfl⟩
theorem dL_law_966 {nm : String} : pm_dec (mL_law nm) 966 (.aload_n 0, 1) 967 := ⟨(by decide +kernel : decode code 966 = .ok (.aload_n 0, 1)), rfl⟩
theorem dL_law_967 {nm : String} : pm_dec (mL_law nm) 967 (.iload_n 3, 1) 968 := ⟨(by decide +kernel : decode code 967 = .ok (.iload_n 3, 1)), rfl⟩
theorem dL_law_968 {nm : String} : pm_dec (mL_law nm) 968 (.iconst 3, 1) 969 := ⟨(by decide +kernel : decode code 968 = .ok (.iconst 3, 1)), rfl⟩
theorem dL_law_969 {nm : String} : pm_dec (mL_law nm) 969 (.iadd, 1) 970 := ⟨(by decide +kernel : decode code 969 = .ok (.iadd, 1)), rfl⟩
theorem dL_law_970 {nm : String} : pm_dec (mL_law nm) 970 (.iaload, 1) 971 := ⟨(by decide +kernel : decode code 970 = .ok (.iaload, 1)), rfl⟩
theorem dL_law_971 {nm : String} : pm_dec (mL_law nm) 971 (.invokevirtual 100, 3) 974 := ⟨(by decide +kernel : decode code 971 = .ok (.invokevirtual 100, 3)), rfl⟩
theorem dL_law_974 {nm : String} : pm_dec (mL_law nm) 974 (.pop, 1) 975 := ⟨(by decide +kernel : decode code 974 = .ok (.pop, 1)), rfl⟩
theorem dL_law_975 {nm : String} : pm_dec (mL_law nm) 975 (.goto 1130, 3) 978 := ⟨(by decide +kernel : decode code 975 = .ok (.goto 1130, 3)), rfl⟩
theorem dL_law_978 {nm : String} : pm_dec (mL_law nm) 978 (.aload_n 1, 1) 979 := ⟨(by decide +kernel : decode code 978 = .ok (.aload_n 1, 1)), rfl⟩
theorem dL_law_979 {nm : String} : pm_dec (mL_law nm) 979 (.aload_n 0, 1) 980 := ⟨(by decide +kernel : decode code 979 = .ok (.aload_n 0, 1)), rfl⟩
theorem dL_law_980 {nm : String} : pm_dec (mL_law nm) 980 (.iload_n 3, 1) 981 := ⟨(by decide +kernel : decode code 980 = .ok (.iload_n 3, 1)), rfl⟩
theorem dL_law_981 {nm : String} : pm_dec (mL_law nm) 981 (.iconst 1, 1) 982 := ⟨(by decide +kernel : decode code 981 = .ok (.iconst 1, 1)), rfl⟩
theorem dL_law_982 {nm : String} : pm_dec (mL_law nm) 982 (.iadd, 1) 983 := ⟨(by decide +kernel : decode code 982 = .ok (.iadd, 1)), rfl⟩
theorem dL_law_983 {nm : String} : pm_dec (mL_law nm) 983 (.iaload, 1) 984 := ⟨(by decide +kernel : decode code 983 = .ok (.iaload, 1)), rfl⟩
theorem dL_law_984 {nm : String} : pm_dec (mL_law nm) 984 (.aload_n 0, 1) 985 := ⟨(by decide +kernel : decode code 984 = .ok (.aload_n 0, 1)), rfl⟩
theorem dL_law_985 {nm : String} : pm_dec (mL_law nm) 985 (.iload_n 3, 1) 986 := ⟨(by decide +kernel : decode code 985 = .ok (.iload_n 3, 1)), rfl⟩
theorem dL_law_986 {nm : String} : pm_dec (mL_law nm) 986 (.iconst 2, 1) 987 := ⟨(by decide +kernel : decode code 986 = .ok (.iconst 2, 1)), rfl⟩
theorem dL_law_987 {nm : String} : pm_dec (mL_law nm) 987 (.iadd, 1) 988 := ⟨(by decide +kernel : decode code 987 = .ok (.iadd, 1)), rfl⟩
theorem dL_law_988 {nm : String} : pm_dec (mL_law nm) 988 (.iaload, 1) 989 := ⟨(by decide +kernel : decode code 988 = .ok (.iaload, 1)), rfl⟩
theorem dL_law_989 {nm : String} : pm_dec (mL_law nm) 989 (.aload_n 0, 1) 990 := ⟨(by decide +kernel : decode code 989 = .ok (.aload_n 0, 1)), rfl⟩
theorem dL_law_990 {nm : String} : pm_dec (mL_law nm) 990 (.iload_n 3, 1) 991 := ⟨(by decide +kernel : decode code 990 = .ok (.iload_n 3, 1)), rfl⟩
theorem dL_law_991 {nm : String} : pm_dec (mL_law nm) 991 (.iconst 3, 1) 992 := ⟨(by decide +kernel : decode code 991 = .ok (.iconst 3, 1)), rfl⟩
theorem dL_law_992 {nm : String} : pm_dec (mL_law nm) 992 (.iadd, 1) 993 := ⟨(by decide +kernel : decode code 992 = .ok (.iadd, 1)), rfl⟩
theorem dL_law_993 {nm : String} : pm_dec (mL_law nm) 993 (.iaload, 1) 994 := ⟨(by decide +kernel : decode code 993 = .ok (.iaload, 1)), rfl⟩
theorem dL_law_994 {nm : String} : pm_dec (mL_law nm) 994 (.invokevirtual 101, 3) 997 := ⟨(by decide +kernel : decode code 994 = .ok (.invokevirtual 101, 3)), rfl⟩
theorem dL_law_997 {nm : String} : pm_dec (mL_law nm) 997 (.pop, 1) 998 := ⟨(by decide +kernel : decode code 997 = .ok (.pop, 1)), rfl⟩
theorem dL_law_998 {nm : String} : pm_dec (mL_law nm) 998 (.aload_n 2, 1) 999 := ⟨(by decide +kernel : decode code 998 = .ok (.aload_n 2, 1)), rfl⟩
theorem dL_law_999 {nm : String} : pm_dec (mL_law nm) 999 (.aload_n 0, 1) 1000 := ⟨(by decide +kernel : decode code 999 = .ok (.aload_n 0, 1)), rfl⟩
theorem dL_law_1000 {nm : String} : pm_dec (mL_law nm) 1000 (.iload_n 3, 1) 1001 := ⟨(by decide +kernel : decode code 1000 = .ok (.iload_n 3, 1)), rfl⟩
theorem dL_law_1001 {nm : String} : pm_dec (mL_law nm) 1001 (.iconst 1, 1) 1002 := ⟨(by decide +kernel : decode code 1001 = .ok (.iconst 1, 1)), rfl⟩
theorem dL_law_1002 {nm : String} : pm_dec (mL_law nm) 1002 (.iadd, 1) 1003 := ⟨(by decide +kernel : decode code 1002 = .ok (.iadd, 1)), rfl⟩
theorem dL_law_1003 {nm : String} : pm_dec (mL_law nm) 1003 (.iaload, 1) 1004 := ⟨(by decide +kernel : decode code 1003 = .ok (.iaload, 1)), rfl⟩
theorem dL_law_1004 {nm : String} : pm_dec (mL_law nm) 1004 (.aload_n 0, 1) 1005 := ⟨(by decide +kernel : decode code 1004 = .ok (.aload_n 0, 1)), rfl⟩
theorem dL_law_1005 {nm : String} : pm_dec (mL_law nm) 1005 (.iload_n 3, 1) 1006 := ⟨(by decide +kernel : decode code 1005 = .ok (.iload_n 3, 1)), rfl⟩
theorem dL_law_1006 {nm : String} : pm_dec (mL_law nm) 1006 (.iconst 2, 1) 1007 := ⟨(by decide +kernel : decode code 1006 = .ok (.iconst 2, 1)), rfl⟩
theorem dL_law_1007 {nm : String} : pm_dec (mL_law nm) 1007 (.iadd, 1) 1008 := ⟨(by decide +kernel : decode code 1007 = .ok (.iadd, 1)), rfl⟩
theorem dL_law_1008 {nm : String} : pm_dec (mL_law nm) 1008 (.iaload, 1) 1009 := ⟨(by decide +kernel : decode code 1008 = .ok (.iaload, 1)), rfl⟩
theorem dL_law_1009 {nm : String} : pm_dec (mL_law nm) 1009 (.aload_n 0, 1) 1010 := ⟨(by decide +kernel : decode code 1009 = .ok (.aload_n 0, 1)), rfl⟩
theorem dL_law_1010 {nm : String} : pm_dec (mL_law nm) 1010 (.iload_n 3, 1) 1011 := ⟨(by decide +kernel : decode code 1010 = .ok (.iload_n 3, 1)), rfl⟩
theorem dL_law_1011 {nm : String} : pm_dec (mL_law nm) 1011 (.iconst 3, 1) 1012 := ⟨(by decide +kernel : decode code 1011 = .ok (.iconst 3, 1)), rfl⟩
theorem dL_law_1012 {nm : String} : pm_dec (mL_law nm) 1012 (.iadd, 1) 1013 := ⟨(by decide +kernel : decode code 1012 = .ok (.iadd, 1)), rfl⟩
theorem dL_law_1013 {nm : String} : pm_dec (mL_law nm) 1013 (.iaload, 1) 1014 := ⟨(by decide +kernel : decode code 1013 = .ok (.iaload, 1)), rfl⟩
theorem dL_law_1014 {nm : String} : pm_dec (mL_law nm) 1014 (.invokevirtual 104, 3) 1017 := ⟨(by decide +kernel : decode code 1014 = .ok (.invokevirtual 104, 3)), rfl⟩
theorem dL_law_1017 {nm : String} : pm_dec (mL_law nm) 1017 (.pop, 1) 1018 := ⟨(by decide +kernel : decode code 1017 = .ok (.pop, 1)), rfl⟩
theorem dL_law_1018 {nm : String} : pm_dec (mL_law nm) 1018 (.goto 1087, 3) 1021 := ⟨(by decide +kernel : decode code 1018 = .ok (.goto 1087, 3)), rfl⟩
theorem dL_law_1021 {nm : String} : pm_dec (mL_law nm) 1021 (.aload_n 1, 1) 1022 := ⟨(by decide +kernel : decode code 1021 = .ok (.aload_n 1, 1)), rfl⟩
theorem dL_law_1022 {nm : String} : pm_dec (mL_law nm) 1022 (.aload_n 0, 1) 1023 := ⟨(by decide +kernel : decode code 1022 = .ok (.aload_n 0, 1)), rfl⟩
theorem dL_law_1023 {nm : String} : pm_dec (mL_law nm) 1023 (.iload_n 3, 1) 1024 := ⟨(by decide +kernel : decode code 1023 = .ok (.iload_n 3, 1)), rfl⟩
theorem dL_law_1024 {nm : String} : pm_dec (mL_law nm) 1024 (.iconst 1, 1) 1025 := ⟨(by decide +kernel : decode code 1024 = .ok (.iconst 1, 1)), rfl⟩
theorem dL_law_1025 {nm : String} : pm_dec (mL_law nm) 1025 (.iadd, 1) 1026 := ⟨(by decide +kernel : decode code 1025 = .ok (.iadd, 1)), rfl⟩
theorem dL_law_1026 {nm : String} : pm_dec (mL_law nm) 1026 (.iaload, 1) 1027 := ⟨(by decide +kernel : decode code 1026 = .ok (.iaload, 1)), rfl⟩
theorem dL_law_1027 {nm : String} : pm_dec (mL_law nm) 1027 (.aload_n 0, 1) 1028 := ⟨(by decide +kernel : decode code 1027 = .ok (.aload_n 0, 1)), rfl⟩
theorem dL_law_1028 {nm : String} : pm_dec (mL_law nm) 1028 (.iload_n 3, 1) 1029 := ⟨(by decide +kernel : decode code 1028 = .ok (.iload_n 3, 1)), rfl⟩
theorem dL_law_1029 {nm : String} : pm_dec (mL_law nm) 1029 (.iconst 2, 1) 1030 := ⟨(by decide +kernel : decode code 1029 = .ok (.iconst 2, 1)), rfl⟩
theorem dL_law_1030 {nm : String} : pm_dec (mL_law nm) 1030 (.iadd, 1) 1031 := ⟨(by decide +kernel : decode code 1030 = .ok (.iadd, 1)), rfl⟩
theorem dL_law_1031 {nm : String} : pm_dec (mL_law nm) 1031 (.iaload, 1) 1032 := ⟨(by decide +kernel : decode code 1031 = .ok (.iaload, 1)), rfl⟩
theorem dL_law_1032 {nm : String} : pm_dec (mL_law nm) 1032 (.invokevirtual 105, 3) 1035 := ⟨(by decide +kernel : decode code 1032 = .ok (.invokevirtual 105, 3)), rfl⟩
theorem dL_law_1035 {nm : String} : pm_dec (mL_law nm) 1035 (.pop, 1) 1036 := ⟨(by decide +kernel : decode code 1035 = .ok (.pop, 1)), rfl⟩
theorem dL_law_1036 {nm : String} : pm_dec (mL_law nm) 1036 (.aload_n 2, 1) 1037 := ⟨(by decide +kernel : decode code 1036 = .ok (.aload_n 2, 1)), rfl⟩
theorem dL_law_1037 {nm : String} : pm_dec (mL_law nm) 1037 (.aload_n 0, 1) 1038 := ⟨(by decide +kernel : decode code 1037 = .ok (.aload_n 0, 1)), rfl⟩
theorem dL_law_1038 {nm : String} : pm_dec (mL_law nm) 1038 (.iload_n 3, 1) 1039 := ⟨(by decide +kernel : decode code 1038 = .ok (.iload_n 3, 1)), rfl⟩
theorem dL_law_1039 {nm : String} : pm_dec (mL_law nm) 1039 (.iconst 1, 1) 1040 := ⟨(by decide +kernel : decode code 1039 = .ok (.iconst 1, 1)), rfl⟩
theorem dL_law_1040 {nm : String} : pm_dec (mL_law nm) 1040 (.iadd, 1) 1041 := ⟨(by decide +kernel : decode code 1040 = .ok (.iadd, 1)), rfl⟩
theorem dL_law_1041 {nm : String} : pm_dec (mL_law nm) 1041 (.iaload, 1) 1042 := ⟨(by decide +kernel : decode code 1041 = .ok (.iaload, 1)), rfl⟩
theorem dL_law_1042 {nm : String} : pm_dec (mL_law nm) 1042 (.aload_n 0, 1) 1043 := ⟨(by decide +kernel : decode code 1042 = .ok (.aload_n 0, 1)), rfl⟩
theorem dL_law_1043 {nm : String} : pm_dec (mL_law nm) 1043 (.iload_n 3, 1) 1044 := ⟨(by decide +kernel : decode code 1043 = .ok (.iload_n 3, 1)), rfl⟩
theorem dL_law_1044 {nm : String} : pm_dec (mL_law nm) 1044 (.iconst 2, 1) 1045 := ⟨(by decide +kernel : decode code 1044 = .ok (.iconst 2, 1)), rfl⟩
theorem dL_law_1045 {nm : String} : pm_dec (mL_law nm) 1045 (.iadd, 1) 1046 := ⟨(by decide +kernel : decode code 1045 = .ok (.iadd, 1)), rfl⟩
theorem dL_law_1046 {nm : String} : pm_dec (mL_law nm) 1046 (.iaload, 1) 1047 := ⟨(by decide +kernel : decode code 1046 = .ok (.iaload, 1)), rfl⟩
theorem dL_law_1047 {nm : String} : pm_dec (mL_law nm) 1047 (.invokevirtual 108, 3) 1050 := ⟨(by decide +kernel : decode code 1047 = .ok (.invokevirtual 108, 3)), rfl⟩
theorem dL_law_1050 {nm : String} : pm_dec (mL_law nm) 1050 (.pop, 1) 1051 := ⟨(by decide +kernel : decode code 1050 = .ok (.pop, 1)), rfl⟩
theorem dL_law_1051 {nm : String} : pm_dec (mL_law nm) 1051 (.goto 1054, 3) 1054 := ⟨(by decide +kernel : decode code 1051 = .ok (.goto 1054, 3)), rfl⟩
theorem dL_law_1054 {nm : String} : pm_dec (mL_law nm) 1054 (.aload_n 1, 1) 1055 := ⟨(by decide +kernel : decode code 1054 = .ok (.aload_n 1, 1)), rfl⟩
theorem dL_law_1055 {nm : String} : pm_dec (mL_law nm) 1055 (.aload_n 0, 1) 1056 := ⟨(by decide +kernel : decode code 1055 = .ok (.aload_n 0, 1)), rfl⟩
