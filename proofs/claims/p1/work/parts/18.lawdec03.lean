theorem dL_law_854 {nm : String} : pm_dec (mL_law nm) 854 (.iadd, 1) 855 := ⟨(by decide +kernel : decode code 854 = .ok (.iadd, 1)), rfl⟩
theorem dL_law_855 {nm : String} : pm_dec (mL_law nm) 855 (.iaload, 1) 856 := ⟨(by decide +kernel : decode code 855 = .ok (.iaload, 1)), rfl⟩
theorem dL_law_856 {nm : String} : pm_dec (mL_law nm) 856 (.aload_n 0, 1) 857 := ⟨(by decide +kernel : decode code 856 = .ok (.aload_n 0, 1)), rfl⟩
theorem dL_law_857 {nm : String} : pm_dec (mL_law nm) 857 (.iload_n 3, 1) 858 := ⟨(by decide +kernel : decode code 857 = .ok (.iload_n 3, 1)), rfl⟩
theorem dL_law_858 {nm : String} : pm_dec (mL_law nm) 858 (.iconst 2, 1) 859 := ⟨(by decide +kernel : decode code 858 = .ok (.iconst 2, 1)), rfl⟩
theorem dL_law_859 {nm : String} : pm_dec (mL_law nm) 859 (.iadd, 1) 860 := ⟨(by decide +kernel : decode code 859 = .ok (.iadd, 1)), rfl⟩
theorem dL_law_860 {nm : String} : pm_dec (mL_law nm) 860 (.iaload, 1) 861 := ⟨(by decide +kernel : decode code 860 = .ok (.iaload, 1)), rfl⟩
theorem dL_law_861 {nm : String} : pm_dec (mL_law nm) 861 (.invokevirtual 88, 3) 864 := ⟨(by decide +kernel : decode code 861 = .ok (.invokevirtual 88, 3)), rfl⟩
theorem dL_law_864 {nm : String} : pm_dec (mL_law nm) 864 (.if_icmp .eq 1241, 3) 867 := ⟨(by decide +kernel : decode code 864 = .ok (.if_icmp .eq 1241, 3)), rfl⟩
theorem dL_law_869 {nm : String} : pm_dec (mL_law nm) 869 (.aload_n 1, 1) 870 := ⟨(by decide +kernel : decode code 869 = .ok (.aload_n 1, 1)), rfl⟩
theorem dL_law_870 {nm : String} : pm_dec (mL_law nm) 870 (.aload_n 0, 1) 871 := ⟨(by decide +kernel : decode code 870 = .ok (.aload_n 0, 1)), rfl⟩
theorem dL_law_871 {nm : String} : pm_dec (mL_law nm) 871 (.iload_n 3, 1) 872 := ⟨(by decide +kernel : decode code 871 = .ok (.iload_n 3, 1)), rfl⟩
theorem dL_law_872 {nm : String} : pm_dec (mL_law nm) 872 (.iconst 1, 1) 873 := ⟨(by decide +kernel : decode code 872 = .ok (.iconst 1, 1)), rfl⟩
theorem dL_law_873 {nm : String} : pm_dec (mL_law nm) 873 (.iadd, 1) 874 := ⟨(by decide +kernel : decode code 873 = .ok (.iadd, 1)), rfl⟩
theorem dL_law_874 {nm : String} : pm_dec (mL_law nm) 874 (.iaload, 1) 875 := ⟨(by decide +kernel : decode code 874 = .ok (.iaload, 1)), rfl⟩
theorem dL_law_875 {nm : String} : pm_dec (mL_law nm) 875 (.invokevirtual 89, 3) 878 := ⟨(by decide +kernel : decode code 875 = .ok (.invokevirtual 89, 3)), rfl⟩
theorem dL_law_878 {nm : String} : pm_dec (mL_law nm) 878 (.aload_n 2, 1) 879 := ⟨(by decide +kernel : decode code 878 = .ok (.aload_n 2, 1)), rfl⟩
theorem dL_law_879 {nm : String} : pm_dec (mL_law nm) 879 (.aload_n 0, 1) 880 := ⟨(by decide +kernel : decode code 879 = .ok (.aload_n 0, 1)), rfl⟩
theorem dL_law_880 {nm : String} : pm_dec (mL_law nm) 880 (.iload_n 3, 1) 881 := ⟨(by decide +kernel : decode code 880 = .ok (.iload_n 3, 1)), rfl⟩
theorem dL_law_881 {nm : String} : pm_dec (mL_law nm) 881 (.iconst 1, 1) 882 := ⟨(by decide +kernel : decode code 881 = .ok (.iconst 1, 1)), rfl⟩
theorem dL_law_882 {nm : String} : pm_dec (mL_law nm) 882 (.iadd, 1) 883 := ⟨(by decide +kernel : decode code 882 = .ok (.iadd, 1)), rfl⟩
theorem dL_law_883 {nm : String} : pm_dec (mL_law nm) 883 (.iaload, 1) 884 := ⟨(by decide +kernel : decode code 883 = .ok (.iaload, 1)), rfl⟩
theorem dL_law_884 {nm : String} : pm_dec (mL_law nm) 884 (.invokevirtual 92, 3) 887 := ⟨(by decide +kernel : decode code 884 = .ok (.invokevirtual 92, 3)), rfl⟩
theorem dL_law_887 {nm : String} : pm_dec (mL_law nm) 887 (.if_icmp .eq 1218, 3) 890 := ⟨(by decide +kernel : decode code 887 = .ok (.if_icmp .eq 1218, 3)), rfl⟩
theorem dL_law_892 {nm : String} : pm_dec (mL_law nm) 892 (.aload_n 1, 1) 893 := ⟨(by decide +kernel : decode code 892 = .ok (.aload_n 1, 1)), rfl⟩
theorem dL_law_893 {nm : String} : pm_dec (mL_law nm) 893 (.aload_n 0, 1) 894 := ⟨(by decide +kernel : decode code 893 = .ok (.aload_n 0, 1)), rfl⟩
theorem dL_law_894 {nm : String} : pm_dec (mL_law nm) 894 (.iload_n 3, 1) 895 := ⟨(by decide +kernel : decode code 894 = .ok (.iload_n 3, 1)), rfl⟩
theorem dL_law_895 {nm : String} : pm_dec (mL_law nm) 895 (.iconst 1, 1) 896 := ⟨(by decide +kernel : decode code 895 = .ok (.iconst 1, 1)), rfl⟩
theorem dL_law_896 {nm : String} : pm_dec (mL_law nm) 896 (.iadd, 1) 897 := ⟨(by decide +kernel : decode code 896 = .ok (.iadd, 1)), rfl⟩
theorem dL_law_897 {nm : String} : pm_dec (mL_law nm) 897 (.iaload, 1) 898 := ⟨(by decide +kernel : decode code 897 = .ok (.iaload, 1)), rfl⟩
theorem dL_law_898 {nm : String} : pm_dec (mL_law nm) 898 (.aload_n 0, 1) 899 := ⟨(by decide +kernel : decode code 898 = .ok (.aload_n 0, 1)), rfl⟩
theorem dL_law_899 {nm : String} : pm_dec (mL_law nm) 899 (.iload_n 3, 1) 900 := ⟨(by decide +kernel : decode code 899 = .ok (.iload_n 3, 1)), rfl⟩
theorem dL_law_900 {nm : String} : pm_dec (mL_law nm) 900 (.iconst 2, 1) 901 := ⟨(by decide +kernel : decode code 900 = .ok (.iconst 2, 1)), rfl⟩
theorem dL_law_901 {nm : String} : pm_dec (mL_law nm) 901 (.iadd, 1) 902 := ⟨(by decide +kernel : decode code 901 = .ok (.iadd, 1)), rfl⟩
theorem dL_law_902 {nm : String} : pm_dec (mL_law nm) 902 (.iaload, 1) 903 := ⟨(by decide +kernel : decode code 902 = .ok (.iaload, 1)), rfl⟩
theorem dL_law_903 {nm : String} : pm_dec (mL_law nm) 903 (.aload_n 0, 1) 904 := ⟨(by decide +kernel : decode code 903 = .ok (.aload_n 0, 1)), rfl⟩
theorem dL_law_904 {nm : String} : pm_dec (mL_law nm) 904 (.iload_n 3, 1) 905 := ⟨(by decide +kernel : decode code 904 = .ok (.iload_n 3, 1)), rfl⟩
theorem dL_law_905 {nm : String} : pm_dec (mL_law nm) 905 (.iconst 3, 1) 906 := ⟨(by decide +kernel : decode code 905 = .ok (.iconst 3, 1)), rfl⟩
theorem dL_law_906 {nm : String} : pm_dec (mL_law nm) 906 (.iadd, 1) 907 := ⟨(by decide +kernel : decode code 906 = .ok (.iadd, 1)), rfl⟩
theorem dL_law_907 {nm : String} : pm_dec (mL_law nm) 907 (.iaload, 1) 908 := ⟨(by decide +kernel : decode code 907 = .ok (.iaload, 1)), rfl⟩
theorem dL_law_908 {nm : String} : pm_dec (mL_law nm) 908 (.invokevirtual 93, 3) 911 := ⟨(by decide +kernel : decode code 908 = .ok (.invokevirtual 93, 3)), rfl⟩
theorem dL_law_911 {nm : String} : pm_dec (mL_law nm) 911 (.aload_n 2, 1) 912 := ⟨(by decide +kernel : decode code 911 = .ok (.aload_n 2, 1)), rfl⟩
theorem dL_law_912 {nm : String} : pm_dec (mL_law nm) 912 (.aload_n 0, 1) 913 := ⟨(by decide +kernel : decode code 912 = .ok (.aload_n 0, 1)), rfl⟩
theorem dL_law_913 {nm : String} : pm_dec (mL_law nm) 913 (.iload_n 3, 1) 914 := ⟨(by decide +kernel : decode code 913 = .ok (.iload_n 3, 1)), rfl⟩
theorem dL_law_914 {nm : String} : pm_dec (mL_law nm) 914 (.iconst 1, 1) 915 := ⟨(by decide +kernel : decode code 914 = .ok (.iconst 1, 1)), rfl⟩
theorem dL_law_915 {nm : String} : pm_dec (mL_law nm) 915 (.iadd, 1) 916 := ⟨(by decide +kernel : decode code 915 = .ok (.iadd, 1)), rfl⟩
theorem dL_law_916 {nm : String} : pm_dec (mL_law nm) 916 (.iaload, 1) 917 := ⟨(by decide +kernel : decode code 916 = .ok (.iaload, 1)), rfl⟩
theorem dL_law_917 {nm : String} : pm_dec (mL_law nm) 917 (.aload_n 0, 1) 918 := ⟨(by decide +kernel : decode code 917 = .ok (.aload_n 0, 1)), rfl⟩
theorem dL_law_918 {nm : String} : pm_dec (mL_law nm) 918 (.iload_n 3, 1) 919 := ⟨(by decide +kernel : decode code 918 = .ok (.iload_n 3, 1)), rfl⟩
theorem dL_law_919 {nm : String} : pm_dec (mL_law nm) 919 (.iconst 2, 1) 920 := ⟨(by decide +kernel : decode code 919 = .ok (.iconst 2, 1)), rfl⟩
theorem dL_law_920 {nm : String} : pm_dec (mL_law nm) 920 (.iadd, 1) 921 := ⟨(by decide +kernel : decode code 920 = .ok (.iadd, 1)), rfl⟩
theorem dL_law_921 {nm : String} : pm_dec (mL_law nm) 921 (.iaload, 1) 922 := ⟨(by decide +kernel : decode code 921 = .ok (.iaload, 1)), rfl⟩
theorem dL_law_922 {nm : String} : pm_dec (mL_law nm) 922 (.aload_n 0, 1) 923 := ⟨(by decide +kernel : decode code 922 = .ok (.aload_n 0, 1)), rfl⟩
theorem dL_law_923 {nm : String} : pm_dec (mL_law nm) 923 (.iload_n 3, 1) 924 := ⟨(by decide +kernel : decode code 923 = .ok (.iload_n 3, 1)), rfl⟩
theorem dL_law_924 {nm : String} : pm_dec (mL_law nm) 924 (.iconst 3, 1) 925 := ⟨(by decide +kernel : decode code 924 = .ok (.iconst 3, 1)), rfl⟩
theorem dL_law_925 {nm : String} : pm_dec (mL_law nm) 925 (.iadd, 1) 926 := ⟨(by decide +kernel : decode code 925 = .ok (.iadd, 1)), rfl⟩
theorem dL_law_926 {nm : String} : pm_dec (mL_law nm) 926 (.iaload, 1) 927 := ⟨(by decide +kernel : decode code 926 = .ok (.iaload, 1)), rfl⟩
theorem dL_law_927 {nm : String} : pm_dec (mL_law nm) 927 (.invokevirtual 96, 3) 930 := ⟨(by decide +kernel : decode code 927 = .ok (.invokevirtual 96, 3)), rfl⟩
theorem dL_law_930 {nm : String} : pm_dec (mL_law nm) 930 (.if_icmp .eq 1175, 3) 933 := ⟨(by decide +kernel : decode code 930 = .ok (.if_icmp .eq 1175, 3)), rfl⟩
theorem dL_law_935 {nm : String} : pm_dec (mL_law nm) 935 (.aload_n 1, 1) 936 := ⟨(by decide +kernel : decode code 935 = .ok (.aload_n 1, 1)), rfl⟩
theorem dL_law_936 {nm : String} : pm_dec (mL_law nm) 936 (.aload_n 0, 1) 937 := ⟨(by decide +kernel : decode code 936 = .ok (.aload_n 0, 1)), rfl⟩
theorem dL_law_937 {nm : String} : pm_dec (mL_law nm) 937 (.iload_n 3, 1) 938 := ⟨(by decide +kernel : decode code 937 = .ok (.iload_n 3, 1)), rfl⟩
theorem dL_law_938 {nm : String} : pm_dec (mL_law nm) 938 (.iconst 1, 1) 939 := ⟨(by decide +kernel : decode code 938 = .ok (.iconst 1, 1)), rfl⟩
theorem dL_law_939 {nm : String} : pm_dec (mL_law nm) 939 (.iadd, 1) 940 := ⟨(by decide +kernel : decode code 939 = .ok (.iadd, 1)), rfl⟩
theorem dL_law_940 {nm : String} : pm_dec (mL_law nm) 940 (.iaload, 1) 941 := ⟨(by decide +kernel : decode code 940 = .ok (.iaload, 1)), rfl⟩
theorem dL_law_941 {nm : String} : pm_dec (mL_law nm) 941 (.aload_n 0, 1) 942 := ⟨(by decide +kernel : decode code 941 = .ok (.aload_n 0, 1)), rfl⟩
theorem dL_law_942 {nm : String} : pm_dec (mL_law nm) 942 (.iload_n 3, 1) 943 := ⟨(by decide +kernel : decode code 942 = .ok (.iload_n 3, 1)), rfl⟩
theorem dL_law_943 {nm : String} : pm_dec (mL_law nm) 943 (.iconst 2, 1) 944 := ⟨(by decide +kernel : decode code 943 = .ok (.iconst 2, 1)), rfl⟩
theorem dL_law_944 {nm : String} : pm_dec (mL_law nm) 944 (.iadd, 1) 945 := ⟨(by decide +kernel : decode code 944 = .ok (.iadd, 1)), rfl⟩
theorem dL_law_945 {nm : String} : pm_dec (mL_law nm) 945 (.iaload, 1) 946 := ⟨(by decide +kernel : decode code 945 = .ok (.iaload, 1)), rfl⟩
theorem dL_law_946 {nm : String} : pm_dec (mL_law nm) 946 (.aload_n 0, 1) 947 := ⟨(by decide +kernel : decode code 946 = .ok (.aload_n 0, 1)), rfl⟩
theorem dL_law_947 {nm : String} : pm_dec (mL_law nm) 947 (.iload_n 3, 1) 948 := ⟨(by decide +kernel : decode code 947 = .ok (.iload_n 3, 1)), rfl⟩
theorem dL_law_948 {nm : String} : pm_dec (mL_law nm) 948 (.iconst 3, 1) 949 := ⟨(by decide +kernel : decode code 948 = .ok (.iconst 3, 1)), rfl⟩
theorem dL_law_949 {nm : String} : pm_dec (mL_law nm) 949 (.iadd, 1) 950 := ⟨(by decide +kernel : decode code 949 = .ok (.iadd, 1)), rfl⟩
theorem dL_law_950 {nm : String} : pm_dec (mL_law nm) 950 (.iaload, 1) 951 := ⟨(by decide +kernel : decode code 950 = .ok (.iaload, 1)), rfl⟩
theorem dL_law_951 {nm : String} : pm_dec (mL_law nm) 951 (.invokevirtual 97, 3) 954 := ⟨(by decide +kernel : decode code 951 = .ok (.invokevirtual 97, 3)), rfl⟩
theorem dL_law_954 {nm : String} : pm_dec (mL_law nm) 954 (.aload_n 2, 1) 955 := ⟨(by decide +kernel : decode code 954 = .ok (.aload_n 2, 1)), rfl⟩
theorem dL_law_955 {nm : String} : pm_dec (mL_law nm) 955 (.aload_n 0, 1) 956 := ⟨(by decide +kernel : decode code 955 = .ok (.aload_n 0, 1)), rfl⟩
theorem dL_law_956 {nm : String} : pm_dec (mL_law nm) 956 (.iload_n 3, 1) 957 := ⟨(by decide +kernel : decode code 956 = .ok (.iload_n 3, 1)), rfl⟩
theorem dL_law_957 {nm : String} : pm_dec (mL_law nm) 957 (.iconst 1, 1) 958 := ⟨(by decide +kernel : decode code 957 = .ok (.iconst 1, 1)), rfl⟩
theorem dL_law_958 {nm : String} : pm_dec (mL_law nm) 958 (.iadd, 1) 959 := ⟨(by decide +kernel : decode code 958 = .ok (.iadd, 1)), rfl⟩
theorem dL_law_959 {nm : String} : pm_dec (mL_law nm) 959 (.iaload, 1) 960 := ⟨(by decide +kernel : decode code 959 = .ok (.iaload, 1)), rfl⟩
theorem dL_law_960 {nm : String} : pm_dec (mL_law nm) 960 (.aload_n 0, 1) 961 := ⟨(by decide +kernel : decode code 960 = .ok (.aload_n 0, 1)), rfl⟩
theorem dL_law_961 {nm : String} : pm_dec (mL_law nm) 961 (.iload_n 3, 1) 962 := ⟨(by decide +kernel : decode code 961 = .ok (.iload_n 3, 1)), rfl⟩
theorem dL_law_962 {nm : String} : pm_dec (mL_law nm) 962 (.iconst 2, 1) 963 := ⟨(by decide +kernel : decode code 962 = .ok (.iconst 2, 1)), rfl⟩
theorem dL_law_963 {nm : String} : pm_dec (mL_law nm) 963 (.iadd, 1) 964 := ⟨(by decide +kernel : decode code 963 = .ok (.iadd, 1)), rfl⟩
theorem dL_law_964 {nm : String} : pm_dec (mL_law nm) 964 (.iaload, 1) 965 := ⟨(by decide +kernel : decode code 964 = .ok (.iaload, 1)), rfl⟩
theorem dL_law_965 {nm : String} : pm_dec (mL_law nm) 965 (.aload_n 0, 1) 966 := ⟨(by decide +kernel : decode code 965 = .ok (.aload_n 0, 1)), rfl⟩
theorem dL_law_966 {nm : String} : pm_dec (mL_law nm) 966 (.iload_n 3, 1) 967 := ⟨(by decide +kernel : decode code 966 = .ok (.iload_n 3, 1)), rfl⟩
theorem dL_law_967 {nm : String} : pm_dec (mL_law nm) 967 (.iconst 3, 1) 968 := ⟨(by decide +kernel : decode code 967 = .ok (.iconst 3, 1)), rfl⟩
theorem dL_law_968 {nm : String} : pm_dec (mL_law nm) 968 (.iadd, 1) 969 := ⟨(by decide +kernel : decode code 968 = .ok (.iadd, 1)), rfl⟩
theorem dL_law_969 {nm : String} : pm_dec (mL_law nm) 969 (.iaload, 1) 970 := ⟨(by decide +kernel : decode code 969 = .ok (.iaload, 1)), rfl⟩
theorem dL_law_970 {nm : String} : pm_dec (mL_law nm) 970 (.invokevirtual 100, 3) 973 := ⟨(by decide +kernel : decode code 970 = .ok (.invokevirtual 100, 3)), rfl⟩
theorem dL_law_973 {nm : String} : pm_dec (mL_law nm) 973 (.if_icmp .eq 1132, 3) 976 := ⟨(by decide +kernel : decode code 973 = .ok (.if_icmp .eq 1132, 3)), rfl⟩
theorem dL_law_978 {nm : String} : pm_dec (mL_law nm) 978 (.aload_n 1, 1) 979 := ⟨(by decide +kernel : decode code 978 = .ok (.aload_n 1, 1)), rfl⟩
theorem dL_law_979 {nm : String} : pm_dec (mL_law nm) 979 (.aload_n 0, 1) 980 := ⟨(by decide +kernel : decode code 979 = .ok (.aload_n 0, 1)), rfl⟩
theorem dL_law_980 {nm : String} : pm_dec (mL_law nm) 980 (.iload_n 3, 1) 981 := ⟨(by decide +kernel : decode code 980 = .ok (.iload_n 3, 1)), rfl⟩
theorem dL_law_981 {nm : String} : pm_dec (mL_law nm) 981 (.iconst 1, 1) 982 := ⟨(by decide +kernel : decode code 981 = .ok (.iconst 1, 1)), rfl⟩
theorem dL_law_982 {nm : String} : pm_dec (mL_law nm) 982 (.iadd, 1) 983 := ⟨(by decide +kernel : decode code 982 = .ok (.iadd, 1)), rfl⟩
theorem dL_law_983 {nm : String} : pm_dec (mL_law nm) 983 (.iaload, 1) 984 := ⟨(by decide +kernel : decode code 983 = .ok (.iaload, 1)), rfl⟩
theorem dL_law_984 {nm : String} : pm_dec (mL_law nm) 984 (.aload_n 0, 1) 985 := ⟨(by decide +kernel : decode code 984 = .ok (.aload_n 0, 1)), rfl⟩
theorem dL_law_985 {nm : String} : pm_dec (mL_law nm) 985 (.iload_n 3, 1) 986 := ⟨(by decide +kernel : decode code 985 = .ok (.iload_n 3, 1)), rfl⟩
theorem dL_law_986 {nm : String} : pm_dec (mL_law nm) 986 (.iconst 2, 1) 987 := ⟨(by decide +kernel : decode code 986 = .ok (.iconst 2, 1)), rfl⟩
theorem dL_law_987 {nm : String} : pm_dec (mL_law nm) 987 (.iadd, 1) 988 := ⟨(by decide +kernel : decode code 987 = .ok (.iadd, 1)), rfl⟩
theorem dL_law_988 {nm : String} : pm_dec (mL_law nm) 988 (.iaload, 1) 989 := ⟨(by decide +kernel : decode code 988 = .ok (.iaload, 1)), rfl⟩
theorem dL_law_989 {nm : String} : pm_dec (mL_law nm) 989 (.aload_n 0, 1) 990 := ⟨(by decide +kernel : decode code 989 = .ok (.aload_n 0, 1)), rfl⟩
theorem dL_law_990 {nm : String} : pm_dec (mL_law nm) 990 (.iload_n 3, 1) 991 := ⟨(by decide +kernel : decode code 990 = .ok (.iload_n 3, 1)), rfl⟩
theorem dL_law_991 {nm : String} : pm_dec (mL_law nm) 991 (.iconst 3, 1) 992 := ⟨(by decide +kernel : decode code 991 = .ok (.iconst 3, 1)), rfl⟩
theorem dL_law_992 {nm : String} : pm_dec (mL_law nm) 992 (.iadd, 1) 993 := ⟨(by decide +kernel : decode code 992 = .ok (.iadd, 1)), rfl⟩
theorem dL_law_993 {nm : String} : pm_dec (mL_law nm) 993 (.iaload, 1) 994 := ⟨(by decide +kernel : decode code 993 = .ok (.iaload, 1)), rfl⟩
theorem dL_law_994 {nm : String} : pm_dec (mL_law nm) 994 (.invokevirtual 101, 3) 997 := ⟨(by decide +kernel : decode code 994 = .ok (.invokevirtual 101, 3)), rfl⟩
theorem dL_law_997 {nm : String} : pm_dec (mL_law nm) 997 (.aload_n 2, 1) 998 := ⟨(by decide +kernel : decode code 997 = .ok (.aload_n 2, 1)), rfl⟩
theorem dL_law_998 {nm : String} : pm_dec (mL_law nm) 998 (.aload_n 0, 1) 999 := ⟨(by decide +kernel : decode code 998 = .ok (.aload_n 0, 1)), rfl⟩
theorem dL_law_999 {nm : String} : pm_dec (mL_law nm) 999 (.iload_n 3, 1) 1000 := ⟨(by decide +kernel : decode code 999 = .ok (.iload_n 3, 1)), rfl⟩
theorem dL_law_1000 {nm : String} : pm_dec (mL_law nm) 1000 (.iconst 1, 1) 1001 := ⟨(by decide +kernel : decode code 1000 = .ok (.iconst 1, 1)), rfl⟩
theorem dL_law_1001 {nm : String} : pm_dec (mL_law nm) 1001 (.iadd, 1) 1002 := ⟨(by decide +kernel : decode code 1001 = .ok (.iadd, 1)), rfl⟩
theorem dL_law_1002 {nm : String} : pm_dec (mL_law nm) 1002 (.iaload, 1) 1003 := ⟨(by decide +kernel : decode code 1002 = .ok (.iaload, 1)), rfl⟩
theorem dL_law_1003 {nm : String} : pm_dec (mL_law nm) 1003 (.aload_n 0, 1) 1004 := ⟨(by decide +kernel : decode code 1003 = .ok (.aload_n 0, 1)), rfl⟩
theorem dL_law_1004 {nm : String} : pm_dec (mL_law nm) 1004 (.iload_n 3, 1) 1005 := ⟨(by decide +kernel : decode code 1004 = .ok (.iload_n 3, 1)), rfl⟩
theorem dL_law_1005 {nm : String} : pm_dec (mL_law nm) 1005 (.iconst 2, 1) 1006 := ⟨(by decide +kernel : decode code 1005 = .ok (.iconst 2, 1)), rfl⟩
theorem dL_law_1006 {nm : String} : pm_dec (mL_law nm) 1006 (.iadd, 1) 1007 := ⟨(by decide +kernel : decode code 1006 = .ok (.iadd, 1)), rfl⟩
theorem dL_law_1007 {nm : String} : pm_dec (mL_law nm) 1007 (.iaload, 1) 1008 := ⟨(by decide +kernel : decode code 1007 = .ok (.iaload, 1)), rfl⟩
theorem dL_law_1008 {nm : String} : pm_dec (mL_law nm) 1008 (.aload_n 0, 1) 1009 := ⟨(by decide +kernel : decode code 1008 = .ok (.aload_n 0, 1)), rfl⟩
theorem dL_law_1009 {nm : String} : pm_dec (mL_law nm) 1009 (.iload_n 3, 1) 1010 := ⟨(by decide +kernel : decode code 1009 = .ok (.iload_n 3, 1)), rfl⟩
theorem dL_law_1010 {nm : String} : pm_dec (mL_law nm) 1010 (.iconst 3, 1) 1011 := ⟨(by decide +kernel : decode code 1010 = .ok (.iconst 3, 1)), rfl⟩
theorem dL_law_1011 {nm : String} : pm_dec (mL_law nm) 1011 (.iadd, 1) 1012 := ⟨(by decide +kernel : decode code 1011 = .ok (.iadd, 1)), rfl⟩
theorem dL_law_1012 {nm : String} : pm_dec (mL_law nm) 1012 (.iaload, 1) 1013 := ⟨(by decide +kernel : decode code 1012 = .ok (.iaload, 1)), rfl⟩
theorem dL_law_1013 {nm : String} : pm_dec (mL_law nm) 1013 (.invokevirtual 104, 3) 1016 := ⟨(by decide +kernel : decode code 1013 = .ok (.invokevirtual 104, 3)), rfl⟩
theorem dL_law_1016 {nm : String} : pm_dec (mL_law nm) 1016 (.if_icmp .eq 1089, 3) 1019 := ⟨(by decide +kernel : decode code 1016 = .ok (.if_icmp .eq 1089, 3)), rfl⟩
theorem dL_law_1021 {nm : String} : pm_dec (mL_law nm) 1021 (.aload_n 1, 1) 1022 := ⟨(by decide +kernel : decode code 1021 = .ok (.aload_n 1, 1)), rfl⟩
theorem dL_law_1022 {nm : String} : pm_dec (mL_law nm) 1022 (.aload_n 0, 1) 1023 := ⟨(by decide +kernel : decode code 1022 = .ok (.aload_n 0, 1)), rfl⟩
theorem dL_law_1023 {nm : String} : pm_dec (mL_law nm) 1023 (.iload_n 3, 1) 1024 := ⟨(by decide +kernel : decode code 1023 = .ok (.iload_n 3, 1)), rfl⟩
theorem dL_law_1024 {nm : String} : pm_dec (mL_law nm) 1024 (.iconst 1, 1) 1025 := ⟨(by decide +kernel : decode code 1024 = .ok (.iconst 1, 1)), rfl⟩
theorem dL_law_1025 {nm : String} : pm_dec (mL_law nm) 1025 (.iadd, 1) 1026 := ⟨(by decide +kernel : decode code 1025 = .ok (.iadd, 1)), rfl⟩
theorem dL_law_1026 {nm : String} : pm_dec (mL_law nm) 1026 (.iaload, 1) 1027 := ⟨(by decide +kernel : decode code 1026 = .ok (.iaload, 1)), rfl⟩
theorem dL_law_1027 {nm : String} : pm_dec (mL_law nm) 1027 (.aload_n 0, 1) 1028 := ⟨(by decide +kernel : decode code 1027 = .ok (.aload_n 0, 1)), rfl⟩
theorem dL_law_1028 {nm : String} : pm_dec (mL_law nm) 1028 (.iload_n 3, 1) 1029 := ⟨(by decide +kernel : decode code 1028 = .ok (.iload_n 3, 1)), rfl⟩
theorem dL_law_1029 {nm : String} : pm_dec (mL_law nm) 1029 (.iconst 2, 1) 1030 := ⟨(by decide +kernel : decode code 1029 = .ok (.iconst 2, 1)), rfl⟩
theorem dL_law_1030 {nm : String} : pm_dec (mL_law nm) 1030 (.iadd, 1) 1031 := ⟨(by decide +kernel : decode code 1030 = .ok (.iadd, 1)), rfl⟩
theorem dL_law_1031 {nm : String} : pm_dec (mL_law nm) 1031 (.iaload, 1) 1032 := ⟨(by decide +kernel : decode code 1031 = .ok (.iaload, 1)), rfl⟩
theorem dL_law_1032 {nm : String} : pm_dec (mL_law nm) 1032 (.invokevirtual 105, 3) 1035 := ⟨(by decide +kernel : decode code 1032 = .ok (.invokevirtual 105, 3)), rfl⟩
theorem dL_law_1035 {nm : String} : pm_dec (mL_law nm) 1035 (.aload_n 2, 1) 1036 := ⟨(by decide +kernel : decode code 1035 = .ok (.aload_n 2, 1)), rfl⟩
theorem dL_law_1036 {nm : String} : pm_dec (mL_law nm) 1036 (.aload_n 0, 1) 1037 := ⟨(by decide +kernel : decode code 1036 = .ok (.aload_n 0, 1)), rfl⟩
theorem dL_law_1037 {nm : String} : pm_dec (mL_law nm) 1037 (.iload_n 3, 1) 1038 := ⟨(by decide +kernel : decode code 1037 = .ok (.iload_n 3, 1)), rfl⟩
theorem dL_law_1038 {nm : String} : pm_dec (mL_law nm) 1038 (.iconst 1, 1) 1039 := ⟨(by decide +kernel : decode code 1038 = .ok (.iconst 1, 1)), rfl⟩
theorem dL_law_1039 {nm : String} : pm_dec (mL_law nm) 1039 (.iadd, 1) 1040 := ⟨(by decide +kernel : decode code 1039 = .ok (.iadd, 1)), rfl⟩
theorem dL_law_1040 {nm : String} : pm_dec (mL_law nm) 1040 (.iaload, 1) 1041 := ⟨(by decide +kernel : decode code 1040 = .ok (.iaload, 1)), rfl⟩
theorem dL_law_1041 {nm : String} : pm_dec (mL_law nm) 1041 (.aload_n 0, 1) 1042 := ⟨(by decide +kernel : decode code 1041 = .ok (.aload_n 0, 1)), rfl⟩
theorem dL_law_1042 {nm : String} : pm_dec (mL_law nm) 1042 (.iload_n 3, 1) 1043 := ⟨(by decide +kernel : decode code 1042 = .ok (.iload_n 3, 1)), rfl⟩
theorem dL_law_1043 {nm : String} : pm_dec (mL_law nm) 1043 (.iconst 2, 1) 1044 := ⟨(by decide +kernel : decode code 1043 = .ok (.iconst 2, 1)), rfl⟩
