theorem dX7_init_856 : decode cX7_init 856 = .ok (.dup, 1) := by decide +kernel
theorem dX7_init_857 : decode cX7_init 857 = .ok (.bipush 63, 2) := by decide +kernel
theorem dX7_init_859 : decode cX7_init 859 = .ok (.sipush (-208), 3) := by decide +kernel
theorem dX7_init_862 : decode cX7_init 862 = .ok (.iastore, 1) := by decide +kernel
theorem dX7_init_863 : decode cX7_init 863 = .ok (.dup, 1) := by decide +kernel
theorem dX7_init_864 : decode cX7_init 864 = .ok (.bipush 64, 2) := by decide +kernel
theorem dX7_init_866 : decode cX7_init 866 = .ok (.sipush 213, 3) := by decide +kernel
theorem dX7_init_869 : decode cX7_init 869 = .ok (.iastore, 1) := by decide +kernel
theorem dX7_init_870 : decode cX7_init 870 = .ok (.dup, 1) := by decide +kernel
theorem dX7_init_871 : decode cX7_init 871 = .ok (.bipush 65, 2) := by decide +kernel
theorem dX7_init_873 : decode cX7_init 873 = .ok (.sipush 218, 3) := by decide +kernel
theorem dX7_init_876 : decode cX7_init 876 = .ok (.iastore, 1) := by decide +kernel
theorem dX7_init_877 : decode cX7_init 877 = .ok (.dup, 1) := by decide +kernel
theorem dX7_init_878 : decode cX7_init 878 = .ok (.bipush 66, 2) := by decide +kernel
theorem dX7_init_880 : decode cX7_init 880 = .ok (.sipush 222, 3) := by decide +kernel
theorem dX7_init_883 : decode cX7_init 883 = .ok (.iastore, 1) := by decide +kernel
theorem dX7_init_884 : decode cX7_init 884 = .ok (.dup, 1) := by decide +kernel
theorem dX7_init_885 : decode cX7_init 885 = .ok (.bipush 67, 2) := by decide +kernel
theorem dX7_init_887 : decode cX7_init 887 = .ok (.sipush 225, 3) := by decide +kernel
theorem dX7_init_890 : decode cX7_init 890 = .ok (.iastore, 1) := by decide +kernel
theorem dX7_init_891 : decode cX7_init 891 = .ok (.dup, 1) := by decide +kernel
theorem dX7_init_892 : decode cX7_init 892 = .ok (.bipush 68, 2) := by decide +kernel
theorem dX7_init_894 : decode cX7_init 894 = .ok (.sipush 227, 3) := by decide +kernel
theorem dX7_init_897 : decode cX7_init 897 = .ok (.iastore, 1) := by decide +kernel
theorem dX7_init_898 : decode cX7_init 898 = .ok (.dup, 1) := by decide +kernel
theorem dX7_init_899 : decode cX7_init 899 = .ok (.bipush 69, 2) := by decide +kernel
theorem dX7_init_901 : decode cX7_init 901 = .ok (.sipush 228, 3) := by decide +kernel
theorem dX7_init_904 : decode cX7_init 904 = .ok (.iastore, 1) := by decide +kernel
theorem dX7_init_905 : decode cX7_init 905 = .ok (.dup, 1) := by decide +kernel
theorem dX7_init_906 : decode cX7_init 906 = .ok (.bipush 70, 2) := by decide +kernel
theorem dX7_init_908 : decode cX7_init 908 = .ok (.sipush 228, 3) := by decide +kernel
theorem dX7_init_911 : decode cX7_init 911 = .ok (.iastore, 1) := by decide +kernel
theorem dX7_init_912 : decode cX7_init 912 = .ok (.dup, 1) := by decide +kernel
theorem dX7_init_913 : decode cX7_init 913 = .ok (.bipush 71, 2) := by decide +kernel
theorem dX7_init_915 : decode cX7_init 915 = .ok (.sipush 227, 3) := by decide +kernel
theorem dX7_init_918 : decode cX7_init 918 = .ok (.iastore, 1) := by decide +kernel
theorem dX7_init_919 : decode cX7_init 919 = .ok (.dup, 1) := by decide +kernel
theorem dX7_init_920 : decode cX7_init 920 = .ok (.bipush 72, 2) := by decide +kernel
theorem dX7_init_922 : decode cX7_init 922 = .ok (.sipush 224, 3) := by decide +kernel
theorem dX7_init_925 : decode cX7_init 925 = .ok (.iastore, 1) := by decide +kernel
theorem dX7_init_926 : decode cX7_init 926 = .ok (.dup, 1) := by decide +kernel
theorem dX7_init_927 : decode cX7_init 927 = .ok (.bipush 73, 2) := by decide +kernel
theorem dX7_init_929 : decode cX7_init 929 = .ok (.sipush 221, 3) := by decide +kernel
theorem dX7_init_932 : decode cX7_init 932 = .ok (.iastore, 1) := by decide +kernel
theorem dX7_init_933 : decode cX7_init 933 = .ok (.dup, 1) := by decide +kernel
theorem dX7_init_934 : decode cX7_init 934 = .ok (.bipush 74, 2) := by decide +kernel
theorem dX7_init_936 : decode cX7_init 936 = .ok (.sipush 215, 3) := by decide +kernel
theorem dX7_init_939 : decode cX7_init 939 = .ok (.iastore, 1) := by decide +kernel
theorem dX7_init_940 : decode cX7_init 940 = .ok (.dup, 1) := by decide +kernel
theorem dX7_init_941 : decode cX7_init 941 = .ok (.bipush 75, 2) := by decide +kernel
theorem dX7_init_943 : decode cX7_init 943 = .ok (.sipush 208, 3) := by decide +kernel
theorem dX7_init_946 : decode cX7_init 946 = .ok (.iastore, 1) := by decide +kernel
theorem dX7_init_947 : decode cX7_init 947 = .ok (.dup, 1) := by decide +kernel
theorem dX7_init_948 : decode cX7_init 948 = .ok (.bipush 76, 2) := by decide +kernel
theorem dX7_init_950 : decode cX7_init 950 = .ok (.sipush 200, 3) := by decide +kernel
theorem dX7_init_953 : decode cX7_init 953 = .ok (.iastore, 1) := by decide +kernel
theorem dX7_init_954 : decode cX7_init 954 = .ok (.dup, 1) := by decide +kernel
theorem dX7_init_955 : decode cX7_init 955 = .ok (.bipush 77, 2) := by decide +kernel
theorem dX7_init_957 : decode cX7_init 957 = .ok (.sipush 189, 3) := by decide +kernel
theorem dX7_init_960 : decode cX7_init 960 = .ok (.iastore, 1) := by decide +kernel
theorem dX7_init_961 : decode cX7_init 961 = .ok (.dup, 1) := by decide +kernel
theorem dX7_init_962 : decode cX7_init 962 = .ok (.bipush 78, 2) := by decide +kernel
theorem dX7_init_964 : decode cX7_init 964 = .ok (.sipush 177, 3) := by decide +kernel
theorem dX7_init_967 : decode cX7_init 967 = .ok (.iastore, 1) := by decide +kernel
theorem dX7_init_968 : decode cX7_init 968 = .ok (.dup, 1) := by decide +kernel
theorem dX7_init_969 : decode cX7_init 969 = .ok (.bipush 79, 2) := by decide +kernel
theorem dX7_init_971 : decode cX7_init 971 = .ok (.sipush 163, 3) := by decide +kernel
theorem dX7_init_974 : decode cX7_init 974 = .ok (.iastore, 1) := by decide +kernel
theorem dX7_init_975 : decode cX7_init 975 = .ok (.dup, 1) := by decide +kernel
theorem dX7_init_976 : decode cX7_init 976 = .ok (.bipush 80, 2) := by decide +kernel
theorem dX7_init_978 : decode cX7_init 978 = .ok (.sipush 146, 3) := by decide +kernel
theorem dX7_init_981 : decode cX7_init 981 = .ok (.iastore, 1) := by decide +kernel
theorem dX7_init_982 : decode cX7_init 982 = .ok (.dup, 1) := by decide +kernel
theorem dX7_init_983 : decode cX7_init 983 = .ok (.bipush 81, 2) := by decide +kernel
theorem dX7_init_985 : decode cX7_init 985 = .ok (.bipush 127, 2) := by decide +kernel
theorem dX7_init_987 : decode cX7_init 987 = .ok (.iastore, 1) := by decide +kernel
theorem dX7_init_988 : decode cX7_init 988 = .ok (.dup, 1) := by decide +kernel
theorem dX7_init_989 : decode cX7_init 989 = .ok (.bipush 82, 2) := by decide +kernel
theorem dX7_init_991 : decode cX7_init 991 = .ok (.bipush 106, 2) := by decide +kernel
theorem dX7_init_993 : decode cX7_init 993 = .ok (.iastore, 1) := by decide +kernel
theorem dX7_init_994 : decode cX7_init 994 = .ok (.dup, 1) := by decide +kernel
theorem dX7_init_995 : decode cX7_init 995 = .ok (.bipush 83, 2) := by decide +kernel
theorem dX7_init_997 : decode cX7_init 997 = .ok (.bipush 83, 2) := by decide +kernel
theorem dX7_init_999 : decode cX7_init 999 = .ok (.iastore, 1) := by decide +kernel
theorem dX7_init_1000 : decode cX7_init 1000 = .ok (.dup, 1) := by decide +kernel
theorem dX7_init_1001 : decode cX7_init 1001 = .ok (.bipush 84, 2) := by decide +kernel
theorem dX7_init_1003 : decode cX7_init 1003 = .ok (.bipush 57, 2) := by decide +kernel
theorem dX7_init_1005 : decode cX7_init 1005 = .ok (.iastore, 1) := by decide +kernel
theorem dX7_init_1006 : decode cX7_init 1006 = .ok (.dup, 1) := by decide +kernel
theorem dX7_init_1007 : decode cX7_init 1007 = .ok (.bipush 85, 2) := by decide +kernel
theorem dX7_init_1009 : decode cX7_init 1009 = .ok (.bipush 29, 2) := by decide +kernel
theorem dX7_init_1011 : decode cX7_init 1011 = .ok (.iastore, 1) := by decide +kernel
theorem dX7_init_1012 : decode cX7_init 1012 = .ok (.dup, 1) := by decide +kernel
theorem dX7_init_1013 : decode cX7_init 1013 = .ok (.bipush 86, 2) := by decide +kernel
theorem dX7_init_1015 : decode cX7_init 1015 = .ok (.bipush (-2), 2) := by decide +kernel
theorem dX7_init_1017 : decode cX7_init 1017 = .ok (.iastore, 1) := by decide +kernel
theorem dX7_init_1018 : decode cX7_init 1018 = .ok (.dup, 1) := by decide +kernel
theorem dX7_init_1019 : decode cX7_init 1019 = .ok (.bipush 87, 2) := by decide +kernel
theorem dX7_init_1021 : decode cX7_init 1021 = .ok (.bipush (-36), 2) := by decide +kernel
theorem dX7_init_1023 : decode cX7_init 1023 = .ok (.iastore, 1) := by decide +kernel
theorem dX7_init_1024 : decode cX7_init 1024 = .ok (.dup, 1) := by decide +kernel
theorem dX7_init_1025 : decode cX7_init 1025 = .ok (.bipush 88, 2) := by decide +kernel
theorem dX7_init_1027 : decode cX7_init 1027 = .ok (.bipush (-72), 2) := by decide +kernel
theorem dX7_init_1029 : decode cX7_init 1029 = .ok (.iastore, 1) := by decide +kernel
theorem dX7_init_1030 : decode cX7_init 1030 = .ok (.dup, 1) := by decide +kernel
theorem dX7_init_1031 : decode cX7_init 1031 = .ok (.bipush 89, 2) := by decide +kernel
theorem dX7_init_1033 : decode cX7_init 1033 = .ok (.bipush (-111), 2) := by decide +kernel
theorem dX7_init_1035 : decode cX7_init 1035 = .ok (.iastore, 1) := by decide +kernel
theorem dX7_init_1036 : decode cX7_init 1036 = .ok (.dup, 1) := by decide +kernel
theorem dX7_init_1037 : decode cX7_init 1037 = .ok (.bipush 90, 2) := by decide +kernel
theorem dX7_init_1039 : decode cX7_init 1039 = .ok (.sipush (-153), 3) := by decide +kernel
theorem dX7_init_1042 : decode cX7_init 1042 = .ok (.iastore, 1) := by decide +kernel
theorem dX7_init_1043 : decode cX7_init 1043 = .ok (.dup, 1) := by decide +kernel
theorem dX7_init_1044 : decode cX7_init 1044 = .ok (.bipush 91, 2) := by decide +kernel
theorem dX7_init_1046 : decode cX7_init 1046 = .ok (.sipush (-197), 3) := by decide +kernel
theorem dX7_init_1049 : decode cX7_init 1049 = .ok (.iastore, 1) := by decide +kernel
theorem dX7_init_1050 : decode cX7_init 1050 = .ok (.dup, 1) := by decide +kernel
theorem dX7_init_1051 : decode cX7_init 1051 = .ok (.bipush 92, 2) := by decide +kernel
theorem dX7_init_1053 : decode cX7_init 1053 = .ok (.sipush (-244), 3) := by decide +kernel
theorem dX7_init_1056 : decode cX7_init 1056 = .ok (.iastore, 1) := by decide +kernel
theorem dX7_init_1057 : decode cX7_init 1057 = .ok (.dup, 1) := by decide +kernel
theorem dX7_init_1058 : decode cX7_init 1058 = .ok (.bipush 93, 2) := by decide +kernel
theorem dX7_init_1060 : decode cX7_init 1060 = .ok (.sipush (-294), 3) := by decide +kernel
theorem dX7_init_1063 : decode cX7_init 1063 = .ok (.iastore, 1) := by decide +kernel
theorem dX7_init_1064 : decode cX7_init 1064 = .ok (.dup, 1) := by decide +kernel
theorem dX7_init_1065 : decode cX7_init 1065 = .ok (.bipush 94, 2) := by decide +kernel
theorem dX7_init_1067 : decode cX7_init 1067 = .ok (.sipush (-347), 3) := by decide +kernel
theorem dX7_init_1070 : decode cX7_init 1070 = .ok (.iastore, 1) := by decide +kernel
theorem dX7_init_1071 : decode cX7_init 1071 = .ok (.dup, 1) := by decide +kernel
theorem dX7_init_1072 : decode cX7_init 1072 = .ok (.bipush 95, 2) := by decide +kernel
