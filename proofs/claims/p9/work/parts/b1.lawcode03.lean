theorem dL_law_822 : decode cL_law 822 = .ok (.pop, 1) := by decide +kernel
theorem dL_law_823 : decode cL_law 823 = .ok (.aload_n 2, 1) := by decide +kernel
theorem dL_law_824 : decode cL_law 824 = .ok (.aload_n 0, 1) := by decide +kernel
theorem dL_law_825 : decode cL_law 825 = .ok (.iload 4, 2) := by decide +kernel
theorem dL_law_827 : decode cL_law 827 = .ok (.iconst 1, 1) := by decide +kernel
theorem dL_law_828 : decode cL_law 828 = .ok (.iadd, 1) := by decide +kernel
theorem dL_law_829 : decode cL_law 829 = .ok (.iaload, 1) := by decide +kernel
theorem dL_law_830 : decode cL_law 830 = .ok (.aload_n 0, 1) := by decide +kernel
theorem dL_law_831 : decode cL_law 831 = .ok (.iload 4, 2) := by decide +kernel
theorem dL_law_833 : decode cL_law 833 = .ok (.iconst 2, 1) := by decide +kernel
theorem dL_law_834 : decode cL_law 834 = .ok (.iadd, 1) := by decide +kernel
theorem dL_law_835 : decode cL_law 835 = .ok (.iaload, 1) := by decide +kernel
theorem dL_law_836 : decode cL_law 836 = .ok (.invokevirtual 102, 3) := by decide +kernel
theorem dL_law_839 : decode cL_law 839 = .ok (.pop, 1) := by decide +kernel
theorem dL_law_840 : decode cL_law 840 = .ok (.goto 1448, 3) := by decide +kernel
theorem dL_law_843 : decode cL_law 843 = .ok (.aload_n 1, 1) := by decide +kernel
theorem dL_law_844 : decode cL_law 844 = .ok (.aload_n 0, 1) := by decide +kernel
theorem dL_law_845 : decode cL_law 845 = .ok (.iload 4, 2) := by decide +kernel
theorem dL_law_847 : decode cL_law 847 = .ok (.iconst 1, 1) := by decide +kernel
theorem dL_law_848 : decode cL_law 848 = .ok (.iadd, 1) := by decide +kernel
theorem dL_law_849 : decode cL_law 849 = .ok (.iaload, 1) := by decide +kernel
theorem dL_law_850 : decode cL_law 850 = .ok (.aload_n 0, 1) := by decide +kernel
theorem dL_law_851 : decode cL_law 851 = .ok (.iload 4, 2) := by decide +kernel
theorem dL_law_853 : decode cL_law 853 = .ok (.iconst 2, 1) := by decide +kernel
theorem dL_law_854 : decode cL_law 854 = .ok (.iadd, 1) := by decide +kernel
theorem dL_law_855 : decode cL_law 855 = .ok (.iaload, 1) := by decide +kernel
theorem dL_law_856 : decode cL_law 856 = .ok (.aload_n 0, 1) := by decide +kernel
theorem dL_law_857 : decode cL_law 857 = .ok (.iload 4, 2) := by decide +kernel
theorem dL_law_859 : decode cL_law 859 = .ok (.iconst 3, 1) := by decide +kernel
theorem dL_law_860 : decode cL_law 860 = .ok (.iadd, 1) := by decide +kernel
theorem dL_law_861 : decode cL_law 861 = .ok (.iaload, 1) := by decide +kernel
theorem dL_law_862 : decode cL_law 862 = .ok (.invokevirtual 103, 3) := by decide +kernel
theorem dL_law_865 : decode cL_law 865 = .ok (.pop, 1) := by decide +kernel
theorem dL_law_866 : decode cL_law 866 = .ok (.aload_n 2, 1) := by decide +kernel
theorem dL_law_867 : decode cL_law 867 = .ok (.aload_n 0, 1) := by decide +kernel
theorem dL_law_868 : decode cL_law 868 = .ok (.iload 4, 2) := by decide +kernel
theorem dL_law_870 : decode cL_law 870 = .ok (.iconst 1, 1) := by decide +kernel
theorem dL_law_871 : decode cL_law 871 = .ok (.iadd, 1) := by decide +kernel
theorem dL_law_872 : decode cL_law 872 = .ok (.iaload, 1) := by decide +kernel
theorem dL_law_873 : decode cL_law 873 = .ok (.aload_n 0, 1) := by decide +kernel
theorem dL_law_874 : decode cL_law 874 = .ok (.iload 4, 2) := by decide +kernel
theorem dL_law_876 : decode cL_law 876 = .ok (.iconst 2, 1) := by decide +kernel
theorem dL_law_877 : decode cL_law 877 = .ok (.iadd, 1) := by decide +kernel
theorem dL_law_878 : decode cL_law 878 = .ok (.iaload, 1) := by decide +kernel
theorem dL_law_879 : decode cL_law 879 = .ok (.aload_n 0, 1) := by decide +kernel
theorem dL_law_880 : decode cL_law 880 = .ok (.iload 4, 2) := by decide +kernel
theorem dL_law_882 : decode cL_law 882 = .ok (.iconst 3, 1) := by decide +kernel
theorem dL_law_883 : decode cL_law 883 = .ok (.iadd, 1) := by decide +kernel
theorem dL_law_884 : decode cL_law 884 = .ok (.iaload, 1) := by decide +kernel
theorem dL_law_885 : decode cL_law 885 = .ok (.invokevirtual 106, 3) := by decide +kernel
theorem dL_law_888 : decode cL_law 888 = .ok (.pop, 1) := by decide +kernel
theorem dL_law_889 : decode cL_law 889 = .ok (.goto 1399, 3) := by decide +kernel
theorem dL_law_892 : decode cL_law 892 = .ok (.aload_n 1, 1) := by decide +kernel
theorem dL_law_893 : decode cL_law 893 = .ok (.aload_n 0, 1) := by decide +kernel
theorem dL_law_894 : decode cL_law 894 = .ok (.iload 4, 2) := by decide +kernel
theorem dL_law_896 : decode cL_law 896 = .ok (.iconst 1, 1) := by decide +kernel
theorem dL_law_897 : decode cL_law 897 = .ok (.iadd, 1) := by decide +kernel
theorem dL_law_898 : decode cL_law 898 = .ok (.iaload, 1) := by decide +kernel
theorem dL_law_899 : decode cL_law 899 = .ok (.invokevirtual 107, 3) := by decide +kernel
theorem dL_law_902 : decode cL_law 902 = .ok (.pop, 1) := by decide +kernel
theorem dL_law_903 : decode cL_law 903 = .ok (.aload_n 2, 1) := by decide +kernel
theorem dL_law_904 : decode cL_law 904 = .ok (.aload_n 0, 1) := by decide +kernel
theorem dL_law_905 : decode cL_law 905 = .ok (.iload 4, 2) := by decide +kernel
theorem dL_law_907 : decode cL_law 907 = .ok (.iconst 1, 1) := by decide +kernel
theorem dL_law_908 : decode cL_law 908 = .ok (.iadd, 1) := by decide +kernel
theorem dL_law_909 : decode cL_law 909 = .ok (.iaload, 1) := by decide +kernel
theorem dL_law_910 : decode cL_law 910 = .ok (.invokevirtual 110, 3) := by decide +kernel
theorem dL_law_913 : decode cL_law 913 = .ok (.pop, 1) := by decide +kernel
theorem dL_law_914 : decode cL_law 914 = .ok (.goto 1374, 3) := by decide +kernel
theorem dL_law_917 : decode cL_law 917 = .ok (.aload_n 1, 1) := by decide +kernel
theorem dL_law_918 : decode cL_law 918 = .ok (.aload_n 0, 1) := by decide +kernel
theorem dL_law_919 : decode cL_law 919 = .ok (.iload 4, 2) := by decide +kernel
theorem dL_law_921 : decode cL_law 921 = .ok (.iconst 1, 1) := by decide +kernel
theorem dL_law_922 : decode cL_law 922 = .ok (.iadd, 1) := by decide +kernel
theorem dL_law_923 : decode cL_law 923 = .ok (.iaload, 1) := by decide +kernel
theorem dL_law_924 : decode cL_law 924 = .ok (.aload_n 0, 1) := by decide +kernel
theorem dL_law_925 : decode cL_law 925 = .ok (.iload 4, 2) := by decide +kernel
theorem dL_law_927 : decode cL_law 927 = .ok (.iconst 2, 1) := by decide +kernel
theorem dL_law_928 : decode cL_law 928 = .ok (.iadd, 1) := by decide +kernel
theorem dL_law_929 : decode cL_law 929 = .ok (.iaload, 1) := by decide +kernel
theorem dL_law_930 : decode cL_law 930 = .ok (.invokevirtual 111, 3) := by decide +kernel
theorem dL_law_933 : decode cL_law 933 = .ok (.pop, 1) := by decide +kernel
theorem dL_law_934 : decode cL_law 934 = .ok (.aload_n 2, 1) := by decide +kernel
theorem dL_law_935 : decode cL_law 935 = .ok (.aload_n 0, 1) := by decide +kernel
theorem dL_law_936 : decode cL_law 936 = .ok (.iload 4, 2) := by decide +kernel
theorem dL_law_938 : decode cL_law 938 = .ok (.iconst 1, 1) := by decide +kernel
theorem dL_law_939 : decode cL_law 939 = .ok (.iadd, 1) := by decide +kernel
theorem dL_law_940 : decode cL_law 940 = .ok (.iaload, 1) := by decide +kernel
theorem dL_law_941 : decode cL_law 941 = .ok (.aload_n 0, 1) := by decide +kernel
theorem dL_law_942 : decode cL_law 942 = .ok (.iload 4, 2) := by decide +kernel
theorem dL_law_944 : decode cL_law 944 = .ok (.iconst 2, 1) := by decide +kernel
theorem dL_law_945 : decode cL_law 945 = .ok (.iadd, 1) := by decide +kernel
theorem dL_law_946 : decode cL_law 946 = .ok (.iaload, 1) := by decide +kernel
theorem dL_law_947 : decode cL_law 947 = .ok (.invokevirtual 114, 3) := by decide +kernel
theorem dL_law_950 : decode cL_law 950 = .ok (.pop, 1) := by decide +kernel
theorem dL_law_951 : decode cL_law 951 = .ok (.goto 1337, 3) := by decide +kernel
theorem dL_law_954 : decode cL_law 954 = .ok (.aload_n 1, 1) := by decide +kernel
theorem dL_law_955 : decode cL_law 955 = .ok (.aload_n 0, 1) := by decide +kernel
theorem dL_law_956 : decode cL_law 956 = .ok (.iload 4, 2) := by decide +kernel
theorem dL_law_958 : decode cL_law 958 = .ok (.iconst 1, 1) := by decide +kernel
theorem dL_law_959 : decode cL_law 959 = .ok (.iadd, 1) := by decide +kernel
theorem dL_law_960 : decode cL_law 960 = .ok (.iaload, 1) := by decide +kernel
theorem dL_law_961 : decode cL_law 961 = .ok (.aload_n 0, 1) := by decide +kernel
theorem dL_law_962 : decode cL_law 962 = .ok (.iload 4, 2) := by decide +kernel
theorem dL_law_964 : decode cL_law 964 = .ok (.iconst 2, 1) := by decide +kernel
theorem dL_law_965 : decode cL_law 965 = .ok (.iadd, 1) := by decide +kernel
theorem dL_law_966 : decode cL_law 966 = .ok (.iaload, 1) := by decide +kernel
theorem dL_law_967 : decode cL_law 967 = .ok (.aload_n 0, 1) := by decide +kernel
theorem dL_law_968 : decode cL_law 968 = .ok (.iload 4, 2) := by decide +kernel
theorem dL_law_970 : decode cL_law 970 = .ok (.iconst 3, 1) := by decide +kernel
theorem dL_law_971 : decode cL_law 971 = .ok (.iadd, 1) := by decide +kernel
theorem dL_law_972 : decode cL_law 972 = .ok (.iaload, 1) := by decide +kernel
theorem dL_law_973 : decode cL_law 973 = .ok (.aload_n 0, 1) := by decide +kernel
theorem dL_law_974 : decode cL_law 974 = .ok (.iload 4, 2) := by decide +kernel
theorem dL_law_976 : decode cL_law 976 = .ok (.iconst 4, 1) := by decide +kernel
theorem dL_law_977 : decode cL_law 977 = .ok (.iadd, 1) := by decide +kernel
theorem dL_law_978 : decode cL_law 978 = .ok (.iaload, 1) := by decide +kernel
theorem dL_law_979 : decode cL_law 979 = .ok (.invokevirtual 115, 3) := by decide +kernel
theorem dL_law_982 : decode cL_law 982 = .ok (.pop, 1) := by decide +kernel
theorem dL_law_983 : decode cL_law 983 = .ok (.aload_n 2, 1) := by decide +kernel
theorem dL_law_984 : decode cL_law 984 = .ok (.aload_n 0, 1) := by decide +kernel
theorem dL_law_985 : decode cL_law 985 = .ok (.iload 4, 2) := by decide +kernel
theorem dL_law_987 : decode cL_law 987 = .ok (.iconst 1, 1) := by decide +kernel
theorem dL_law_988 : decode cL_law 988 = .ok (.iadd, 1) := by decide +kernel
theorem dL_law_989 : decode cL_law 989 = .ok (.iaload, 1) := by decide +kernel
theorem dL_law_990 : decode cL_law 990 = .ok (.aload_n 0, 1) := by decide +kernel
theorem dL_law_991 : decode cL_law 991 = .ok (.iload 4, 2) := by decide +kernel
theorem dL_law_993 : decode cL_law 993 = .ok (.iconst 2, 1) := by decide +kernel
theorem dL_law_994 : decode cL_law 994 = .ok (.iadd, 1) := by decide +kernel
theorem dL_law_995 : decode cL_law 995 = .ok (.iaload, 1) := by decide +kernel
theorem dL_law_996 : decode cL_law 996 = .ok (.aload_n 0, 1) := by decide +kernel
theorem dL_law_997 : decode cL_law 997 = .ok (.iload 4, 2) := by decide +kernel
theorem dL_law_999 : decode cL_law 999 = .ok (.iconst 3, 1) := by decide +kernel
theorem dL_law_1000 : decode cL_law 1000 = .ok (.iadd, 1) := by decide +kernel
theorem dL_law_1001 : decode cL_law 1001 = .ok (.iaload, 1) := by decide +kernel
theorem dL_law_1002 : decode cL_law 1002 = .ok (.aload_n 0, 1) := by decide +kernel
theorem dL_law_1003 : decode cL_law 1003 = .ok (.iload 4, 2) := by decide +kernel
theorem dL_law_1005 : decode cL_law 1005 = .ok (.iconst 4, 1) := by decide +kernel
theorem dL_law_1006 : decode cL_law 1006 = .ok (.iadd, 1) := by decide +kernel
theorem dL_law_1007 : decode cL_law 1007 = .ok (.iaload, 1) := by decide +kernel
theorem dL_law_1008 : decode cL_law 1008 = .ok (.invokevirtual 118, 3) := by decide +kernel
theorem dL_law_1011 : decode cL_law 1011 = .ok (.pop, 1) := by decide +kernel
theorem dL_law_1012 : decode cL_law 1012 = .ok (.goto 1276, 3) := by decide +kernel
theorem dL_law_1015 : decode cL_law 1015 = .ok (.aload_n 1, 1) := by decide +kernel
theorem dL_law_1016 : decode cL_law 1016 = .ok (.aload_n 0, 1) := by decide +kernel
theorem dL_law_1017 : decode cL_law 1017 = .ok (.iload 4, 2) := by decide +kernel
theorem dL_law_1019 : decode cL_law 1019 = .ok (.iconst 1, 1) := by decide +kernel
theorem dL_law_1020 : decode cL_law 1020 = .ok (.iadd, 1) := by decide +kernel
theorem dL_law_1021 : decode cL_law 1021 = .ok (.iaload, 1) := by decide +kernel
theorem dL_law_1022 : decode cL_law 1022 = .ok (.aload_n 0, 1) := by decide +kernel

