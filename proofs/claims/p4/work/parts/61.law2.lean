theorem w934 : (.methodLink RL 100 yX11_rounds : Cond) ∈ TB := mTB (List.mem_of_getElem? (i := 934) (by decide +kernel)) (by decide +kernel)
theorem w935 : (.instanceMethod yX11_rounds : Cond) ∈ TB := mTB (List.mem_of_getElem? (i := 935) (by decide +kernel)) (by decide +kernel)
theorem w936 : (.selects RX11 yX11_rounds yX11_rounds : Cond) ∈ TB := mTB (List.mem_of_getElem? (i := 936) (by decide +kernel)) (by decide +kernel)
theorem w937 : (.code yX11_rounds cX11_rounds 3 (some .int) : Cond) ∈ TB := mTB (List.mem_of_getElem? (i := 937) (by decide +kernel)) (by decide +kernel)
theorem w938 : (.methodLink RL 104 yX11_chain : Cond) ∈ TB := mTB (List.mem_of_getElem? (i := 938) (by decide +kernel)) (by decide +kernel)
theorem w939 : (.instanceMethod yX11_chain : Cond) ∈ TB := mTB (List.mem_of_getElem? (i := 939) (by decide +kernel)) (by decide +kernel)
theorem w940 : (.selects RX11 yX11_chain yX11_chain : Cond) ∈ TB := mTB (List.mem_of_getElem? (i := 940) (by decide +kernel)) (by decide +kernel)
theorem w941 : (.code yX11_chain cX11_chain 3 (some .int) : Cond) ∈ TB := mTB (List.mem_of_getElem? (i := 941) (by decide +kernel)) (by decide +kernel)
theorem w959 : (.methodLink RL 108 yX11_least : Cond) ∈ TB := mTB (List.mem_of_getElem? (i := 959) (by decide +kernel)) (by decide +kernel)
theorem w960 : (.instanceMethod yX11_least : Cond) ∈ TB := mTB (List.mem_of_getElem? (i := 960) (by decide +kernel)) (by decide +kernel)
theorem w961 : (.selects RX11 yX11_least yX11_least : Cond) ∈ TB := mTB (List.mem_of_getElem? (i := 961) (by decide +kernel)) (by decide +kernel)
theorem w962 : (.code yX11_least cX11_least 2 (some .int) : Cond) ∈ TB := mTB (List.mem_of_getElem? (i := 962) (by decide +kernel)) (by decide +kernel)
theorem w963 : (.methodLink RL 112 yX11_pressed : Cond) ∈ TB := mTB (List.mem_of_getElem? (i := 963) (by decide +kernel)) (by decide +kernel)
theorem w964 : (.instanceMethod yX11_pressed : Cond) ∈ TB := mTB (List.mem_of_getElem? (i := 964) (by decide +kernel)) (by decide +kernel)
theorem w965 : (.selects RX11 yX11_pressed yX11_pressed : Cond) ∈ TB := mTB (List.mem_of_getElem? (i := 965) (by decide +kernel)) (by decide +kernel)
theorem w966 : (.code yX11_pressed cX11_pressed 4 (some .int) : Cond) ∈ TB := mTB (List.mem_of_getElem? (i := 966) (by decide +kernel)) (by decide +kernel)
theorem w967 : (.methodLink RL 116 yX11_couples : Cond) ∈ TB := mTB (List.mem_of_getElem? (i := 967) (by decide +kernel)) (by decide +kernel)
theorem w968 : (.instanceMethod yX11_couples : Cond) ∈ TB := mTB (List.mem_of_getElem? (i := 968) (by decide +kernel)) (by decide +kernel)
theorem w969 : (.selects RX11 yX11_couples yX11_couples : Cond) ∈ TB := mTB (List.mem_of_getElem? (i := 969) (by decide +kernel)) (by decide +kernel)
theorem w970 : (.code yX11_couples cX11_couples 2 (some .int) : Cond) ∈ TB := mTB (List.mem_of_getElem? (i := 970) (by decide +kernel)) (by decide +kernel)
theorem w971 : (.methodLink RL 120 yX11_span : Cond) ∈ TB := mTB (List.mem_of_getElem? (i := 971) (by decide +kernel)) (by decide +kernel)
theorem w972 : (.instanceMethod yX11_span : Cond) ∈ TB := mTB (List.mem_of_getElem? (i := 972) (by decide +kernel)) (by decide +kernel)
theorem w973 : (.selects RX11 yX11_span yX11_span : Cond) ∈ TB := mTB (List.mem_of_getElem? (i := 973) (by decide +kernel)) (by decide +kernel)
theorem w974 : (.code yX11_span cX11_span 5 (some .int) : Cond) ∈ TB := mTB (List.mem_of_getElem? (i := 974) (by decide +kernel)) (by decide +kernel)
theorem w979 : (.methodLink RL 124 yX11_gain : Cond) ∈ TB := mTB (List.mem_of_getElem? (i := 979) (by decide +kernel)) (by decide +kernel)
theorem w980 : (.instanceMethod yX11_gain : Cond) ∈ TB := mTB (List.mem_of_getElem? (i := 980) (by decide +kernel)) (by decide +kernel)
theorem w981 : (.selects RX11 yX11_gain yX11_gain : Cond) ∈ TB := mTB (List.mem_of_getElem? (i := 981) (by decide +kernel)) (by decide +kernel)
theorem w982 : (.code yX11_gain cX11_gain 4 (some .int) : Cond) ∈ TB := mTB (List.mem_of_getElem? (i := 982) (by decide +kernel)) (by decide +kernel)
theorem w987 : (.methodLink RL 128 yX11_without : Cond) ∈ TB := mTB (List.mem_of_getElem? (i := 987) (by decide +kernel)) (by decide +kernel)
theorem w988 : (.instanceMethod yX11_without : Cond) ∈ TB := mTB (List.mem_of_getElem? (i := 988) (by decide +kernel)) (by decide +kernel)
theorem w989 : (.selects RX11 yX11_without yX11_without : Cond) ∈ TB := mTB (List.mem_of_getElem? (i := 989) (by decide +kernel)) (by decide +kernel)
theorem w990 : (.code yX11_without cX11_without 5 (some .int) : Cond) ∈ TB := mTB (List.mem_of_getElem? (i := 990) (by decide +kernel)) (by decide +kernel)
theorem w993 : (.methodLink RL 132 yX11_relief : Cond) ∈ TB := mTB (List.mem_of_getElem? (i := 993) (by decide +kernel)) (by decide +kernel)
theorem w994 : (.instanceMethod yX11_relief : Cond) ∈ TB := mTB (List.mem_of_getElem? (i := 994) (by decide +kernel)) (by decide +kernel)
theorem w995 : (.selects RX11 yX11_relief yX11_relief : Cond) ∈ TB := mTB (List.mem_of_getElem? (i := 995) (by decide +kernel)) (by decide +kernel)
theorem w996 : (.code yX11_relief cX11_relief 3 (some .int) : Cond) ∈ TB := mTB (List.mem_of_getElem? (i := 996) (by decide +kernel)) (by decide +kernel)
theorem w1003 : (.methodLink RL 136 yX11_through : Cond) ∈ TB := mTB (List.mem_of_getElem? (i := 1003) (by decide +kernel)) (by decide +kernel)
theorem w1004 : (.instanceMethod yX11_through : Cond) ∈ TB := mTB (List.mem_of_getElem? (i := 1004) (by decide +kernel)) (by decide +kernel)
theorem w1005 : (.selects RX11 yX11_through yX11_through : Cond) ∈ TB := mTB (List.mem_of_getElem? (i := 1005) (by decide +kernel)) (by decide +kernel)
theorem w1006 : (.code yX11_through cX11_through 4 (some .int) : Cond) ∈ TB := mTB (List.mem_of_getElem? (i := 1006) (by decide +kernel)) (by decide +kernel)
theorem w1422 : (.methodLink RL 103 yX12_rounds : Cond) ∈ TB := mTB (List.mem_of_getElem? (i := 1422) (by decide +kernel)) (by decide +kernel)
theorem w1423 : (.instanceMethod yX12_rounds : Cond) ∈ TB := mTB (List.mem_of_getElem? (i := 1423) (by decide +kernel)) (by decide +kernel)
theorem w1424 : (.selects RX12 yX12_rounds yX12_rounds : Cond) ∈ TB := mTB (List.mem_of_getElem? (i := 1424) (by decide +kernel)) (by decide +kernel)
theorem w1425 : (.code yX12_rounds cX12_rounds 4 (some .int) : Cond) ∈ TB := mTB (List.mem_of_getElem? (i := 1425) (by decide +kernel)) (by decide +kernel)
theorem w1427 : (.methodLink RL 107 yX12_chain : Cond) ∈ TB := mTB (List.mem_of_getElem? (i := 1427) (by decide +kernel)) (by decide +kernel)
theorem w1428 : (.instanceMethod yX12_chain : Cond) ∈ TB := mTB (List.mem_of_getElem? (i := 1428) (by decide +kernel)) (by decide +kernel)
theorem w1429 : (.selects RX12 yX12_chain yX12_chain : Cond) ∈ TB := mTB (List.mem_of_getElem? (i := 1429) (by decide +kernel)) (by decide +kernel)
theorem w1430 : (.code yX12_chain cX12_chain 6 (some .int) : Cond) ∈ TB := mTB (List.mem_of_getElem? (i := 1430) (by decide +kernel)) (by decide +kernel)
theorem w1443 : (.methodLink RL 111 yX12_least : Cond) ∈ TB := mTB (List.mem_of_getElem? (i := 1443) (by decide +kernel)) (by decide +kernel)
theorem w1444 : (.instanceMethod yX12_least : Cond) ∈ TB := mTB (List.mem_of_getElem? (i := 1444) (by decide +kernel)) (by decide +kernel)
theorem w1445 : (.selects RX12 yX12_least yX12_least : Cond) ∈ TB := mTB (List.mem_of_getElem? (i := 1445) (by decide +kernel)) (by decide +kernel)
theorem w1446 : (.code yX12_least cX12_least 2 (some .int) : Cond) ∈ TB := mTB (List.mem_of_getElem? (i := 1446) (by decide +kernel)) (by decide +kernel)
theorem w1487 : (.methodLink RL 115 yX12_pressed : Cond) ∈ TB := mTB (List.mem_of_getElem? (i := 1487) (by decide +kernel)) (by decide +kernel)
theorem w1488 : (.instanceMethod yX12_pressed : Cond) ∈ TB := mTB (List.mem_of_getElem? (i := 1488) (by decide +kernel)) (by decide +kernel)
theorem w1489 : (.selects RX12 yX12_pressed yX12_pressed : Cond) ∈ TB := mTB (List.mem_of_getElem? (i := 1489) (by decide +kernel)) (by decide +kernel)
theorem w1490 : (.code yX12_pressed cX12_pressed 4 (some .int) : Cond) ∈ TB := mTB (List.mem_of_getElem? (i := 1490) (by decide +kernel)) (by decide +kernel)
theorem w1503 : (.methodLink RL 119 yX12_couples : Cond) ∈ TB := mTB (List.mem_of_getElem? (i := 1503) (by decide +kernel)) (by decide +kernel)
theorem w1504 : (.instanceMethod yX12_couples : Cond) ∈ TB := mTB (List.mem_of_getElem? (i := 1504) (by decide +kernel)) (by decide +kernel)
theorem w1505 : (.selects RX12 yX12_couples yX12_couples : Cond) ∈ TB := mTB (List.mem_of_getElem? (i := 1505) (by decide +kernel)) (by decide +kernel)
theorem w1506 : (.code yX12_couples cX12_couples 2 (some .int) : Cond) ∈ TB := mTB (List.mem_of_getElem? (i := 1506) (by decide +kernel)) (by decide +kernel)
theorem w1511 : (.methodLink RL 123 yX12_span : Cond) ∈ TB := mTB (List.mem_of_getElem? (i := 1511) (by decide +kernel)) (by decide +kernel)
theorem w1512 : (.instanceMethod yX12_span : Cond) ∈ TB := mTB (List.mem_of_getElem? (i := 1512) (by decide +kernel)) (by decide +kernel)
theorem w1513 : (.selects RX12 yX12_span yX12_span : Cond) ∈ TB := mTB (List.mem_of_getElem? (i := 1513) (by decide +kernel)) (by decide +kernel)
theorem w1514 : (.code yX12_span cX12_span 5 (some .int) : Cond) ∈ TB := mTB (List.mem_of_getElem? (i := 1514) (by decide +kernel)) (by decide +kernel)
theorem w1515 : (.methodLink RL 127 yX12_gain : Cond) ∈ TB := mTB (List.mem_of_getElem? (i := 1515) (by decide +kernel)) (by decide +kernel)
theorem w1516 : (.instanceMethod yX12_gain : Cond) ∈ TB := mTB (List.mem_of_getElem? (i := 1516) (by decide +kernel)) (by decide +kernel)
theorem w1517 : (.selects RX12 yX12_gain yX12_gain : Cond) ∈ TB := mTB (List.mem_of_getElem? (i := 1517) (by decide +kernel)) (by decide +kernel)
theorem w1518 : (.code yX12_gain cX12_gain 5 (some .int) : Cond) ∈ TB := mTB (List.mem_of_getElem? (i := 1518) (by decide +kernel)) (by decide +kernel)
theorem w1519 : (.methodLink RL 131 yX12_without : Cond) ∈ TB := mTB (List.mem_of_getElem? (i := 1519) (by decide +kernel)) (by decide +kernel)
theorem w1520 : (.instanceMethod yX12_without : Cond) ∈ TB := mTB (List.mem_of_getElem? (i := 1520) (by decide +kernel)) (by decide +kernel)
theorem w1521 : (.selects RX12 yX12_without yX12_without : Cond) ∈ TB := mTB (List.mem_of_getElem? (i := 1521) (by decide +kernel)) (by decide +kernel)
theorem w1522 : (.code yX12_without cX12_without 5 (some .int) : Cond) ∈ TB := mTB (List.mem_of_getElem? (i := 1522) (by decide +kernel)) (by decide +kernel)
theorem w1523 : (.methodLink RL 135 yX12_relief : Cond) ∈ TB := mTB (List.mem_of_getElem? (i := 1523) (by decide +kernel)) (by decide +kernel)
theorem w1524 : (.instanceMethod yX12_relief : Cond) ∈ TB := mTB (List.mem_of_getElem? (i := 1524) (by decide +kernel)) (by decide +kernel)
theorem w1525 : (.selects RX12 yX12_relief yX12_relief : Cond) ∈ TB := mTB (List.mem_of_getElem? (i := 1525) (by decide +kernel)) (by decide +kernel)
theorem w1526 : (.code yX12_relief cX12_relief 3 (some .int) : Cond) ∈ TB := mTB (List.mem_of_getElem? (i := 1526) (by decide +kernel)) (by decide +kernel)
theorem w1535 : (.methodLink RL 139 yX12_through : Cond) ∈ TB := mTB (List.mem_of_getElem? (i := 1535) (by decide +kernel)) (by decide +kernel)
theorem w1536 : (.instanceMethod yX12_through : Cond) ∈ TB := mTB (List.mem_of_getElem? (i := 1536) (by decide +kernel)) (by decide +kernel)
theorem w1537 : (.selects RX12 yX12_through yX12_through : Cond) ∈ TB := mTB (List.mem_of_getElem? (i := 1537) (by decide +kernel)) (by decide +kernel)
theorem w1538 : (.code yX12_through cX12_through 4 (some .int) : Cond) ∈ TB := mTB (List.mem_of_getElem? (i := 1538) (by decide +kernel)) (by decide +kernel)
theorem dL_law_872 : decode cL_law 872 = .ok (.aload_n 1, 1) := by decide +kernel
theorem dL_law_873 : decode cL_law 873 = .ok (.aload_n 0, 1) := by decide +kernel
theorem dL_law_874 : decode cL_law 874 = .ok (.iload_n 3, 1) := by decide +kernel
theorem dL_law_875 : decode cL_law 875 = .ok (.iconst 1, 1) := by decide +kernel
theorem dL_law_876 : decode cL_law 876 = .ok (.iadd, 1) := by decide +kernel
theorem dL_law_877 : decode cL_law 877 = .ok (.iaload, 1) := by decide +kernel
theorem dL_law_878 : decode cL_law 878 = .ok (.aload_n 0, 1) := by decide +kernel
theorem dL_law_879 : decode cL_law 879 = .ok (.iload_n 3, 1) := by decide +kernel
theorem dL_law_880 : decode cL_law 880 = .ok (.iconst 2, 1) := by decide +kernel
theorem dL_law_881 : decode cL_law 881 = .ok (.iadd, 1) := by decide +kernel
theorem dL_law_882 : decode cL_law 882 = .ok (.iaload, 1) := by decide +kernel
theorem dL_law_883 : decode cL_law 883 = .ok (.invokevirtual 100, 3) := by decide +kernel
theorem dL_law_886 : decode cL_law 886 = .ok (.pop, 1) := by decide +kernel
theorem dL_law_887 : decode cL_law 887 = .ok (.aload_n 2, 1) := by decide +kernel
theorem dL_law_888 : decode cL_law 888 = .ok (.aload_n 0, 1) := by decide +kernel
theorem dL_law_889 : decode cL_law 889 = .ok (.iload_n 3, 1) := by decide +kernel
theorem dL_law_890 : decode cL_law 890 = .ok (.iconst 1, 1) := by decide +kernel
theorem dL_law_891 : decode cL_law 891 = .ok (.iadd, 1) := by decide +kernel
theorem dL_law_892 : decode cL_law 892 = .ok (.iaload, 1) := by decide +kernel
theorem dL_law_893 : decode cL_law 893 = .ok (.aload_n 0, 1) := by decide +kernel
theorem dL_law_894 : decode cL_law 894 = .ok (.iload_n 3, 1) := by decide +kernel
theorem dL_law_895 : decode cL_law 895 = .ok (.iconst 2, 1) := by decide +kernel
theorem dL_law_896 : decode cL_law 896 = .ok (.iadd, 1) := by decide +kernel
theorem dL_law_897 : decode cL_law 897 = .ok (.iaload, 1) := by decide +kernel
theorem dL_law_898 : decode cL_law 898 = .ok (.invokevirtual 103, 3) := by decide +kernel
theorem dL_law_901 : decode cL_law 901 = .ok (.pop, 1) := by decide +kernel
theorem dL_law_902 : decode cL_law 902 = .ok (.goto 531, 3) := by decide +kernel
theorem dL_law_905 : decode cL_law 905 = .ok (.aload_n 1, 1) := by decide +kernel
theorem dL_law_906 : decode cL_law 906 = .ok (.aload_n 0, 1) := by decide +kernel
theorem dL_law_907 : decode cL_law 907 = .ok (.iload_n 3, 1) := by decide +kernel
theorem dL_law_908 : decode cL_law 908 = .ok (.iconst 1, 1) := by decide +kernel
theorem dL_law_909 : decode cL_law 909 = .ok (.iadd, 1) := by decide +kernel
theorem dL_law_910 : decode cL_law 910 = .ok (.iaload, 1) := by decide +kernel
theorem dL_law_911 : decode cL_law 911 = .ok (.aload_n 0, 1) := by decide +kernel
theorem dL_law_912 : decode cL_law 912 = .ok (.iload_n 3, 1) := by decide +kernel
theorem dL_law_913 : decode cL_law 913 = .ok (.iconst 2, 1) := by decide +kernel
theorem dL_law_914 : decode cL_law 914 = .ok (.iadd, 1) := by decide +kernel
theorem dL_law_915 : decode cL_law 915 = .ok (.iaload, 1) := by decide +kernel
theorem dL_law_916 : decode cL_law 916 = .ok (.invokevirtual 104, 3) := by decide +kernel
theorem dL_law_919 : decode cL_law 919 = .ok (.pop, 1) := by decide +kernel
theorem dL_law_920 : decode cL_law 920 = .ok (.aload_n 2, 1) := by decide +kernel
theorem dL_law_921 : decode cL_law 921 = .ok (.aload_n 0, 1) := by decide +kernel
theorem dL_law_922 : decode cL_law 922 = .ok (.iload_n 3, 1) := by decide +kernel
theorem dL_law_923 : decode cL_law 923 = .ok (.iconst 1, 1) := by decide +kernel
theorem dL_law_924 : decode cL_law 924 = .ok (.iadd, 1) := by decide +kernel
theorem dL_law_925 : decode cL_law 925 = .ok (.iaload, 1) := by decide +kernel
theorem dL_law_926 : decode cL_law 926 = .ok (.aload_n 0, 1) := by decide +kernel
theorem dL_law_927 : decode cL_law 927 = .ok (.iload_n 3, 1) := by decide +kernel
theorem dL_law_928 : decode cL_law 928 = .ok (.iconst 2, 1) := by decide +kernel
theorem dL_law_929 : decode cL_law 929 = .ok (.iadd, 1) := by decide +kernel
theorem dL_law_930 : decode cL_law 930 = .ok (.iaload, 1) := by decide +kernel
theorem dL_law_931 : decode cL_law 931 = .ok (.invokevirtual 107, 3) := by decide +kernel
theorem dL_law_934 : decode cL_law 934 = .ok (.pop, 1) := by decide +kernel
theorem dL_law_935 : decode cL_law 935 = .ok (.goto 498, 3) := by decide +kernel
theorem dL_law_938 : decode cL_law 938 = .ok (.aload_n 1, 1) := by decide +kernel
theorem dL_law_939 : decode cL_law 939 = .ok (.aload_n 0, 1) := by decide +kernel
theorem dL_law_940 : decode cL_law 940 = .ok (.iload_n 3, 1) := by decide +kernel
theorem dL_law_941 : decode cL_law 941 = .ok (.iconst 1, 1) := by decide +kernel
theorem dL_law_942 : decode cL_law 942 = .ok (.iadd, 1) := by decide +kernel
theorem dL_law_943 : decode cL_law 943 = .ok (.iaload, 1) := by decide +kernel
theorem dL_law_944 : decode cL_law 944 = .ok (.invokevirtual 108, 3) := by decide +kernel
theorem dL_law_947 : decode cL_law 947 = .ok (.pop, 1) := by decide +kernel
theorem dL_law_948 : decode cL_law 948 = .ok (.aload_n 2, 1) := by decide +kernel
theorem dL_law_949 : decode cL_law 949 = .ok (.aload_n 0, 1) := by decide +kernel
theorem dL_law_950 : decode cL_law 950 = .ok (.iload_n 3, 1) := by decide +kernel
theorem dL_law_951 : decode cL_law 951 = .ok (.iconst 1, 1) := by decide +kernel
theorem dL_law_952 : decode cL_law 952 = .ok (.iadd, 1) := by decide +kernel
theorem dL_law_953 : decode cL_law 953 = .ok (.iaload, 1) := by decide +kernel
theorem dL_law_954 : decode cL_law 954 = .ok (.invokevirtual 111, 3) := by decide +kernel
theorem dL_law_957 : decode cL_law 957 = .ok (.pop, 1) := by decide +kernel
theorem dL_law_958 : decode cL_law 958 = .ok (.goto 475, 3) := by decide +kernel
theorem dL_law_961 : decode cL_law 961 = .ok (.aload_n 1, 1) := by decide +kernel
theorem dL_law_962 : decode cL_law 962 = .ok (.aload_n 0, 1) := by decide +kernel
theorem dL_law_963 : decode cL_law 963 = .ok (.iload_n 3, 1) := by decide +kernel
theorem dL_law_964 : decode cL_law 964 = .ok (.iconst 1, 1) := by decide +kernel
theorem dL_law_965 : decode cL_law 965 = .ok (.iadd, 1) := by decide +kernel
theorem dL_law_966 : decode cL_law 966 = .ok (.iaload, 1) := by decide +kernel
theorem dL_law_967 : decode cL_law 967 = .ok (.aload_n 0, 1) := by decide +kernel
theorem dL_law_968 : decode cL_law 968 = .ok (.iload_n 3, 1) := by decide +kernel
theorem dL_law_969 : decode cL_law 969 = .ok (.iconst 2, 1) := by decide +kernel
theorem dL_law_970 : decode cL_law 970 = .ok (.iadd, 1) := by decide +kernel
theorem dL_law_971 : decode cL_law 971 = .ok (.iaload, 1) := by decide +kernel
theorem dL_law_972 : decode cL_law 972 = .ok (.aload_n 0, 1) := by decide +kernel
theorem dL_law_973 : decode cL_law 973 = .ok (.iload_n 3, 1) := by decide +kernel
theorem dL_law_974 : decode cL_law 974 = .ok (.iconst 3, 1) := by decide +kernel
theorem dL_law_975 : decode cL_law 975 = .ok (.iadd, 1) := by decide +kernel
theorem dL_law_976 : decode cL_law 976 = .ok (.iaload, 1) := by decide +kernel
theorem dL_law_977 : decode cL_law 977 = .ok (.invokevirtual 112, 3) := by decide +kernel
theorem dL_law_980 : decode cL_law 980 = .ok (.pop, 1) := by decide +kernel
theorem dL_law_981 : decode cL_law 981 = .ok (.aload_n 2, 1) := by decide +kernel
theorem dL_law_982 : decode cL_law 982 = .ok (.aload_n 0, 1) := by decide +kernel
theorem dL_law_983 : decode cL_law 983 = .ok (.iload_n 3, 1) := by decide +kernel
theorem dL_law_984 : decode cL_law 984 = .ok (.iconst 1, 1) := by decide +kernel
theorem dL_law_985 : decode cL_law 985 = .ok (.iadd, 1) := by decide +kernel
theorem dL_law_986 : decode cL_law 986 = .ok (.iaload, 1) := by decide +kernel
theorem dL_law_987 : decode cL_law 987 = .ok (.aload_n 0, 1) := by decide +kernel
theorem dL_law_988 : decode cL_law 988 = .ok (.iload_n 3, 1) := by decide +kernel
theorem dL_law_989 : decode cL_law 989 = .ok (.iconst 2, 1) := by decide +kernel
theorem dL_law_990 : decode cL_law 990 = .ok (.iadd, 1) := by decide +kernel
theorem dL_law_991 : decode cL_law 991 = .ok (.iaload, 1) := by decide +kernel
theorem dL_law_992 : decode cL_law 992 = .ok (.aload_n 0, 1) := by decide +kernel
theorem dL_law_993 : decode cL_law 993 = .ok (.iload_n 3, 1) := by decide +kernel
theorem dL_law_994 : decode cL_law 994 = .ok (.iconst 3, 1) := by decide +kernel
theorem dL_law_995 : decode cL_law 995 = .ok (.iadd, 1) := by decide +kernel
theorem dL_law_996 : decode cL_law 996 = .ok (.iaload, 1) := by decide +kernel
theorem dL_law_997 : decode cL_law 997 = .ok (.invokevirtual 115, 3) := by decide +kernel
theorem dL_law_1000 : decode cL_law 1000 = .ok (.pop, 1) := by decide +kernel
theorem dL_law_1001 : decode cL_law 1001 = .ok (.goto 432, 3) := by decide +kernel
theorem dL_law_1004 : decode cL_law 1004 = .ok (.aload_n 1, 1) := by decide +kernel
theorem dL_law_1005 : decode cL_law 1005 = .ok (.aload_n 0, 1) := by decide +kernel
theorem dL_law_1006 : decode cL_law 1006 = .ok (.iload_n 3, 1) := by decide +kernel
theorem dL_law_1007 : decode cL_law 1007 = .ok (.iconst 1, 1) := by decide +kernel
theorem dL_law_1008 : decode cL_law 1008 = .ok (.iadd, 1) := by decide +kernel
theorem dL_law_1009 : decode cL_law 1009 = .ok (.iaload, 1) := by decide +kernel
theorem dL_law_1010 : decode cL_law 1010 = .ok (.invokevirtual 116, 3) := by decide +kernel
theorem dL_law_1013 : decode cL_law 1013 = .ok (.pop, 1) := by decide +kernel
theorem dL_law_1014 : decode cL_law 1014 = .ok (.aload_n 2, 1) := by decide +kernel
theorem dL_law_1015 : decode cL_law 1015 = .ok (.aload_n 0, 1) := by decide +kernel
theorem dL_law_1016 : decode cL_law 1016 = .ok (.iload_n 3, 1) := by decide +kernel
theorem dL_law_1017 : decode cL_law 1017 = .ok (.iconst 1, 1) := by decide +kernel
theorem dL_law_1018 : decode cL_law 1018 = .ok (.iadd, 1) := by decide +kernel
theorem dL_law_1019 : decode cL_law 1019 = .ok (.iaload, 1) := by decide +kernel
theorem dL_law_1020 : decode cL_law 1020 = .ok (.invokevirtual 119, 3) := by decide +kernel
theorem dL_law_1023 : decode cL_law 1023 = .ok (.pop, 1) := by decide +kernel
theorem dL_law_1024 : decode cL_law 1024 = .ok (.goto 409, 3) := by decide +kernel
theorem dL_law_1027 : decode cL_law 1027 = .ok (.aload_n 1, 1) := by decide +kernel
theorem dL_law_1028 : decode cL_law 1028 = .ok (.aload_n 0, 1) := by decide +kernel
theorem dL_law_1029 : decode cL_law 1029 = .ok (.iload_n 3, 1) := by decide +kernel
theorem dL_law_1030 : decode cL_law 1030 = .ok (.iconst 1, 1) := by decide +kernel
theorem dL_law_1031 : decode cL_law 1031 = .ok (.iadd, 1) := by decide +kernel
theorem dL_law_1032 : decode cL_law 1032 = .ok (.iaload, 1) := by decide +kernel
theorem dL_law_1033 : decode cL_law 1033 = .ok (.aload_n 0, 1) := by decide +kernel
theorem dL_law_1034 : decode cL_law 1034 = .ok (.iload_n 3, 1) := by decide +kernel
theorem dL_law_1035 : decode cL_law 1035 = .ok (.iconst 2, 1) := by decide +kernel
theorem dL_law_1036 : decode cL_law 1036 = .ok (.iadd, 1) := by decide +kernel
theorem dL_law_1037 : decode cL_law 1037 = .ok (.iaload, 1) := by decide +kernel
theorem dL_law_1038 : decode cL_law 1038 = .ok (.aload_n 0, 1) := by decide +kernel
theorem dL_law_1039 : decode cL_law 1039 = .ok (.iload_n 3, 1) := by decide +kernel
theorem dL_law_1040 : decode cL_law 1040 = .ok (.iconst 3, 1) := by decide +kernel
theorem dL_law_1041 : decode cL_law 1041 = .ok (.iadd, 1) := by decide +kernel
theorem dL_law_1042 : decode cL_law 1042 = .ok (.iaload, 1) := by decide +kernel
theorem dL_law_1043 : decode cL_law 1043 = .ok (.aload_n 0, 1) := by decide +kernel
theorem dL_law_1044 : decode cL_law 1044 = .ok (.iload_n 3, 1) := by decide +kernel
theorem dL_law_1045 : decode cL_law 1045 = .ok (.iconst 4, 1) := by decide +kernel
theorem dL_law_1046 : decode cL_law 1046 = .ok (.iadd, 1) := by decide +kernel
theorem dL_law_1047 : decode cL_law 1047 = .ok (.iaload, 1) := by decide +kernel
theorem dL_law_1048 : decode cL_law 1048 = .ok (.invokevirtual 120, 3) := by decide +kernel
theorem dL_law_1051 : decode cL_law 1051 = .ok (.pop, 1) := by decide +kernel
theorem dL_law_1052 : decode cL_law 1052 = .ok (.aload_n 2, 1) := by decide +kernel
theorem dL_law_1053 : decode cL_law 1053 = .ok (.aload_n 0, 1) := by decide +kernel
theorem dL_law_1054 : decode cL_law 1054 = .ok (.iload_n 3, 1) := by decide +kernel
theorem dL_law_1055 : decode cL_law 1055 = .ok (.iconst 1, 1) := by decide +kernel
theorem dL_law_1056 : decode cL_law 1056 = .ok (.iadd, 1) := by decide +kernel
theorem dL_law_1057 : decode cL_law 1057 = .ok (.iaload, 1) := by decide +kernel
theorem dL_law_1058 : decode cL_law 1058 = .ok (.aload_n 0, 1) := by decide +kernel
theorem dL_law_1059 : decode cL_law 1059 = .ok (.iload_n 3, 1) := by decide +kernel
theorem dL_law_1060 : decode cL_law 1060 = .ok (.iconst 2, 1) := by decide +kernel
theorem dL_law_1061 : decode cL_law 1061 = .ok (.iadd, 1) := by decide +kernel
theorem dL_law_1062 : decode cL_law 1062 = .ok (.iaload, 1) := by decide +kernel
theorem dL_law_1063 : decode cL_law 1063 = .ok (.aload_n 0, 1) := by decide +kernel
theorem dL_law_1064 : decode cL_law 1064 = .ok (.iload_n 3, 1) := by decide +kernel
theorem dL_law_1065 : decode cL_law 1065 = .ok (.iconst 3, 1) := by decide +kernel
theorem dL_law_1066 : decode cL_law 1066 = .ok (.iadd, 1) := by decide +kernel
theorem dL_law_1067 : decode cL_law 1067 = .ok (.iaload, 1) := by decide +kernel
theorem dL_law_1068 : decode cL_law 1068 = .ok (.aload_n 0, 1) := by decide +kernel
theorem dL_law_1069 : decode cL_law 1069 = .ok (.iload_n 3, 1) := by decide +kernel
theorem dL_law_1070 : decode cL_law 1070 = .ok (.iconst 4, 1) := by decide +kernel
theorem dL_law_1071 : decode cL_law 1071 = .ok (.iadd, 1) := by decide +kernel
theorem dL_law_1072 : decode cL_law 1072 = .ok (.iaload, 1) := by decide +kernel
theorem dL_law_1073 : decode cL_law 1073 = .ok (.invokevirtual 123, 3) := by decide +kernel
theorem dL_law_1076 : decode cL_law 1076 = .ok (.pop, 1) := by decide +kernel
theorem dL_law_1077 : decode cL_law 1077 = .ok (.goto 356, 3) := by decide +kernel
theorem dL_law_1080 : decode cL_law 1080 = .ok (.aload_n 1, 1) := by decide +kernel
theorem dL_law_1081 : decode cL_law 1081 = .ok (.aload_n 0, 1) := by decide +kernel
theorem dL_law_1082 : decode cL_law 1082 = .ok (.iload_n 3, 1) := by decide +kernel
theorem dL_law_1083 : decode cL_law 1083 = .ok (.iconst 1, 1) := by decide +kernel
theorem dL_law_1084 : decode cL_law 1084 = .ok (.iadd, 1) := by decide +kernel
theorem dL_law_1085 : decode cL_law 1085 = .ok (.iaload, 1) := by decide +kernel
theorem dL_law_1086 : decode cL_law 1086 = .ok (.aload_n 0, 1) := by decide +kernel
theorem dL_law_1087 : decode cL_law 1087 = .ok (.iload_n 3, 1) := by decide +kernel
theorem dL_law_1088 : decode cL_law 1088 = .ok (.iconst 2, 1) := by decide +kernel
theorem dL_law_1089 : decode cL_law 1089 = .ok (.iadd, 1) := by decide +kernel
theorem dL_law_1090 : decode cL_law 1090 = .ok (.iaload, 1) := by decide +kernel
theorem dL_law_1091 : decode cL_law 1091 = .ok (.aload_n 0, 1) := by decide +kernel
theorem dL_law_1092 : decode cL_law 1092 = .ok (.iload_n 3, 1) := by decide +kernel
theorem dL_law_1093 : decode cL_law 1093 = .ok (.iconst 3, 1) := by decide +kernel
theorem dL_law_1094 : decode cL_law 1094 = .ok (.iadd, 1) := by decide +kernel
theorem dL_law_1095 : decode cL_law 1095 = .ok (.iaload, 1) := by decide +kernel
theorem dL_law_1096 : decode cL_law 1096 = .ok (.invokevirtual 124, 3) := by decide +kernel
theorem dL_law_1099 : decode cL_law 1099 = .ok (.pop, 1) := by decide +kernel
theorem dL_law_1100 : decode cL_law 1100 = .ok (.aload_n 2, 1) := by decide +kernel
theorem dL_law_1101 : decode cL_law 1101 = .ok (.aload_n 0, 1) := by decide +kernel
theorem dL_law_1102 : decode cL_law 1102 = .ok (.iload_n 3, 1) := by decide +kernel
theorem dL_law_1103 : decode cL_law 1103 = .ok (.iconst 1, 1) := by decide +kernel
theorem dL_law_1104 : decode cL_law 1104 = .ok (.iadd, 1) := by decide +kernel
theorem dL_law_1105 : decode cL_law 1105 = .ok (.iaload, 1) := by decide +kernel
theorem dL_law_1106 : decode cL_law 1106 = .ok (.aload_n 0, 1) := by decide +kernel
theorem dL_law_1107 : decode cL_law 1107 = .ok (.iload_n 3, 1) := by decide +kernel
theorem dL_law_1108 : decode cL_law 1108 = .ok (.iconst 2, 1) := by decide +kernel
theorem dL_law_1109 : decode cL_law 1109 = .ok (.iadd, 1) := by decide +kernel
theorem dL_law_1110 : decode cL_law 1110 = .ok (.iaload, 1) := by decide +kernel
theorem dL_law_1111 : decode cL_law 1111 = .ok (.aload_n 0, 1) := by decide +kernel
theorem dL_law_1112 : decode cL_law 1112 = .ok (.iload_n 3, 1) := by decide +kernel
theorem dL_law_1113 : decode cL_law 1113 = .ok (.iconst 3, 1) := by decide +kernel
theorem dL_law_1114 : decode cL_law 1114 = .ok (.iadd, 1) := by decide +kernel
theorem dL_law_1115 : decode cL_law 1115 = .ok (.iaload, 1) := by decide +kernel
theorem dL_law_1116 : decode cL_law 1116 = .ok (.invokevirtual 127, 3) := by decide +kernel
theorem dL_law_1119 : decode cL_law 1119 = .ok (.pop, 1) := by decide +kernel
theorem dL_law_1120 : decode cL_law 1120 = .ok (.goto 313, 3) := by decide +kernel
theorem dL_law_1123 : decode cL_law 1123 = .ok (.aload_n 1, 1) := by decide +kernel
theorem dL_law_1124 : decode cL_law 1124 = .ok (.aload_n 0, 1) := by decide +kernel
theorem dL_law_1125 : decode cL_law 1125 = .ok (.iload_n 3, 1) := by decide +kernel
theorem dL_law_1126 : decode cL_law 1126 = .ok (.iconst 1, 1) := by decide +kernel
theorem dL_law_1127 : decode cL_law 1127 = .ok (.iadd, 1) := by decide +kernel
theorem dL_law_1128 : decode cL_law 1128 = .ok (.iaload, 1) := by decide +kernel
theorem dL_law_1129 : decode cL_law 1129 = .ok (.aload_n 0, 1) := by decide +kernel
theorem dL_law_1130 : decode cL_law 1130 = .ok (.iload_n 3, 1) := by decide +kernel
theorem dL_law_1131 : decode cL_law 1131 = .ok (.iconst 2, 1) := by decide +kernel
theorem dL_law_1132 : decode cL_law 1132 = .ok (.iadd, 1) := by decide +kernel
theorem dL_law_1133 : decode cL_law 1133 = .ok (.iaload, 1) := by decide +kernel
theorem dL_law_1134 : decode cL_law 1134 = .ok (.invokevirtual 128, 3) := by decide +kernel
theorem dL_law_1137 : decode cL_law 1137 = .ok (.pop, 1) := by decide +kernel
theorem dL_law_1138 : decode cL_law 1138 = .ok (.aload_n 2, 1) := by decide +kernel
theorem dL_law_1139 : decode cL_law 1139 = .ok (.aload_n 0, 1) := by decide +kernel
theorem dL_law_1140 : decode cL_law 1140 = .ok (.iload_n 3, 1) := by decide +kernel
theorem dL_law_1141 : decode cL_law 1141 = .ok (.iconst 1, 1) := by decide +kernel
theorem dL_law_1142 : decode cL_law 1142 = .ok (.iadd, 1) := by decide +kernel
theorem dL_law_1143 : decode cL_law 1143 = .ok (.iaload, 1) := by decide +kernel
theorem dL_law_1144 : decode cL_law 1144 = .ok (.aload_n 0, 1) := by decide +kernel
theorem dL_law_1145 : decode cL_law 1145 = .ok (.iload_n 3, 1) := by decide +kernel
theorem dL_law_1146 : decode cL_law 1146 = .ok (.iconst 2, 1) := by decide +kernel
theorem dL_law_1147 : decode cL_law 1147 = .ok (.iadd, 1) := by decide +kernel
theorem dL_law_1148 : decode cL_law 1148 = .ok (.iaload, 1) := by decide +kernel
theorem dL_law_1149 : decode cL_law 1149 = .ok (.invokevirtual 131, 3) := by decide +kernel
theorem dL_law_1152 : decode cL_law 1152 = .ok (.pop, 1) := by decide +kernel
theorem dL_law_1153 : decode cL_law 1153 = .ok (.goto 280, 3) := by decide +kernel
theorem dL_law_1156 : decode cL_law 1156 = .ok (.aload_n 1, 1) := by decide +kernel
theorem dL_law_1157 : decode cL_law 1157 = .ok (.aload_n 0, 1) := by decide +kernel
theorem dL_law_1158 : decode cL_law 1158 = .ok (.iload_n 3, 1) := by decide +kernel
theorem dL_law_1159 : decode cL_law 1159 = .ok (.iconst 1, 1) := by decide +kernel
theorem dL_law_1160 : decode cL_law 1160 = .ok (.iadd, 1) := by decide +kernel
theorem dL_law_1161 : decode cL_law 1161 = .ok (.iaload, 1) := by decide +kernel
theorem dL_law_1162 : decode cL_law 1162 = .ok (.aload_n 0, 1) := by decide +kernel
theorem dL_law_1163 : decode cL_law 1163 = .ok (.iload_n 3, 1) := by decide +kernel
theorem dL_law_1164 : decode cL_law 1164 = .ok (.iconst 2, 1) := by decide +kernel
theorem dL_law_1165 : decode cL_law 1165 = .ok (.iadd, 1) := by decide +kernel
theorem dL_law_1166 : decode cL_law 1166 = .ok (.iaload, 1) := by decide +kernel
theorem dL_law_1167 : decode cL_law 1167 = .ok (.invokevirtual 132, 3) := by decide +kernel
theorem dL_law_1170 : decode cL_law 1170 = .ok (.pop, 1) := by decide +kernel
theorem dL_law_1171 : decode cL_law 1171 = .ok (.aload_n 2, 1) := by decide +kernel
theorem dL_law_1172 : decode cL_law 1172 = .ok (.aload_n 0, 1) := by decide +kernel
theorem dL_law_1173 : decode cL_law 1173 = .ok (.iload_n 3, 1) := by decide +kernel
theorem dL_law_1174 : decode cL_law 1174 = .ok (.iconst 1, 1) := by decide +kernel
theorem dL_law_1175 : decode cL_law 1175 = .ok (.iadd, 1) := by decide +kernel
theorem dL_law_1176 : decode cL_law 1176 = .ok (.iaload, 1) := by decide +kernel
theorem dL_law_1177 : decode cL_law 1177 = .ok (.aload_n 0, 1) := by decide +kernel
theorem dL_law_1178 : decode cL_law 1178 = .ok (.iload_n 3, 1) := by decide +kernel
theorem dL_law_1179 : decode cL_law 1179 = .ok (.iconst 2, 1) := by decide +kernel
theorem dL_law_1180 : decode cL_law 1180 = .ok (.iadd, 1) := by decide +kernel
theorem dL_law_1181 : decode cL_law 1181 = .ok (.iaload, 1) := by decide +kernel
theorem dL_law_1182 : decode cL_law 1182 = .ok (.invokevirtual 135, 3) := by decide +kernel
theorem dL_law_1185 : decode cL_law 1185 = .ok (.pop, 1) := by decide +kernel
theorem dL_law_1186 : decode cL_law 1186 = .ok (.goto 247, 3) := by decide +kernel
theorem dL_law_1189 : decode cL_law 1189 = .ok (.aload_n 1, 1) := by decide +kernel
theorem dL_law_1190 : decode cL_law 1190 = .ok (.aload_n 0, 1) := by decide +kernel
theorem dL_law_1191 : decode cL_law 1191 = .ok (.iload_n 3, 1) := by decide +kernel
theorem dL_law_1192 : decode cL_law 1192 = .ok (.iconst 1, 1) := by decide +kernel
theorem dL_law_1193 : decode cL_law 1193 = .ok (.iadd, 1) := by decide +kernel
theorem dL_law_1194 : decode cL_law 1194 = .ok (.iaload, 1) := by decide +kernel
theorem dL_law_1195 : decode cL_law 1195 = .ok (.aload_n 0, 1) := by decide +kernel
theorem dL_law_1196 : decode cL_law 1196 = .ok (.iload_n 3, 1) := by decide +kernel
theorem dL_law_1197 : decode cL_law 1197 = .ok (.iconst 2, 1) := by decide +kernel
theorem dL_law_1198 : decode cL_law 1198 = .ok (.iadd, 1) := by decide +kernel
theorem dL_law_1199 : decode cL_law 1199 = .ok (.iaload, 1) := by decide +kernel
theorem dL_law_1200 : decode cL_law 1200 = .ok (.aload_n 0, 1) := by decide +kernel
theorem dL_law_1201 : decode cL_law 1201 = .ok (.iload_n 3, 1) := by decide +kernel
theorem dL_law_1202 : decode cL_law 1202 = .ok (.iconst 3, 1) := by decide +kernel
theorem dL_law_1203 : decode cL_law 1203 = .ok (.iadd, 1) := by decide +kernel
theorem dL_law_1204 : decode cL_law 1204 = .ok (.iaload, 1) := by decide +kernel
theorem dL_law_1205 : decode cL_law 1205 = .ok (.invokevirtual 136, 3) := by decide +kernel
theorem dL_law_1208 : decode cL_law 1208 = .ok (.pop, 1) := by decide +kernel
theorem dL_law_1209 : decode cL_law 1209 = .ok (.aload_n 2, 1) := by decide +kernel
theorem dL_law_1210 : decode cL_law 1210 = .ok (.aload_n 0, 1) := by decide +kernel
theorem dL_law_1211 : decode cL_law 1211 = .ok (.iload_n 3, 1) := by decide +kernel
theorem dL_law_1212 : decode cL_law 1212 = .ok (.iconst 1, 1) := by decide +kernel
theorem dL_law_1213 : decode cL_law 1213 = .ok (.iadd, 1) := by decide +kernel
theorem dL_law_1214 : decode cL_law 1214 = .ok (.iaload, 1) := by decide +kernel
theorem dL_law_1215 : decode cL_law 1215 = .ok (.aload_n 0, 1) := by decide +kernel
theorem dL_law_1216 : decode cL_law 1216 = .ok (.iload_n 3, 1) := by decide +kernel
theorem dL_law_1217 : decode cL_law 1217 = .ok (.iconst 2, 1) := by decide +kernel
theorem dL_law_1218 : decode cL_law 1218 = .ok (.iadd, 1) := by decide +kernel
theorem dL_law_1219 : decode cL_law 1219 = .ok (.iaload, 1) := by decide +kernel
theorem dL_law_1220 : decode cL_law 1220 = .ok (.aload_n 0, 1) := by decide +kernel
theorem dL_law_1221 : decode cL_law 1221 = .ok (.iload_n 3, 1) := by decide +kernel
theorem dL_law_1222 : decode cL_law 1222 = .ok (.iconst 3, 1) := by decide +kernel
theorem dL_law_1223 : decode cL_law 1223 = .ok (.iadd, 1) := by decide +kernel
theorem dL_law_1224 : decode cL_law 1224 = .ok (.iaload, 1) := by decide +kernel
theorem dL_law_1225 : decode cL_law 1225 = .ok (.invokevirtual 139, 3) := by decide +kernel
theorem dL_law_1228 : decode cL_law 1228 = .ok (.pop, 1) := by decide +kernel
theorem dL_law_1229 : decode cL_law 1229 = .ok (.goto 204, 3) := by decide +kernel
set_option maxHeartbeats 4000000 in
set_option maxRecDepth 100000 in
/-- rounds -/
theorem law_20 {p : Program} {l : Launch} {e : Env} {s : State} {m : MethodId} {below : List Frame} {meth : Method} {c : Code} {b LN : Nat} {xs : Nat → Int32} (hx : p.tables.exec = Jvm.exec) (hb : c.code = code) (hr : meth.sig.returnType = ret) (hml : c.maxLocals = 4) (hown : s.vm.findClass RL = some m.cls) (hT : ∀ w ∈ TB, w.before #[Value.ref b] s = true) (hX : va_X b LN xs s s.heap) (hbl : b < s.heap.size) (hlocks : meth.locks = false) (hLN : LN ≤ 3072) {dC : Nat → ClassId} {dI : Nat → Nat → Nat} {cy : Nat → ClassId} {L : List Nat} {kap : Nat → Nat} {ad : (Nat → Nat) × (Nat → Nat)} {h0 m0 : Nat} (hK : va_K (dC, dI) vwCl (cyT cy) s) (hN : ∀ q ∈ NLs, va_Nw (.methodLinkNest q.1 q.2.1 q.2.2.1 q.2.2.2) s) (hSTR : STR ad (AL L s.heap.size) s s.heap) (hbA : ¬ AL L s.heap.size b) (hT_h0 : TK L kap h0 11) (hT_m0 : TK L kap m0 12) (hu6 : ∀ b9 c9, TK L kap b9 6 → TK L kap c9 6 → b9 = c9) (hu10 : ∀ b9 c9, TK L kap b9 10 → TK L kap c9 10 → b9 = c9) (hu12 : ∀ b9 c9, TK L kap b9 12 → TK L kap c9 12 → b9 = c9) (hu27 : ∀ b9 c9, TK L kap b9 27 → TK L kap c9 27 → b9 = c9) (hu50 : ∀ b9 c9, TK L kap b9 50 → TK L kap c9 50 → b9 = c9) (hu51 : ∀ b9 c9, TK L kap b9 51 → TK L kap c9 51 → b9 = c9) (hu52 : ∀ b9 c9, TK L kap b9 52 → TK L kap c9 52 → b9 = c9) (hu55 : ∀ b9 c9, TK L kap b9 55 → TK L kap c9 55 → b9 = c9) {i t9 : Nat} (hi : 6 * i + 6 ≤ LN) (kk : ∀ (t9 : Nat) (S : Nat → va_E) (H : Heap) (locs : List Loc) (ls : Array Slot), Ty cy L kap (t9, t9) S → DIs S m0 → JY L kap S → PW dC dI L (AL L s.heap.size) s.heap S H locs → lv_has ls 4 [(3, .int (nI (6 * i))), (2, .ref m0), (1, .ref h0), (0, .ref b)] → W p l e room_1 s m #[Value.ref b] below meth c H locs 152 10885 (lw_Z below #[Value.ref b] s) (F0 m 1433 ls [])) {S : Nat → va_E} {H : Heap} {locs : List Loc} {ls : Array Slot} (hTy : Ty cy L kap (t9, t9) S) (hDI : DIs S m0) (hJY : JY L kap S) (hW : PW dC dI L (AL L s.heap.size) s.heap S H locs) (hl : lv_has ls 4 [(3, .int (nI (6 * i))), (2, .ref m0), (1, .ref h0), (0, .ref b)]) : W p l e room_1 s m #[Value.ref b] below meth c H locs 152 10885 (lw_Z below #[Value.ref b] s) (F0 m 872 ls []) := by
  have hA : ∀ q, s.heap.size ≤ q → AL L s.heap.size q := fun _ h => Or.inr h
  refine lv_aload_n hx hb dL_law_872 rfl (lv_at hl 2 rfl) ?_
  refine lv_aload_n hx hb dL_law_873 rfl (lv_at hl 3 rfl) ?_
  refine lv_iload_n hx hb dL_law_874 rfl (lv_at hl 0 rfl) ?_
  refine lv_iconst (v := 1) hx hb dL_law_875 (by decide) ?_
  refine lv_iadd hx hb dL_law_876 ?_
  refine lv_topi (fun z_1 ez_1 => ?_)
  obtain rfl : z_1 = nI ((6 * i) + 1) := ez_1.trans (nI_add (6 * i) (1))
  refine va_sld hx hb hX hbl hbA hW.2.2 (vp_in_nI (n := (6 * i) + 1) (by omega) (by omega)) dL_law_877 ?_
  refine lv_topi (fun y_2 ey_2 => ?_)
  refine lv_aload_n hx hb dL_law_878 rfl (lv_at hl 3 rfl) ?_
  refine lv_iload_n hx hb dL_law_879 rfl (lv_at hl 0 rfl) ?_
  refine lv_iconst (v := 2) hx hb dL_law_880 (by decide) ?_
  refine lv_iadd hx hb dL_law_881 ?_
  refine lv_topi (fun z_3 ez_3 => ?_)
  obtain rfl : z_3 = nI ((6 * i) + 2) := ez_3.trans (nI_add (6 * i) (2))
  refine va_sld hx hb hX hbl hbA hW.2.2 (vp_in_nI (n := (6 * i) + 2) (by omega) (by omega)) dL_law_882 ?_
  refine lv_topi (fun y_4 ey_4 => ?_)
  obtain ⟨_, _, _, _, _, _, _, _, _, _, _, _, _, hS_5, _, _, _, _, _, _, _, _, _, _, _, _⟩ := hTy.k11 hT_h0
  refine pl_calli (va_runV (As := [.int y_2, .int y_4]) (rest := []) ⟨hx, hb, hml, hown, hT⟩ (k_rounds l dC dI cy L kap (t9, t9) S H.size h0 y_2 y_4 hTy hT_h0) (cwV 2 hT (gV w934 w935 w936 w1 w937) rfl rfl rfl (by decide +kernel) ⟨(Nat.le_of_ble_eq_true rfl), (Nat.le_of_ble_eq_true rfl)⟩) ⟨pcN.blind, pl_recv hK hW hT_h0.1 hS_5 rfl, pcN.pre hW.1 hK hW.2.1 hN (fun q h => absurd h List.not_mem_nil)⟩ rfl rfl hl.1 rfl (lv_room (Nat.le_of_ble_eq_true rfl)) dL_law_883 ⟨(Nat.le_of_ble_eq_true rfl), (Nat.le_of_ble_eq_true rfl)⟩) hW (fun q h => PW_A hW h) hA (fun r_6 S_7 H locs hrel hW => ?_)
  have hTy0 := hTy
  obtain ⟨hTy, hF1⟩ := hrel
  have hDI : DIs S_7 m0 := ⟨DI_0 hTy0 hTy hT_m0 hu50 hF1 (by decide) hDI.1, DI_2 hTy0 hTy hT_m0 hu52 hF1 (by decide) hDI.2⟩
  have hJY := JY_fr hF1 (by decide) (by decide) (by decide) (by decide) hJY
  refine lv_pop hx hb dL_law_886 rfl ?_
  refine lv_aload_n hx hb dL_law_887 rfl (lv_at hl 1 rfl) ?_
  refine lv_aload_n hx hb dL_law_888 rfl (lv_at hl 3 rfl) ?_
  refine lv_iload_n hx hb dL_law_889 rfl (lv_at hl 0 rfl) ?_
  refine lv_iconst (v := 1) hx hb dL_law_890 (by decide) ?_
  refine lv_iadd hx hb dL_law_891 ?_
  refine lv_topi (fun z_8 ez_8 => ?_)
  obtain rfl : z_8 = nI ((6 * i) + 1) := ez_8.trans (nI_add (6 * i) (1))
  refine va_sld hx hb hX hbl hbA hW.2.2 (vp_in_nI (n := (6 * i) + 1) (by omega) (by omega)) dL_law_892 ?_
  refine lv_topi (fun y_9 ey_9 => ?_)
  obtain rfl : y_2 = y_9 := ey_2.trans ey_9.symm
  refine lv_aload_n hx hb dL_law_893 rfl (lv_at hl 3 rfl) ?_
  refine lv_iload_n hx hb dL_law_894 rfl (lv_at hl 0 rfl) ?_
  refine lv_iconst (v := 2) hx hb dL_law_895 (by decide) ?_
  refine lv_iadd hx hb dL_law_896 ?_
  refine lv_topi (fun z_10 ez_10 => ?_)
  obtain rfl : z_10 = nI ((6 * i) + 2) := ez_10.trans (nI_add (6 * i) (2))
  refine va_sld hx hb hX hbl hbA hW.2.2 (vp_in_nI (n := (6 * i) + 2) (by omega) (by omega)) dL_law_897 ?_
  refine lv_topi (fun y_11 ey_11 => ?_)
  obtain rfl : y_4 = y_11 := ey_4.trans ey_11.symm
  obtain ⟨_, _, _, _, _, _, _, _, _, _, _, _, _, _, _, _, _, _, _, _, _, _, _, _, _, _, _, _, _, _, _, hS_12, _, _, _, _, _, _, _, _, _, _, _, _, _, _, _, _, _, _, _, _, _, _, _, _, _, _, _⟩ := hTy.k12 hT_m0
  refine pl_calli (va_runV (As := [.int y_2, .int y_4]) (rest := []) ⟨hx, hb, hml, hown, hT⟩ (m_rounds l dC dI cy L kap (t9, t9) S_7 H.size m0 y_2 y_4 hTy hT_m0) (cwV 2 hT (gV w1422 w1423 w1424 w14 w1425) rfl rfl rfl (by decide +kernel) ⟨(Nat.le_of_ble_eq_true rfl), (Nat.le_of_ble_eq_true rfl)⟩) ⟨pcN.blind, pl_recv hK hW hT_m0.1 hS_12 rfl, pcN.pre hW.1 hK hW.2.1 hN (fun q h => absurd h List.not_mem_nil)⟩ rfl rfl hl.1 rfl (lv_room (Nat.le_of_ble_eq_true rfl)) dL_law_898 ⟨(Nat.le_of_ble_eq_true rfl), (Nat.le_of_ble_eq_true rfl)⟩) hW (fun q h => PW_A hW h) hA (fun r_13 S_14 H locs hrel hW => ?_)
  have hTy0 := hTy
  obtain ⟨hTy, hF1⟩ := hrel
  have hDI : DIs S_14 m0 := ⟨DI_0 hTy0 hTy hT_m0 hu50 hF1 (by decide) hDI.1, DI_2 hTy0 hTy hT_m0 hu52 hF1 (by decide) hDI.2⟩
  have hJY := JY_fr hF1 (by decide) (by decide) (by decide) (by decide) hJY
  refine lv_pop hx hb dL_law_901 rfl ?_
  refine lv_goto (tgt := 1433) hx hb dL_law_902 (by decide) ?_
  exact kk t9 S_14 H locs ls (by first | exact hTy) hDI hJY hW (lv_sub hl [0, 1, 2, 3] rfl)

set_option maxHeartbeats 4000000 in
set_option maxRecDepth 100000 in
/-- chain -/
theorem law_21 {p : Program} {l : Launch} {e : Env} {s : State} {m : MethodId} {below : List Frame} {meth : Method} {c : Code} {b LN : Nat} {xs : Nat → Int32} (hx : p.tables.exec = Jvm.exec) (hb : c.code = code) (hr : meth.sig.returnType = ret) (hml : c.maxLocals = 4) (hown : s.vm.findClass RL = some m.cls) (hT : ∀ w ∈ TB, w.before #[Value.ref b] s = true) (hX : va_X b LN xs s s.heap) (hbl : b < s.heap.size) (hlocks : meth.locks = false) (hLN : LN ≤ 3072) {dC : Nat → ClassId} {dI : Nat → Nat → Nat} {cy : Nat → ClassId} {L : List Nat} {kap : Nat → Nat} {ad : (Nat → Nat) × (Nat → Nat)} {h0 m0 : Nat} (hK : va_K (dC, dI) vwCl (cyT cy) s) (hN : ∀ q ∈ NLs, va_Nw (.methodLinkNest q.1 q.2.1 q.2.2.1 q.2.2.2) s) (hSTR : STR ad (AL L s.heap.size) s s.heap) (hbA : ¬ AL L s.heap.size b) (hT_h0 : TK L kap h0 11) (hT_m0 : TK L kap m0 12) (hu6 : ∀ b9 c9, TK L kap b9 6 → TK L kap c9 6 → b9 = c9) (hu10 : ∀ b9 c9, TK L kap b9 10 → TK L kap c9 10 → b9 = c9) (hu12 : ∀ b9 c9, TK L kap b9 12 → TK L kap c9 12 → b9 = c9) (hu27 : ∀ b9 c9, TK L kap b9 27 → TK L kap c9 27 → b9 = c9) (hu50 : ∀ b9 c9, TK L kap b9 50 → TK L kap c9 50 → b9 = c9) (hu51 : ∀ b9 c9, TK L kap b9 51 → TK L kap c9 51 → b9 = c9) (hu52 : ∀ b9 c9, TK L kap b9 52 → TK L kap c9 52 → b9 = c9) (hu55 : ∀ b9 c9, TK L kap b9 55 → TK L kap c9 55 → b9 = c9) {i t9 : Nat} (hi : 6 * i + 6 ≤ LN) (kk : ∀ (t9 : Nat) (S : Nat → va_E) (H : Heap) (locs : List Loc) (ls : Array Slot), Ty cy L kap (t9, t9) S → DIs S m0 → JY L kap S → PW dC dI L (AL L s.heap.size) s.heap S H locs → lv_has ls 4 [(3, .int (nI (6 * i))), (2, .ref m0), (1, .ref h0), (0, .ref b)] → W p l e room_1 s m #[Value.ref b] below meth c H locs 152 10885 (lw_Z below #[Value.ref b] s) (F0 m 1433 ls [])) {S : Nat → va_E} {H : Heap} {locs : List Loc} {ls : Array Slot} (hTy : Ty cy L kap (t9, t9) S) (hDI : DIs S m0) (hJY : JY L kap S) (hW : PW dC dI L (AL L s.heap.size) s.heap S H locs) (hl : lv_has ls 4 [(3, .int (nI (6 * i))), (2, .ref m0), (1, .ref h0), (0, .ref b)]) : W p l e room_1 s m #[Value.ref b] below meth c H locs 152 10885 (lw_Z below #[Value.ref b] s) (F0 m 905 ls []) := by
  have hA : ∀ q, s.heap.size ≤ q → AL L s.heap.size q := fun _ h => Or.inr h
  refine lv_aload_n hx hb dL_law_905 rfl (lv_at hl 2 rfl) ?_
  refine lv_aload_n hx hb dL_law_906 rfl (lv_at hl 3 rfl) ?_
  refine lv_iload_n hx hb dL_law_907 rfl (lv_at hl 0 rfl) ?_
  refine lv_iconst (v := 1) hx hb dL_law_908 (by decide) ?_
  refine lv_iadd hx hb dL_law_909 ?_
  refine lv_topi (fun z_1 ez_1 => ?_)
  obtain rfl : z_1 = nI ((6 * i) + 1) := ez_1.trans (nI_add (6 * i) (1))
  refine va_sld hx hb hX hbl hbA hW.2.2 (vp_in_nI (n := (6 * i) + 1) (by omega) (by omega)) dL_law_910 ?_
  refine lv_topi (fun y_2 ey_2 => ?_)
  refine lv_aload_n hx hb dL_law_911 rfl (lv_at hl 3 rfl) ?_
  refine lv_iload_n hx hb dL_law_912 rfl (lv_at hl 0 rfl) ?_
  refine lv_iconst (v := 2) hx hb dL_law_913 (by decide) ?_
  refine lv_iadd hx hb dL_law_914 ?_
  refine lv_topi (fun z_3 ez_3 => ?_)
  obtain rfl : z_3 = nI ((6 * i) + 2) := ez_3.trans (nI_add (6 * i) (2))
  refine va_sld hx hb hX hbl hbA hW.2.2 (vp_in_nI (n := (6 * i) + 2) (by omega) (by omega)) dL_law_915 ?_
  refine lv_topi (fun y_4 ey_4 => ?_)
  obtain ⟨_, _, _, _, _, _, _, _, _, _, _, _, _, hS_5, _, _, _, _, _, _, _, _, _, _, _, _⟩ := hTy.k11 hT_h0
  refine pl_calli (va_runV (As := [.int y_2, .int y_4]) (rest := []) ⟨hx, hb, hml, hown, hT⟩ (k_chain l dC dI cy L kap (t9, t9) S H.size h0 y_2 y_4 hTy hT_h0) (cwV 2 hT (gV w938 w939 w940 w1 w941) rfl rfl rfl (by decide +kernel) ⟨(Nat.le_of_ble_eq_true rfl), (Nat.le_of_ble_eq_true rfl)⟩) ⟨pcN.blind, pl_recv hK hW hT_h0.1 hS_5 rfl, pcN.pre hW.1 hK hW.2.1 hN (fun q h => absurd h List.not_mem_nil)⟩ rfl rfl hl.1 rfl (lv_room (Nat.le_of_ble_eq_true rfl)) dL_law_916 ⟨(Nat.le_of_ble_eq_true rfl), (Nat.le_of_ble_eq_true rfl)⟩) hW (fun q h => PW_A hW h) hA (fun r_6 S_7 H locs hrel hW => ?_)
  have hTy0 := hTy
  obtain ⟨hTy, hF1⟩ := hrel
  have hDI : DIs S_7 m0 := ⟨DI_0 hTy0 hTy hT_m0 hu50 hF1 (by decide) hDI.1, DI_2 hTy0 hTy hT_m0 hu52 hF1 (by decide) hDI.2⟩
  have hJY := JY_fr hF1 (by decide) (by decide) (by decide) (by decide) hJY
  refine lv_pop hx hb dL_law_919 rfl ?_
  refine lv_aload_n hx hb dL_law_920 rfl (lv_at hl 1 rfl) ?_
  refine lv_aload_n hx hb dL_law_921 rfl (lv_at hl 3 rfl) ?_
  refine lv_iload_n hx hb dL_law_922 rfl (lv_at hl 0 rfl) ?_
  refine lv_iconst (v := 1) hx hb dL_law_923 (by decide) ?_
  refine lv_iadd hx hb dL_law_924 ?_
  refine lv_topi (fun z_8 ez_8 => ?_)
  obtain rfl : z_8 = nI ((6 * i) + 1) := ez_8.trans (nI_add (6 * i) (1))
  refine va_sld hx hb hX hbl hbA hW.2.2 (vp_in_nI (n := (6 * i) + 1) (by omega) (by omega)) dL_law_925 ?_
  refine lv_topi (fun y_9 ey_9 => ?_)
  obtain rfl : y_2 = y_9 := ey_2.trans ey_9.symm
  refine lv_aload_n hx hb dL_law_926 rfl (lv_at hl 3 rfl) ?_
  refine lv_iload_n hx hb dL_law_927 rfl (lv_at hl 0 rfl) ?_
  refine lv_iconst (v := 2) hx hb dL_law_928 (by decide) ?_
  refine lv_iadd hx hb dL_law_929 ?_
  refine lv_topi (fun z_10 ez_10 => ?_)
  obtain rfl : z_10 = nI ((6 * i) + 2) := ez_10.trans (nI_add (6 * i) (2))
  refine va_sld hx hb hX hbl hbA hW.2.2 (vp_in_nI (n := (6 * i) + 2) (by omega) (by omega)) dL_law_930 ?_
  refine lv_topi (fun y_11 ey_11 => ?_)
  obtain rfl : y_4 = y_11 := ey_4.trans ey_11.symm
  obtain ⟨_, _, _, _, _, _, _, _, _, _, _, _, _, _, _, _, _, _, _, _, _, _, _, _, _, _, _, _, _, _, _, hS_12, _, _, _, _, _, _, _, _, _, _, _, _, _, _, _, _, _, _, _, _, _, _, _, _, _, _, _⟩ := hTy.k12 hT_m0
  refine pl_calli (va_runV (As := [.int y_2, .int y_4]) (rest := []) ⟨hx, hb, hml, hown, hT⟩ (m_chain l dC dI cy L kap (t9, t9) S_7 H.size m0 y_2 y_4 hTy hT_m0 hDI.1) (cwV 2 hT (gV w1427 w1428 w1429 w14 w1430) rfl rfl rfl (by decide +kernel) ⟨(Nat.le_of_ble_eq_true rfl), (Nat.le_of_ble_eq_true rfl)⟩) ⟨pcN.blind, pl_recv hK hW hT_m0.1 hS_12 rfl, pcN.pre hW.1 hK hW.2.1 hN (fun q h => absurd h List.not_mem_nil)⟩ rfl rfl hl.1 rfl (lv_room (Nat.le_of_ble_eq_true rfl)) dL_law_931 ⟨(Nat.le_of_ble_eq_true rfl), (Nat.le_of_ble_eq_true rfl)⟩) hW (fun q h => PW_A hW h) hA (fun r_13 S_14 H locs hrel hW => ?_)
  have hTy0 := hTy
  obtain ⟨hTy, hF1⟩ := hrel
  have hDI : DIs S_14 m0 := ⟨DI_0 hTy0 hTy hT_m0 hu50 hF1 (by decide) hDI.1, DI_2 hTy0 hTy hT_m0 hu52 hF1 (by decide) hDI.2⟩
  have hJY := JY_fr hF1 (by decide) (by decide) (by decide) (by decide) hJY
  refine lv_pop hx hb dL_law_934 rfl ?_
  refine lv_goto (tgt := 1433) hx hb dL_law_935 (by decide) ?_
  exact kk t9 S_14 H locs ls (by first | exact hTy) hDI hJY hW (lv_sub hl [0, 1, 2, 3] rfl)

set_option maxHeartbeats 4000000 in
set_option maxRecDepth 100000 in
/-- least -/
theorem law_22 {p : Program} {l : Launch} {e : Env} {s : State} {m : MethodId} {below : List Frame} {meth : Method} {c : Code} {b LN : Nat} {xs : Nat → Int32} (hx : p.tables.exec = Jvm.exec) (hb : c.code = code) (hr : meth.sig.returnType = ret) (hml : c.maxLocals = 4) (hown : s.vm.findClass RL = some m.cls) (hT : ∀ w ∈ TB, w.before #[Value.ref b] s = true) (hX : va_X b LN xs s s.heap) (hbl : b < s.heap.size) (hlocks : meth.locks = false) (hLN : LN ≤ 3072) {dC : Nat → ClassId} {dI : Nat → Nat → Nat} {cy : Nat → ClassId} {L : List Nat} {kap : Nat → Nat} {ad : (Nat → Nat) × (Nat → Nat)} {h0 m0 : Nat} (hK : va_K (dC, dI) vwCl (cyT cy) s) (hN : ∀ q ∈ NLs, va_Nw (.methodLinkNest q.1 q.2.1 q.2.2.1 q.2.2.2) s) (hSTR : STR ad (AL L s.heap.size) s s.heap) (hbA : ¬ AL L s.heap.size b) (hT_h0 : TK L kap h0 11) (hT_m0 : TK L kap m0 12) (hu6 : ∀ b9 c9, TK L kap b9 6 → TK L kap c9 6 → b9 = c9) (hu10 : ∀ b9 c9, TK L kap b9 10 → TK L kap c9 10 → b9 = c9) (hu12 : ∀ b9 c9, TK L kap b9 12 → TK L kap c9 12 → b9 = c9) (hu27 : ∀ b9 c9, TK L kap b9 27 → TK L kap c9 27 → b9 = c9) (hu50 : ∀ b9 c9, TK L kap b9 50 → TK L kap c9 50 → b9 = c9) (hu51 : ∀ b9 c9, TK L kap b9 51 → TK L kap c9 51 → b9 = c9) (hu52 : ∀ b9 c9, TK L kap b9 52 → TK L kap c9 52 → b9 = c9) (hu55 : ∀ b9 c9, TK L kap b9 55 → TK L kap c9 55 → b9 = c9) {i t9 : Nat} (hi : 6 * i + 6 ≤ LN) (kk : ∀ (t9 : Nat) (S : Nat → va_E) (H : Heap) (locs : List Loc) (ls : Array Slot), Ty cy L kap (t9, t9) S → DIs S m0 → JY L kap S → PW dC dI L (AL L s.heap.size) s.heap S H locs → lv_has ls 4 [(3, .int (nI (6 * i))), (2, .ref m0), (1, .ref h0), (0, .ref b)] → W p l e room_1 s m #[Value.ref b] below meth c H locs 152 10885 (lw_Z below #[Value.ref b] s) (F0 m 1433 ls [])) {S : Nat → va_E} {H : Heap} {locs : List Loc} {ls : Array Slot} (hTy : Ty cy L kap (t9, t9) S) (hDI : DIs S m0) (hJY : JY L kap S) (hW : PW dC dI L (AL L s.heap.size) s.heap S H locs) (hl : lv_has ls 4 [(3, .int (nI (6 * i))), (2, .ref m0), (1, .ref h0), (0, .ref b)]) : W p l e room_1 s m #[Value.ref b] below meth c H locs 152 10885 (lw_Z below #[Value.ref b] s) (F0 m 938 ls []) := by
  have hA : ∀ q, s.heap.size ≤ q → AL L s.heap.size q := fun _ h => Or.inr h
  refine lv_aload_n hx hb dL_law_938 rfl (lv_at hl 2 rfl) ?_
  refine lv_aload_n hx hb dL_law_939 rfl (lv_at hl 3 rfl) ?_
  refine lv_iload_n hx hb dL_law_940 rfl (lv_at hl 0 rfl) ?_
  refine lv_iconst (v := 1) hx hb dL_law_941 (by decide) ?_
  refine lv_iadd hx hb dL_law_942 ?_
  refine lv_topi (fun z_1 ez_1 => ?_)
  obtain rfl : z_1 = nI ((6 * i) + 1) := ez_1.trans (nI_add (6 * i) (1))
  refine va_sld hx hb hX hbl hbA hW.2.2 (vp_in_nI (n := (6 * i) + 1) (by omega) (by omega)) dL_law_943 ?_
  refine lv_topi (fun y_2 ey_2 => ?_)
  obtain ⟨_, _, _, _, _, _, _, _, _, _, _, _, _, hS_3, _, _, _, _, _, _, _, _, _, _, _, _⟩ := hTy.k11 hT_h0
  refine pl_calli (va_runV (As := [.int y_2]) (rest := []) ⟨hx, hb, hml, hown, hT⟩ (k_least l dC dI cy L kap (t9, t9) S H.size h0 y_2 hTy hT_h0) (cwV 1 hT (gV w959 w960 w961 w1 w962) rfl rfl rfl (by decide +kernel) ⟨(Nat.le_of_ble_eq_true rfl), (Nat.le_of_ble_eq_true rfl)⟩) ⟨pcN.blind, pl_recv hK hW hT_h0.1 hS_3 rfl, pcN.pre hW.1 hK hW.2.1 hN (fun q h => absurd h List.not_mem_nil)⟩ rfl rfl hl.1 rfl (lv_room (Nat.le_of_ble_eq_true rfl)) dL_law_944 ⟨(Nat.le_of_ble_eq_true rfl), (Nat.le_of_ble_eq_true rfl)⟩) hW (fun q h => PW_A hW h) hA (fun r_4 S_5 H locs hrel hW => ?_)
  have hTy0 := hTy
  obtain ⟨hTy, hF1⟩ := hrel
  have hDI : DIs S_5 m0 := ⟨DI_0 hTy0 hTy hT_m0 hu50 hF1 (by decide) hDI.1, DI_2 hTy0 hTy hT_m0 hu52 hF1 (by decide) hDI.2⟩
  have hJY := JY_fr hF1 (by decide) (by decide) (by decide) (by decide) hJY
  refine lv_pop hx hb dL_law_947 rfl ?_
  refine lv_aload_n hx hb dL_law_948 rfl (lv_at hl 1 rfl) ?_
  refine lv_aload_n hx hb dL_law_949 rfl (lv_at hl 3 rfl) ?_
  refine lv_iload_n hx hb dL_law_950 rfl (lv_at hl 0 rfl) ?_
  refine lv_iconst (v := 1) hx hb dL_law_951 (by decide) ?_
  refine lv_iadd hx hb dL_law_952 ?_
  refine lv_topi (fun z_6 ez_6 => ?_)
  obtain rfl : z_6 = nI ((6 * i) + 1) := ez_6.trans (nI_add (6 * i) (1))
  refine va_sld hx hb hX hbl hbA hW.2.2 (vp_in_nI (n := (6 * i) + 1) (by omega) (by omega)) dL_law_953 ?_
  refine lv_topi (fun y_7 ey_7 => ?_)
  obtain rfl : y_2 = y_7 := ey_2.trans ey_7.symm
  obtain ⟨_, _, _, _, _, _, _, _, _, _, _, _, _, _, _, _, _, _, _, _, _, _, _, _, _, _, _, _, _, _, _, hS_8, _, _, _, _, _, _, _, _, _, _, _, _, _, _, _, _, _, _, _, _, _, _, _, _, _, _, _⟩ := hTy.k12 hT_m0
  refine pl_calli (va_runV (As := [.int y_2]) (rest := []) ⟨hx, hb, hml, hown, hT⟩ (m_least l dC dI cy L kap (t9, t9) S_5 H.size m0 y_2 hTy hT_m0) (cwV 1 hT (gV w1443 w1444 w1445 w14 w1446) rfl rfl rfl (by decide +kernel) ⟨(Nat.le_of_ble_eq_true rfl), (Nat.le_of_ble_eq_true rfl)⟩) ⟨pcN.blind, pl_recv hK hW hT_m0.1 hS_8 rfl, pcN.pre hW.1 hK hW.2.1 hN (fun q h => absurd h List.not_mem_nil)⟩ rfl rfl hl.1 rfl (lv_room (Nat.le_of_ble_eq_true rfl)) dL_law_954 ⟨(Nat.le_of_ble_eq_true rfl), (Nat.le_of_ble_eq_true rfl)⟩) hW (fun q h => PW_A hW h) hA (fun r_9 S_10 H locs hrel hW => ?_)
  have hTy0 := hTy
  obtain ⟨hTy, hF1⟩ := hrel
  have hDI : DIs S_10 m0 := ⟨DI_0 hTy0 hTy hT_m0 hu50 hF1 (by decide) hDI.1, DI_2 hTy0 hTy hT_m0 hu52 hF1 (by decide) hDI.2⟩
  have hJY := JY_fr hF1 (by decide) (by decide) (by decide) (by decide) hJY
  refine lv_pop hx hb dL_law_957 rfl ?_
  refine lv_goto (tgt := 1433) hx hb dL_law_958 (by decide) ?_
  exact kk t9 S_10 H locs ls (by first | exact hTy) hDI hJY hW (lv_sub hl [0, 1, 2, 3] rfl)

set_option maxHeartbeats 4000000 in
set_option maxRecDepth 100000 in
/-- pressed -/
theorem law_23 {p : Program} {l : Launch} {e : Env} {s : State} {m : MethodId} {below : List Frame} {meth : Method} {c : Code} {b LN : Nat} {xs : Nat → Int32} (hx : p.tables.exec = Jvm.exec) (hb : c.code = code) (hr : meth.sig.returnType = ret) (hml : c.maxLocals = 4) (hown : s.vm.findClass RL = some m.cls) (hT : ∀ w ∈ TB, w.before #[Value.ref b] s = true) (hX : va_X b LN xs s s.heap) (hbl : b < s.heap.size) (hlocks : meth.locks = false) (hLN : LN ≤ 3072) {dC : Nat → ClassId} {dI : Nat → Nat → Nat} {cy : Nat → ClassId} {L : List Nat} {kap : Nat → Nat} {ad : (Nat → Nat) × (Nat → Nat)} {h0 m0 : Nat} (hK : va_K (dC, dI) vwCl (cyT cy) s) (hN : ∀ q ∈ NLs, va_Nw (.methodLinkNest q.1 q.2.1 q.2.2.1 q.2.2.2) s) (hSTR : STR ad (AL L s.heap.size) s s.heap) (hbA : ¬ AL L s.heap.size b) (hT_h0 : TK L kap h0 11) (hT_m0 : TK L kap m0 12) (hu6 : ∀ b9 c9, TK L kap b9 6 → TK L kap c9 6 → b9 = c9) (hu10 : ∀ b9 c9, TK L kap b9 10 → TK L kap c9 10 → b9 = c9) (hu12 : ∀ b9 c9, TK L kap b9 12 → TK L kap c9 12 → b9 = c9) (hu27 : ∀ b9 c9, TK L kap b9 27 → TK L kap c9 27 → b9 = c9) (hu50 : ∀ b9 c9, TK L kap b9 50 → TK L kap c9 50 → b9 = c9) (hu51 : ∀ b9 c9, TK L kap b9 51 → TK L kap c9 51 → b9 = c9) (hu52 : ∀ b9 c9, TK L kap b9 52 → TK L kap c9 52 → b9 = c9) (hu55 : ∀ b9 c9, TK L kap b9 55 → TK L kap c9 55 → b9 = c9) {i t9 : Nat} (hi : 6 * i + 6 ≤ LN) (kk : ∀ (t9 : Nat) (S : Nat → va_E) (H : Heap) (locs : List Loc) (ls : Array Slot), Ty cy L kap (t9, t9) S → DIs S m0 → JY L kap S → PW dC dI L (AL L s.heap.size) s.heap S H locs → lv_has ls 4 [(3, .int (nI (6 * i))), (2, .ref m0), (1, .ref h0), (0, .ref b)] → W p l e room_1 s m #[Value.ref b] below meth c H locs 152 10885 (lw_Z below #[Value.ref b] s) (F0 m 1433 ls [])) {S : Nat → va_E} {H : Heap} {locs : List Loc} {ls : Array Slot} (hTy : Ty cy L kap (t9, t9) S) (hDI : DIs S m0) (hJY : JY L kap S) (hW : PW dC dI L (AL L s.heap.size) s.heap S H locs) (hl : lv_has ls 4 [(3, .int (nI (6 * i))), (2, .ref m0), (1, .ref h0), (0, .ref b)]) : W p l e room_1 s m #[Value.ref b] below meth c H locs 152 10885 (lw_Z below #[Value.ref b] s) (F0 m 961 ls []) := by
  have hA : ∀ q, s.heap.size ≤ q → AL L s.heap.size q := fun _ h => Or.inr h
  refine lv_aload_n hx hb dL_law_961 rfl (lv_at hl 2 rfl) ?_
  refine lv_aload_n hx hb dL_law_962 rfl (lv_at hl 3 rfl) ?_
  refine lv_iload_n hx hb dL_law_963 rfl (lv_at hl 0 rfl) ?_
  refine lv_iconst (v := 1) hx hb dL_law_964 (by decide) ?_
  refine lv_iadd hx hb dL_law_965 ?_
  refine lv_topi (fun z_1 ez_1 => ?_)
  obtain rfl : z_1 = nI ((6 * i) + 1) := ez_1.trans (nI_add (6 * i) (1))
  refine va_sld hx hb hX hbl hbA hW.2.2 (vp_in_nI (n := (6 * i) + 1) (by omega) (by omega)) dL_law_966 ?_
  refine lv_topi (fun y_2 ey_2 => ?_)
  refine lv_aload_n hx hb dL_law_967 rfl (lv_at hl 3 rfl) ?_
  refine lv_iload_n hx hb dL_law_968 rfl (lv_at hl 0 rfl) ?_
  refine lv_iconst (v := 2) hx hb dL_law_969 (by decide) ?_
  refine lv_iadd hx hb dL_law_970 ?_
  refine lv_topi (fun z_3 ez_3 => ?_)
  obtain rfl : z_3 = nI ((6 * i) + 2) := ez_3.trans (nI_add (6 * i) (2))
  refine va_sld hx hb hX hbl hbA hW.2.2 (vp_in_nI (n := (6 * i) + 2) (by omega) (by omega)) dL_law_971 ?_
  refine lv_topi (fun y_4 ey_4 => ?_)
  refine lv_aload_n hx hb dL_law_972 rfl (lv_at hl 3 rfl) ?_
  refine lv_iload_n hx hb dL_law_973 rfl (lv_at hl 0 rfl) ?_
  refine lv_iconst (v := 3) hx hb dL_law_974 (by decide) ?_
  refine lv_iadd hx hb dL_law_975 ?_
  refine lv_topi (fun z_5 ez_5 => ?_)
  obtain rfl : z_5 = nI ((6 * i) + 3) := ez_5.trans (nI_add (6 * i) (3))
  refine va_sld hx hb hX hbl hbA hW.2.2 (vp_in_nI (n := (6 * i) + 3) (by omega) (by omega)) dL_law_976 ?_
  refine lv_topi (fun y_6 ey_6 => ?_)
  obtain ⟨_, _, _, _, _, _, _, _, _, _, _, _, _, hS_7, _, _, _, _, _, _, _, _, _, _, _, _⟩ := hTy.k11 hT_h0
  refine pl_calli (va_runV (As := [.int y_2, .int y_4, .int y_6]) (rest := []) ⟨hx, hb, hml, hown, hT⟩ (k_pressed l dC dI cy L kap (t9, t9) S H.size h0 y_2 y_4 y_6 hTy hT_h0) (cwV 3 hT (gV w963 w964 w965 w1 w966) rfl rfl rfl (by decide +kernel) ⟨(Nat.le_of_ble_eq_true rfl), (Nat.le_of_ble_eq_true rfl)⟩) ⟨pcN.blind, pl_recv hK hW hT_h0.1 hS_7 rfl, pcN.pre hW.1 hK hW.2.1 hN (fun q h => absurd h List.not_mem_nil)⟩ rfl rfl hl.1 rfl (lv_room (Nat.le_of_ble_eq_true rfl)) dL_law_977 ⟨(Nat.le_of_ble_eq_true rfl), (Nat.le_of_ble_eq_true rfl)⟩) hW (fun q h => PW_A hW h) hA (fun r_8 S_9 H locs hrel hW => ?_)
  have hTy0 := hTy
  obtain ⟨hTy, hF1⟩ := hrel
  have hDI : DIs S_9 m0 := ⟨DI_0 hTy0 hTy hT_m0 hu50 hF1 (by decide) hDI.1, DI_2 hTy0 hTy hT_m0 hu52 hF1 (by decide) hDI.2⟩
  have hJY := JY_fr hF1 (by decide) (by decide) (by decide) (by decide) hJY
  refine lv_pop hx hb dL_law_980 rfl ?_
  refine lv_aload_n hx hb dL_law_981 rfl (lv_at hl 1 rfl) ?_
  refine lv_aload_n hx hb dL_law_982 rfl (lv_at hl 3 rfl) ?_
  refine lv_iload_n hx hb dL_law_983 rfl (lv_at hl 0 rfl) ?_
  refine lv_iconst (v := 1) hx hb dL_law_984 (by decide) ?_
  refine lv_iadd hx hb dL_law_985 ?_
  refine lv_topi (fun z_10 ez_10 => ?_)
  obtain rfl : z_10 = nI ((6 * i) + 1) := ez_10.trans (nI_add (6 * i) (1))
  refine va_sld hx hb hX hbl hbA hW.2.2 (vp_in_nI (n := (6 * i) + 1) (by omega) (by omega)) dL_law_986 ?_
  refine lv_topi (fun y_11 ey_11 => ?_)
  obtain rfl : y_2 = y_11 := ey_2.trans ey_11.symm
  refine lv_aload_n hx hb dL_law_987 rfl (lv_at hl 3 rfl) ?_
  refine lv_iload_n hx hb dL_law_988 rfl (lv_at hl 0 rfl) ?_
  refine lv_iconst (v := 2) hx hb dL_law_989 (by decide) ?_
  refine lv_iadd hx hb dL_law_990 ?_
  refine lv_topi (fun z_12 ez_12 => ?_)
  obtain rfl : z_12 = nI ((6 * i) + 2) := ez_12.trans (nI_add (6 * i) (2))
  refine va_sld hx hb hX hbl hbA hW.2.2 (vp_in_nI (n := (6 * i) + 2) (by omega) (by omega)) dL_law_991 ?_
  refine lv_topi (fun y_13 ey_13 => ?_)
  obtain rfl : y_4 = y_13 := ey_4.trans ey_13.symm
  refine lv_aload_n hx hb dL_law_992 rfl (lv_at hl 3 rfl) ?_
  refine lv_iload_n hx hb dL_law_993 rfl (lv_at hl 0 rfl) ?_
  refine lv_iconst (v := 3) hx hb dL_law_994 (by decide) ?_
  refine lv_iadd hx hb dL_law_995 ?_
  refine lv_topi (fun z_14 ez_14 => ?_)
  obtain rfl : z_14 = nI ((6 * i) + 3) := ez_14.trans (nI_add (6 * i) (3))
  refine va_sld hx hb hX hbl hbA hW.2.2 (vp_in_nI (n := (6 * i) + 3) (by omega) (by omega)) dL_law_996 ?_
  refine lv_topi (fun y_15 ey_15 => ?_)
  obtain rfl : y_6 = y_15 := ey_6.trans ey_15.symm
  obtain ⟨_, _, _, _, _, _, _, _, _, _, _, _, _, _, _, _, _, _, _, _, _, _, _, _, _, _, _, _, _, _, _, hS_16, _, _, _, _, _, _, _, _, _, _, _, _, _, _, _, _, _, _, _, _, _, _, _, _, _, _, _⟩ := hTy.k12 hT_m0
  refine pl_calli (va_runV (As := [.int y_2, .int y_4, .int y_6]) (rest := []) ⟨hx, hb, hml, hown, hT⟩ (m_pressed l dC dI cy L kap (t9, t9) S_9 H.size m0 y_2 y_4 y_6 hTy hT_m0) (cwV 3 hT (gV w1487 w1488 w1489 w14 w1490) rfl rfl rfl (by decide +kernel) ⟨(Nat.le_of_ble_eq_true rfl), (Nat.le_of_ble_eq_true rfl)⟩) ⟨pcN.blind, pl_recv hK hW hT_m0.1 hS_16 rfl, pcN.pre hW.1 hK hW.2.1 hN (fun q h => absurd h List.not_mem_nil)⟩ rfl rfl hl.1 rfl (lv_room (Nat.le_of_ble_eq_true rfl)) dL_law_997 ⟨(Nat.le_of_ble_eq_true rfl), (Nat.le_of_ble_eq_true rfl)⟩) hW (fun q h => PW_A hW h) hA (fun r_17 S_18 H locs hrel hW => ?_)
  have hTy0 := hTy
  obtain ⟨hTy, hF1⟩ := hrel
  have hDI : DIs S_18 m0 := ⟨DI_0 hTy0 hTy hT_m0 hu50 hF1 (by decide) hDI.1, DI_2 hTy0 hTy hT_m0 hu52 hF1 (by decide) hDI.2⟩
  have hJY := JY_fr hF1 (by decide) (by decide) (by decide) (by decide) hJY
  refine lv_pop hx hb dL_law_1000 rfl ?_
  refine lv_goto (tgt := 1433) hx hb dL_law_1001 (by decide) ?_
  exact kk t9 S_18 H locs ls (by first | exact hTy) hDI hJY hW (lv_sub hl [0, 1, 2, 3] rfl)

set_option maxHeartbeats 4000000 in
set_option maxRecDepth 100000 in
/-- couples -/
theorem law_24 {p : Program} {l : Launch} {e : Env} {s : State} {m : MethodId} {below : List Frame} {meth : Method} {c : Code} {b LN : Nat} {xs : Nat → Int32} (hx : p.tables.exec = Jvm.exec) (hb : c.code = code) (hr : meth.sig.returnType = ret) (hml : c.maxLocals = 4) (hown : s.vm.findClass RL = some m.cls) (hT : ∀ w ∈ TB, w.before #[Value.ref b] s = true) (hX : va_X b LN xs s s.heap) (hbl : b < s.heap.size) (hlocks : meth.locks = false) (hLN : LN ≤ 3072) {dC : Nat → ClassId} {dI : Nat → Nat → Nat} {cy : Nat → ClassId} {L : List Nat} {kap : Nat → Nat} {ad : (Nat → Nat) × (Nat → Nat)} {h0 m0 : Nat} (hK : va_K (dC, dI) vwCl (cyT cy) s) (hN : ∀ q ∈ NLs, va_Nw (.methodLinkNest q.1 q.2.1 q.2.2.1 q.2.2.2) s) (hSTR : STR ad (AL L s.heap.size) s s.heap) (hbA : ¬ AL L s.heap.size b) (hT_h0 : TK L kap h0 11) (hT_m0 : TK L kap m0 12) (hu6 : ∀ b9 c9, TK L kap b9 6 → TK L kap c9 6 → b9 = c9) (hu10 : ∀ b9 c9, TK L kap b9 10 → TK L kap c9 10 → b9 = c9) (hu12 : ∀ b9 c9, TK L kap b9 12 → TK L kap c9 12 → b9 = c9) (hu27 : ∀ b9 c9, TK L kap b9 27 → TK L kap c9 27 → b9 = c9) (hu50 : ∀ b9 c9, TK L kap b9 50 → TK L kap c9 50 → b9 = c9) (hu51 : ∀ b9 c9, TK L kap b9 51 → TK L kap c9 51 → b9 = c9) (hu52 : ∀ b9 c9, TK L kap b9 52 → TK L kap c9 52 → b9 = c9) (hu55 : ∀ b9 c9, TK L kap b9 55 → TK L kap c9 55 → b9 = c9) {i t9 : Nat} (hi : 6 * i + 6 ≤ LN) (kk : ∀ (t9 : Nat) (S : Nat → va_E) (H : Heap) (locs : List Loc) (ls : Array Slot), Ty cy L kap (t9, t9) S → DIs S m0 → JY L kap S → PW dC dI L (AL L s.heap.size) s.heap S H locs → lv_has ls 4 [(3, .int (nI (6 * i))), (2, .ref m0), (1, .ref h0), (0, .ref b)] → W p l e room_1 s m #[Value.ref b] below meth c H locs 152 10885 (lw_Z below #[Value.ref b] s) (F0 m 1433 ls [])) {S : Nat → va_E} {H : Heap} {locs : List Loc} {ls : Array Slot} (hTy : Ty cy L kap (t9, t9) S) (hDI : DIs S m0) (hJY : JY L kap S) (hW : PW dC dI L (AL L s.heap.size) s.heap S H locs) (hl : lv_has ls 4 [(3, .int (nI (6 * i))), (2, .ref m0), (1, .ref h0), (0, .ref b)]) : W p l e room_1 s m #[Value.ref b] below meth c H locs 152 10885 (lw_Z below #[Value.ref b] s) (F0 m 1004 ls []) := by
  have hA : ∀ q, s.heap.size ≤ q → AL L s.heap.size q := fun _ h => Or.inr h
  refine lv_aload_n hx hb dL_law_1004 rfl (lv_at hl 2 rfl) ?_
  refine lv_aload_n hx hb dL_law_1005 rfl (lv_at hl 3 rfl) ?_
  refine lv_iload_n hx hb dL_law_1006 rfl (lv_at hl 0 rfl) ?_
  refine lv_iconst (v := 1) hx hb dL_law_1007 (by decide) ?_
  refine lv_iadd hx hb dL_law_1008 ?_
  refine lv_topi (fun z_1 ez_1 => ?_)
  obtain rfl : z_1 = nI ((6 * i) + 1) := ez_1.trans (nI_add (6 * i) (1))
  refine va_sld hx hb hX hbl hbA hW.2.2 (vp_in_nI (n := (6 * i) + 1) (by omega) (by omega)) dL_law_1009 ?_
  refine lv_topi (fun y_2 ey_2 => ?_)
  obtain ⟨_, _, _, _, _, _, _, _, _, _, _, _, _, hS_3, _, _, _, _, _, _, _, _, _, _, _, _⟩ := hTy.k11 hT_h0
  refine pl_calli (va_runV (As := [.int y_2]) (rest := []) ⟨hx, hb, hml, hown, hT⟩ (k_couples l dC dI cy L kap (t9, t9) S H.size h0 y_2 hTy hT_h0) (cwV 1 hT (gV w967 w968 w969 w1 w970) rfl rfl rfl (by decide +kernel) ⟨(Nat.le_of_ble_eq_true rfl), (Nat.le_of_ble_eq_true rfl)⟩) ⟨pcN.blind, pl_recv hK hW hT_h0.1 hS_3 rfl, pcN.pre hW.1 hK hW.2.1 hN (fun q h => absurd h List.not_mem_nil)⟩ rfl rfl hl.1 rfl (lv_room (Nat.le_of_ble_eq_true rfl)) dL_law_1010 ⟨(Nat.le_of_ble_eq_true rfl), (Nat.le_of_ble_eq_true rfl)⟩) hW (fun q h => PW_A hW h) hA (fun r_4 S_5 H locs hrel hW => ?_)
  have hTy0 := hTy
  obtain ⟨hTy, hF1⟩ := hrel
  have hDI : DIs S_5 m0 := ⟨DI_0 hTy0 hTy hT_m0 hu50 hF1 (by decide) hDI.1, DI_2 hTy0 hTy hT_m0 hu52 hF1 (by decide) hDI.2⟩
  have hJY := JY_fr hF1 (by decide) (by decide) (by decide) (by decide) hJY
  refine lv_pop hx hb dL_law_1013 rfl ?_
  refine lv_aload_n hx hb dL_law_1014 rfl (lv_at hl 1 rfl) ?_
  refine lv_aload_n hx hb dL_law_1015 rfl (lv_at hl 3 rfl) ?_
  refine lv_iload_n hx hb dL_law_1016 rfl (lv_at hl 0 rfl) ?_
  refine lv_iconst (v := 1) hx hb dL_law_1017 (by decide) ?_
  refine lv_iadd hx hb dL_law_1018 ?_
  refine lv_topi (fun z_6 ez_6 => ?_)
  obtain rfl : z_6 = nI ((6 * i) + 1) := ez_6.trans (nI_add (6 * i) (1))
  refine va_sld hx hb hX hbl hbA hW.2.2 (vp_in_nI (n := (6 * i) + 1) (by omega) (by omega)) dL_law_1019 ?_
  refine lv_topi (fun y_7 ey_7 => ?_)
  obtain rfl : y_2 = y_7 := ey_2.trans ey_7.symm
  obtain ⟨_, _, _, _, _, _, _, _, _, _, _, _, _, _, _, _, _, _, _, _, _, _, _, _, _, _, _, _, _, _, _, hS_8, _, _, _, _, _, _, _, _, _, _, _, _, _, _, _, _, _, _, _, _, _, _, _, _, _, _, _⟩ := hTy.k12 hT_m0
  refine pl_calli (va_runV (As := [.int y_2]) (rest := []) ⟨hx, hb, hml, hown, hT⟩ (m_couples l dC dI cy L kap (t9, t9) S_5 H.size m0 y_2 hTy hT_m0) (cwV 1 hT (gV w1503 w1504 w1505 w14 w1506) rfl rfl rfl (by decide +kernel) ⟨(Nat.le_of_ble_eq_true rfl), (Nat.le_of_ble_eq_true rfl)⟩) ⟨pcN.blind, pl_recv hK hW hT_m0.1 hS_8 rfl, pcN.pre hW.1 hK hW.2.1 hN (fun q h => absurd h List.not_mem_nil)⟩ rfl rfl hl.1 rfl (lv_room (Nat.le_of_ble_eq_true rfl)) dL_law_1020 ⟨(Nat.le_of_ble_eq_true rfl), (Nat.le_of_ble_eq_true rfl)⟩) hW (fun q h => PW_A hW h) hA (fun r_9 S_10 H locs hrel hW => ?_)
  have hTy0 := hTy
  obtain ⟨hTy, hF1⟩ := hrel
  have hDI : DIs S_10 m0 := ⟨DI_0 hTy0 hTy hT_m0 hu50 hF1 (by decide) hDI.1, DI_2 hTy0 hTy hT_m0 hu52 hF1 (by decide) hDI.2⟩
  have hJY := JY_fr hF1 (by decide) (by decide) (by decide) (by decide) hJY
  refine lv_pop hx hb dL_law_1023 rfl ?_
  refine lv_goto (tgt := 1433) hx hb dL_law_1024 (by decide) ?_
  exact kk t9 S_10 H locs ls (by first | exact hTy) hDI hJY hW (lv_sub hl [0, 1, 2, 3] rfl)

set_option maxHeartbeats 4000000 in
set_option maxRecDepth 100000 in
/-- span -/
theorem law_25 {p : Program} {l : Launch} {e : Env} {s : State} {m : MethodId} {below : List Frame} {meth : Method} {c : Code} {b LN : Nat} {xs : Nat → Int32} (hx : p.tables.exec = Jvm.exec) (hb : c.code = code) (hr : meth.sig.returnType = ret) (hml : c.maxLocals = 4) (hown : s.vm.findClass RL = some m.cls) (hT : ∀ w ∈ TB, w.before #[Value.ref b] s = true) (hX : va_X b LN xs s s.heap) (hbl : b < s.heap.size) (hlocks : meth.locks = false) (hLN : LN ≤ 3072) {dC : Nat → ClassId} {dI : Nat → Nat → Nat} {cy : Nat → ClassId} {L : List Nat} {kap : Nat → Nat} {ad : (Nat → Nat) × (Nat → Nat)} {h0 m0 : Nat} (hK : va_K (dC, dI) vwCl (cyT cy) s) (hN : ∀ q ∈ NLs, va_Nw (.methodLinkNest q.1 q.2.1 q.2.2.1 q.2.2.2) s) (hSTR : STR ad (AL L s.heap.size) s s.heap) (hbA : ¬ AL L s.heap.size b) (hT_h0 : TK L kap h0 11) (hT_m0 : TK L kap m0 12) (hu6 : ∀ b9 c9, TK L kap b9 6 → TK L kap c9 6 → b9 = c9) (hu10 : ∀ b9 c9, TK L kap b9 10 → TK L kap c9 10 → b9 = c9) (hu12 : ∀ b9 c9, TK L kap b9 12 → TK L kap c9 12 → b9 = c9) (hu27 : ∀ b9 c9, TK L kap b9 27 → TK L kap c9 27 → b9 = c9) (hu50 : ∀ b9 c9, TK L kap b9 50 → TK L kap c9 50 → b9 = c9) (hu51 : ∀ b9 c9, TK L kap b9 51 → TK L kap c9 51 → b9 = c9) (hu52 : ∀ b9 c9, TK L kap b9 52 → TK L kap c9 52 → b9 = c9) (hu55 : ∀ b9 c9, TK L kap b9 55 → TK L kap c9 55 → b9 = c9) {i t9 : Nat} (hi : 6 * i + 6 ≤ LN) (kk : ∀ (t9 : Nat) (S : Nat → va_E) (H : Heap) (locs : List Loc) (ls : Array Slot), Ty cy L kap (t9, t9) S → DIs S m0 → JY L kap S → PW dC dI L (AL L s.heap.size) s.heap S H locs → lv_has ls 4 [(3, .int (nI (6 * i))), (2, .ref m0), (1, .ref h0), (0, .ref b)] → W p l e room_1 s m #[Value.ref b] below meth c H locs 152 10885 (lw_Z below #[Value.ref b] s) (F0 m 1433 ls [])) {S : Nat → va_E} {H : Heap} {locs : List Loc} {ls : Array Slot} (hTy : Ty cy L kap (t9, t9) S) (hDI : DIs S m0) (hJY : JY L kap S) (hW : PW dC dI L (AL L s.heap.size) s.heap S H locs) (hl : lv_has ls 4 [(3, .int (nI (6 * i))), (2, .ref m0), (1, .ref h0), (0, .ref b)]) : W p l e room_1 s m #[Value.ref b] below meth c H locs 152 10885 (lw_Z below #[Value.ref b] s) (F0 m 1027 ls []) := by
  have hA : ∀ q, s.heap.size ≤ q → AL L s.heap.size q := fun _ h => Or.inr h
  refine lv_aload_n hx hb dL_law_1027 rfl (lv_at hl 2 rfl) ?_
  refine lv_aload_n hx hb dL_law_1028 rfl (lv_at hl 3 rfl) ?_
  refine lv_iload_n hx hb dL_law_1029 rfl (lv_at hl 0 rfl) ?_
  refine lv_iconst (v := 1) hx hb dL_law_1030 (by decide) ?_
  refine lv_iadd hx hb dL_law_1031 ?_
  refine lv_topi (fun z_1 ez_1 => ?_)
  obtain rfl : z_1 = nI ((6 * i) + 1) := ez_1.trans (nI_add (6 * i) (1))
  refine va_sld hx hb hX hbl hbA hW.2.2 (vp_in_nI (n := (6 * i) + 1) (by omega) (by omega)) dL_law_1032 ?_
  refine lv_topi (fun y_2 ey_2 => ?_)
  refine lv_aload_n hx hb dL_law_1033 rfl (lv_at hl 3 rfl) ?_
  refine lv_iload_n hx hb dL_law_1034 rfl (lv_at hl 0 rfl) ?_
  refine lv_iconst (v := 2) hx hb dL_law_1035 (by decide) ?_
  refine lv_iadd hx hb dL_law_1036 ?_
  refine lv_topi (fun z_3 ez_3 => ?_)
  obtain rfl : z_3 = nI ((6 * i) + 2) := ez_3.trans (nI_add (6 * i) (2))
  refine va_sld hx hb hX hbl hbA hW.2.2 (vp_in_nI (n := (6 * i) + 2) (by omega) (by omega)) dL_law_1037 ?_
  refine lv_topi (fun y_4 ey_4 => ?_)
  refine lv_aload_n hx hb dL_law_1038 rfl (lv_at hl 3 rfl) ?_
  refine lv_iload_n hx hb dL_law_1039 rfl (lv_at hl 0 rfl) ?_
  refine lv_iconst (v := 3) hx hb dL_law_1040 (by decide) ?_
  refine lv_iadd hx hb dL_law_1041 ?_
  refine lv_topi (fun z_5 ez_5 => ?_)
  obtain rfl : z_5 = nI ((6 * i) + 3) := ez_5.trans (nI_add (6 * i) (3))
  refine va_sld hx hb hX hbl hbA hW.2.2 (vp_in_nI (n := (6 * i) + 3) (by omega) (by omega)) dL_law_1042 ?_
  refine lv_topi (fun y_6 ey_6 => ?_)
  refine lv_aload_n hx hb dL_law_1043 rfl (lv_at hl 3 rfl) ?_
  refine lv_iload_n hx hb dL_law_1044 rfl (lv_at hl 0 rfl) ?_
  refine lv_iconst (v := 4) hx hb dL_law_1045 (by decide) ?_
  refine lv_iadd hx hb dL_law_1046 ?_
  refine lv_topi (fun z_7 ez_7 => ?_)
  obtain rfl : z_7 = nI ((6 * i) + 4) := ez_7.trans (nI_add (6 * i) (4))
  refine va_sld hx hb hX hbl hbA hW.2.2 (vp_in_nI (n := (6 * i) + 4) (by omega) (by omega)) dL_law_1047 ?_
  refine lv_topi (fun y_8 ey_8 => ?_)
  obtain ⟨_, _, _, _, _, _, _, _, _, _, _, _, _, hS_9, _, _, _, _, _, _, _, _, _, _, _, _⟩ := hTy.k11 hT_h0
  refine pl_calli (va_runV (As := [.int y_2, .int y_4, .int y_6, .int y_8]) (rest := []) ⟨hx, hb, hml, hown, hT⟩ (k_span l dC dI cy L kap (t9, t9) S H.size h0 y_2 y_4 y_6 y_8 hTy hT_h0) (cwV 4 hT (gV w971 w972 w973 w1 w974) rfl rfl rfl (by decide +kernel) ⟨(Nat.le_of_ble_eq_true rfl), (Nat.le_of_ble_eq_true rfl)⟩) ⟨pcN.blind, pl_recv hK hW hT_h0.1 hS_9 rfl, pcN.pre hW.1 hK hW.2.1 hN (fun q h => absurd h List.not_mem_nil)⟩ rfl rfl hl.1 rfl (lv_room (Nat.le_of_ble_eq_true rfl)) dL_law_1048 ⟨(Nat.le_of_ble_eq_true rfl), (Nat.le_of_ble_eq_true rfl)⟩) hW (fun q h => PW_A hW h) hA (fun r_10 S_11 H locs hrel hW => ?_)
  have hTy0 := hTy
  obtain ⟨hTy, hF1⟩ := hrel
  have hDI : DIs S_11 m0 := ⟨DI_0 hTy0 hTy hT_m0 hu50 hF1 (by decide) hDI.1, DI_2 hTy0 hTy hT_m0 hu52 hF1 (by decide) hDI.2⟩
  have hJY := JY_fr hF1 (by decide) (by decide) (by decide) (by decide) hJY
  refine lv_pop hx hb dL_law_1051 rfl ?_
  refine lv_aload_n hx hb dL_law_1052 rfl (lv_at hl 1 rfl) ?_
  refine lv_aload_n hx hb dL_law_1053 rfl (lv_at hl 3 rfl) ?_
  refine lv_iload_n hx hb dL_law_1054 rfl (lv_at hl 0 rfl) ?_
  refine lv_iconst (v := 1) hx hb dL_law_1055 (by decide) ?_
  refine lv_iadd hx hb dL_law_1056 ?_
  refine lv_topi (fun z_12 ez_12 => ?_)
  obtain rfl : z_12 = nI ((6 * i) + 1) := ez_12.trans (nI_add (6 * i) (1))
  refine va_sld hx hb hX hbl hbA hW.2.2 (vp_in_nI (n := (6 * i) + 1) (by omega) (by omega)) dL_law_1057 ?_
  refine lv_topi (fun y_13 ey_13 => ?_)
  obtain rfl : y_2 = y_13 := ey_2.trans ey_13.symm
  refine lv_aload_n hx hb dL_law_1058 rfl (lv_at hl 3 rfl) ?_
  refine lv_iload_n hx hb dL_law_1059 rfl (lv_at hl 0 rfl) ?_
  refine lv_iconst (v := 2) hx hb dL_law_1060 (by decide) ?_
  refine lv_iadd hx hb dL_law_1061 ?_
  refine lv_topi (fun z_14 ez_14 => ?_)
  obtain rfl : z_14 = nI ((6 * i) + 2) := ez_14.trans (nI_add (6 * i) (2))
  refine va_sld hx hb hX hbl hbA hW.2.2 (vp_in_nI (n := (6 * i) + 2) (by omega) (by omega)) dL_law_1062 ?_
  refine lv_topi (fun y_15 ey_15 => ?_)
  obtain rfl : y_4 = y_15 := ey_4.trans ey_15.symm
  refine lv_aload_n hx hb dL_law_1063 rfl (lv_at hl 3 rfl) ?_
  refine lv_iload_n hx hb dL_law_1064 rfl (lv_at hl 0 rfl) ?_
  refine lv_iconst (v := 3) hx hb dL_law_1065 (by decide) ?_
  refine lv_iadd hx hb dL_law_1066 ?_
  refine lv_topi (fun z_16 ez_16 => ?_)
  obtain rfl : z_16 = nI ((6 * i) + 3) := ez_16.trans (nI_add (6 * i) (3))
  refine va_sld hx hb hX hbl hbA hW.2.2 (vp_in_nI (n := (6 * i) + 3) (by omega) (by omega)) dL_law_1067 ?_
  refine lv_topi (fun y_17 ey_17 => ?_)
  obtain rfl : y_6 = y_17 := ey_6.trans ey_17.symm
  refine lv_aload_n hx hb dL_law_1068 rfl (lv_at hl 3 rfl) ?_
  refine lv_iload_n hx hb dL_law_1069 rfl (lv_at hl 0 rfl) ?_
  refine lv_iconst (v := 4) hx hb dL_law_1070 (by decide) ?_
  refine lv_iadd hx hb dL_law_1071 ?_
  refine lv_topi (fun z_18 ez_18 => ?_)
  obtain rfl : z_18 = nI ((6 * i) + 4) := ez_18.trans (nI_add (6 * i) (4))
  refine va_sld hx hb hX hbl hbA hW.2.2 (vp_in_nI (n := (6 * i) + 4) (by omega) (by omega)) dL_law_1072 ?_
  refine lv_topi (fun y_19 ey_19 => ?_)
  obtain rfl : y_8 = y_19 := ey_8.trans ey_19.symm
  obtain ⟨_, _, _, _, _, _, _, _, _, _, _, _, _, _, _, _, _, _, _, _, _, _, _, _, _, _, _, _, _, _, _, hS_20, _, _, _, _, _, _, _, _, _, _, _, _, _, _, _, _, _, _, _, _, _, _, _, _, _, _, _⟩ := hTy.k12 hT_m0
  refine pl_calli (va_runV (As := [.int y_2, .int y_4, .int y_6, .int y_8]) (rest := []) ⟨hx, hb, hml, hown, hT⟩ (m_span l dC dI cy L kap (t9, t9) S_11 H.size m0 y_2 y_4 y_6 y_8 hTy hT_m0) (cwV 4 hT (gV w1511 w1512 w1513 w14 w1514) rfl rfl rfl (by decide +kernel) ⟨(Nat.le_of_ble_eq_true rfl), (Nat.le_of_ble_eq_true rfl)⟩) ⟨pcN.blind, pl_recv hK hW hT_m0.1 hS_20 rfl, pcN.pre hW.1 hK hW.2.1 hN (fun q h => absurd h List.not_mem_nil)⟩ rfl rfl hl.1 rfl (lv_room (Nat.le_of_ble_eq_true rfl)) dL_law_1073 ⟨(Nat.le_of_ble_eq_true rfl), (Nat.le_of_ble_eq_true rfl)⟩) hW (fun q h => PW_A hW h) hA (fun r_21 S_22 H locs hrel hW => ?_)
  have hTy0 := hTy
  obtain ⟨hTy, hF1⟩ := hrel
  have hDI : DIs S_22 m0 := ⟨DI_0 hTy0 hTy hT_m0 hu50 hF1 (by decide) hDI.1, DI_2 hTy0 hTy hT_m0 hu52 hF1 (by decide) hDI.2⟩
  have hJY := JY_fr hF1 (by decide) (by decide) (by decide) (by decide) hJY
  refine lv_pop hx hb dL_law_1076 rfl ?_
  refine lv_goto (tgt := 1433) hx hb dL_law_1077 (by decide) ?_
  exact kk t9 S_22 H locs ls (by first | exact hTy) hDI hJY hW (lv_sub hl [0, 1, 2, 3] rfl)

set_option maxHeartbeats 4000000 in
set_option maxRecDepth 100000 in
/-- gain -/
theorem law_26 {p : Program} {l : Launch} {e : Env} {s : State} {m : MethodId} {below : List Frame} {meth : Method} {c : Code} {b LN : Nat} {xs : Nat → Int32} (hx : p.tables.exec = Jvm.exec) (hb : c.code = code) (hr : meth.sig.returnType = ret) (hml : c.maxLocals = 4) (hown : s.vm.findClass RL = some m.cls) (hT : ∀ w ∈ TB, w.before #[Value.ref b] s = true) (hX : va_X b LN xs s s.heap) (hbl : b < s.heap.size) (hlocks : meth.locks = false) (hLN : LN ≤ 3072) {dC : Nat → ClassId} {dI : Nat → Nat → Nat} {cy : Nat → ClassId} {L : List Nat} {kap : Nat → Nat} {ad : (Nat → Nat) × (Nat → Nat)} {h0 m0 : Nat} (hK : va_K (dC, dI) vwCl (cyT cy) s) (hN : ∀ q ∈ NLs, va_Nw (.methodLinkNest q.1 q.2.1 q.2.2.1 q.2.2.2) s) (hSTR : STR ad (AL L s.heap.size) s s.heap) (hbA : ¬ AL L s.heap.size b) (hT_h0 : TK L kap h0 11) (hT_m0 : TK L kap m0 12) (hu6 : ∀ b9 c9, TK L kap b9 6 → TK L kap c9 6 → b9 = c9) (hu10 : ∀ b9 c9, TK L kap b9 10 → TK L kap c9 10 → b9 = c9) (hu12 : ∀ b9 c9, TK L kap b9 12 → TK L kap c9 12 → b9 = c9) (hu27 : ∀ b9 c9, TK L kap b9 27 → TK L kap c9 27 → b9 = c9) (hu50 : ∀ b9 c9, TK L kap b9 50 → TK L kap c9 50 → b9 = c9) (hu51 : ∀ b9 c9, TK L kap b9 51 → TK L kap c9 51 → b9 = c9) (hu52 : ∀ b9 c9, TK L kap b9 52 → TK L kap c9 52 → b9 = c9) (hu55 : ∀ b9 c9, TK L kap b9 55 → TK L kap c9 55 → b9 = c9) {i t9 : Nat} (hi : 6 * i + 6 ≤ LN) (kk : ∀ (t9 : Nat) (S : Nat → va_E) (H : Heap) (locs : List Loc) (ls : Array Slot), Ty cy L kap (t9, t9) S → DIs S m0 → JY L kap S → PW dC dI L (AL L s.heap.size) s.heap S H locs → lv_has ls 4 [(3, .int (nI (6 * i))), (2, .ref m0), (1, .ref h0), (0, .ref b)] → W p l e room_1 s m #[Value.ref b] below meth c H locs 152 10885 (lw_Z below #[Value.ref b] s) (F0 m 1433 ls [])) {S : Nat → va_E} {H : Heap} {locs : List Loc} {ls : Array Slot} (hTy : Ty cy L kap (t9, t9) S) (hDI : DIs S m0) (hJY : JY L kap S) (hW : PW dC dI L (AL L s.heap.size) s.heap S H locs) (hl : lv_has ls 4 [(3, .int (nI (6 * i))), (2, .ref m0), (1, .ref h0), (0, .ref b)]) : W p l e room_1 s m #[Value.ref b] below meth c H locs 152 10885 (lw_Z below #[Value.ref b] s) (F0 m 1080 ls []) := by
  have hA : ∀ q, s.heap.size ≤ q → AL L s.heap.size q := fun _ h => Or.inr h
  refine lv_aload_n hx hb dL_law_1080 rfl (lv_at hl 2 rfl) ?_
  refine lv_aload_n hx hb dL_law_1081 rfl (lv_at hl 3 rfl) ?_
  refine lv_iload_n hx hb dL_law_1082 rfl (lv_at hl 0 rfl) ?_
  refine lv_iconst (v := 1) hx hb dL_law_1083 (by decide) ?_
  refine lv_iadd hx hb dL_law_1084 ?_
  refine lv_topi (fun z_1 ez_1 => ?_)
  obtain rfl : z_1 = nI ((6 * i) + 1) := ez_1.trans (nI_add (6 * i) (1))
  refine va_sld hx hb hX hbl hbA hW.2.2 (vp_in_nI (n := (6 * i) + 1) (by omega) (by omega)) dL_law_1085 ?_
  refine lv_topi (fun y_2 ey_2 => ?_)
  refine lv_aload_n hx hb dL_law_1086 rfl (lv_at hl 3 rfl) ?_
  refine lv_iload_n hx hb dL_law_1087 rfl (lv_at hl 0 rfl) ?_
  refine lv_iconst (v := 2) hx hb dL_law_1088 (by decide) ?_
  refine lv_iadd hx hb dL_law_1089 ?_
  refine lv_topi (fun z_3 ez_3 => ?_)
  obtain rfl : z_3 = nI ((6 * i) + 2) := ez_3.trans (nI_add (6 * i) (2))
  refine va_sld hx hb hX hbl hbA hW.2.2 (vp_in_nI (n := (6 * i) + 2) (by omega) (by omega)) dL_law_1090 ?_
  refine lv_topi (fun y_4 ey_4 => ?_)
  refine lv_aload_n hx hb dL_law_1091 rfl (lv_at hl 3 rfl) ?_
  refine lv_iload_n hx hb dL_law_1092 rfl (lv_at hl 0 rfl) ?_
  refine lv_iconst (v := 3) hx hb dL_law_1093 (by decide) ?_
  refine lv_iadd hx hb dL_law_1094 ?_
  refine lv_topi (fun z_5 ez_5 => ?_)
  obtain rfl : z_5 = nI ((6 * i) + 3) := ez_5.trans (nI_add (6 * i) (3))
  refine va_sld hx hb hX hbl hbA hW.2.2 (vp_in_nI (n := (6 * i) + 3) (by omega) (by omega)) dL_law_1095 ?_
  refine lv_topi (fun y_6 ey_6 => ?_)
  obtain ⟨_, _, _, _, _, _, _, _, _, _, _, _, _, hS_7, _, _, _, _, _, _, _, _, _, _, _, _⟩ := hTy.k11 hT_h0
  refine pl_calli (va_runV (As := [.int y_2, .int y_4, .int y_6]) (rest := []) ⟨hx, hb, hml, hown, hT⟩ (k_gain l dC dI cy L kap (t9, t9) S H.size h0 y_2 y_4 y_6 hTy hT_h0) (cwV 3 hT (gV w979 w980 w981 w1 w982) rfl rfl rfl (by decide +kernel) ⟨(Nat.le_of_ble_eq_true rfl), (Nat.le_of_ble_eq_true rfl)⟩) ⟨pcN.blind, pl_recv hK hW hT_h0.1 hS_7 rfl, pcN.pre hW.1 hK hW.2.1 hN (fun q h => absurd h List.not_mem_nil)⟩ rfl rfl hl.1 rfl (lv_room (Nat.le_of_ble_eq_true rfl)) dL_law_1096 ⟨(Nat.le_of_ble_eq_true rfl), (Nat.le_of_ble_eq_true rfl)⟩) hW (fun q h => PW_A hW h) hA (fun r_8 S_9 H locs hrel hW => ?_)
  have hTy0 := hTy
  obtain ⟨hTy, hF1⟩ := hrel
  have hDI : DIs S_9 m0 := ⟨DI_0 hTy0 hTy hT_m0 hu50 hF1 (by decide) hDI.1, DI_2 hTy0 hTy hT_m0 hu52 hF1 (by decide) hDI.2⟩
  have hJY := JY_fr hF1 (by decide) (by decide) (by decide) (by decide) hJY
  refine lv_pop hx hb dL_law_1099 rfl ?_
  refine lv_aload_n hx hb dL_law_1100 rfl (lv_at hl 1 rfl) ?_
  refine lv_aload_n hx hb dL_law_1101 rfl (lv_at hl 3 rfl) ?_
  refine lv_iload_n hx hb dL_law_1102 rfl (lv_at hl 0 rfl) ?_
  refine lv_iconst (v := 1) hx hb dL_law_1103 (by decide) ?_
  refine lv_iadd hx hb dL_law_1104 ?_
  refine lv_topi (fun z_10 ez_10 => ?_)
  obtain rfl : z_10 = nI ((6 * i) + 1) := ez_10.trans (nI_add (6 * i) (1))
  refine va_sld hx hb hX hbl hbA hW.2.2 (vp_in_nI (n := (6 * i) + 1) (by omega) (by omega)) dL_law_1105 ?_
  refine lv_topi (fun y_11 ey_11 => ?_)
  obtain rfl : y_2 = y_11 := ey_2.trans ey_11.symm
  refine lv_aload_n hx hb dL_law_1106 rfl (lv_at hl 3 rfl) ?_
  refine lv_iload_n hx hb dL_law_1107 rfl (lv_at hl 0 rfl) ?_
  refine lv_iconst (v := 2) hx hb dL_law_1108 (by decide) ?_
  refine lv_iadd hx hb dL_law_1109 ?_
  refine lv_topi (fun z_12 ez_12 => ?_)
  obtain rfl : z_12 = nI ((6 * i) + 2) := ez_12.trans (nI_add (6 * i) (2))
  refine va_sld hx hb hX hbl hbA hW.2.2 (vp_in_nI (n := (6 * i) + 2) (by omega) (by omega)) dL_law_1110 ?_
  refine lv_topi (fun y_13 ey_13 => ?_)
  obtain rfl : y_4 = y_13 := ey_4.trans ey_13.symm
  refine lv_aload_n hx hb dL_law_1111 rfl (lv_at hl 3 rfl) ?_
  refine lv_iload_n hx hb dL_law_1112 rfl (lv_at hl 0 rfl) ?_
  refine lv_iconst (v := 3) hx hb dL_law_1113 (by decide) ?_
  refine lv_iadd hx hb dL_law_1114 ?_
  refine lv_topi (fun z_14 ez_14 => ?_)
  obtain rfl : z_14 = nI ((6 * i) + 3) := ez_14.trans (nI_add (6 * i) (3))
  refine va_sld hx hb hX hbl hbA hW.2.2 (vp_in_nI (n := (6 * i) + 3) (by omega) (by omega)) dL_law_1115 ?_
  refine lv_topi (fun y_15 ey_15 => ?_)
  obtain rfl : y_6 = y_15 := ey_6.trans ey_15.symm
  obtain ⟨_, _, _, _, _, _, _, _, _, _, _, _, _, _, _, _, _, _, _, _, _, _, _, _, _, _, _, _, _, _, _, hS_16, _, _, _, _, _, _, _, _, _, _, _, _, _, _, _, _, _, _, _, _, _, _, _, _, _, _, _⟩ := hTy.k12 hT_m0
  refine pl_calli (va_runV (As := [.int y_2, .int y_4, .int y_6]) (rest := []) ⟨hx, hb, hml, hown, hT⟩ (m_gain l dC dI cy L kap (t9, t9) S_9 H.size m0 y_2 y_4 y_6 hTy hT_m0) (cwV 3 hT (gV w1515 w1516 w1517 w14 w1518) rfl rfl rfl (by decide +kernel) ⟨(Nat.le_of_ble_eq_true rfl), (Nat.le_of_ble_eq_true rfl)⟩) ⟨pcN.blind, pl_recv hK hW hT_m0.1 hS_16 rfl, pcN.pre hW.1 hK hW.2.1 hN (fun q h => absurd h List.not_mem_nil)⟩ rfl rfl hl.1 rfl (lv_room (Nat.le_of_ble_eq_true rfl)) dL_law_1116 ⟨(Nat.le_of_ble_eq_true rfl), (Nat.le_of_ble_eq_true rfl)⟩) hW (fun q h => PW_A hW h) hA (fun r_17 S_18 H locs hrel hW => ?_)
  have hTy0 := hTy
  obtain ⟨hTy, hF1⟩ := hrel
  have hDI : DIs S_18 m0 := ⟨DI_0 hTy0 hTy hT_m0 hu50 hF1 (by decide) hDI.1, DI_2 hTy0 hTy hT_m0 hu52 hF1 (by decide) hDI.2⟩
  have hJY := JY_fr hF1 (by decide) (by decide) (by decide) (by decide) hJY
  refine lv_pop hx hb dL_law_1119 rfl ?_
  refine lv_goto (tgt := 1433) hx hb dL_law_1120 (by decide) ?_
  exact kk t9 S_18 H locs ls (by first | exact hTy) hDI hJY hW (lv_sub hl [0, 1, 2, 3] rfl)

set_option maxHeartbeats 4000000 in
set_option maxRecDepth 100000 in
/-- without -/
theorem law_27 {p : Program} {l : Launch} {e : Env} {s : State} {m : MethodId} {below : List Frame} {meth : Method} {c : Code} {b LN : Nat} {xs : Nat → Int32} (hx : p.tables.exec = Jvm.exec) (hb : c.code = code) (hr : meth.sig.returnType = ret) (hml : c.maxLocals = 4) (hown : s.vm.findClass RL = some m.cls) (hT : ∀ w ∈ TB, w.before #[Value.ref b] s = true) (hX : va_X b LN xs s s.heap) (hbl : b < s.heap.size) (hlocks : meth.locks = false) (hLN : LN ≤ 3072) {dC : Nat → ClassId} {dI : Nat → Nat → Nat} {cy : Nat → ClassId} {L : List Nat} {kap : Nat → Nat} {ad : (Nat → Nat) × (Nat → Nat)} {h0 m0 : Nat} (hK : va_K (dC, dI) vwCl (cyT cy) s) (hN : ∀ q ∈ NLs, va_Nw (.methodLinkNest q.1 q.2.1 q.2.2.1 q.2.2.2) s) (hSTR : STR ad (AL L s.heap.size) s s.heap) (hbA : ¬ AL L s.heap.size b) (hT_h0 : TK L kap h0 11) (hT_m0 : TK L kap m0 12) (hu6 : ∀ b9 c9, TK L kap b9 6 → TK L kap c9 6 → b9 = c9) (hu10 : ∀ b9 c9, TK L kap b9 10 → TK L kap c9 10 → b9 = c9) (hu12 : ∀ b9 c9, TK L kap b9 12 → TK L kap c9 12 → b9 = c9) (hu27 : ∀ b9 c9, TK L kap b9 27 → TK L kap c9 27 → b9 = c9) (hu50 : ∀ b9 c9, TK L kap b9 50 → TK L kap c9 50 → b9 = c9) (hu51 : ∀ b9 c9, TK L kap b9 51 → TK L kap c9 51 → b9 = c9) (hu52 : ∀ b9 c9, TK L kap b9 52 → TK L kap c9 52 → b9 = c9) (hu55 : ∀ b9 c9, TK L kap b9 55 → TK L kap c9 55 → b9 = c9) {i t9 : Nat} (hi : 6 * i + 6 ≤ LN) (kk : ∀ (t9 : Nat) (S : Nat → va_E) (H : Heap) (locs : List Loc) (ls : Array Slot), Ty cy L kap (t9, t9) S → DIs S m0 → JY L kap S → PW dC dI L (AL L s.heap.size) s.heap S H locs → lv_has ls 4 [(3, .int (nI (6 * i))), (2, .ref m0), (1, .ref h0), (0, .ref b)] → W p l e room_1 s m #[Value.ref b] below meth c H locs 152 10885 (lw_Z below #[Value.ref b] s) (F0 m 1433 ls [])) {S : Nat → va_E} {H : Heap} {locs : List Loc} {ls : Array Slot} (hTy : Ty cy L kap (t9, t9) S) (hDI : DIs S m0) (hJY : JY L kap S) (hW : PW dC dI L (AL L s.heap.size) s.heap S H locs) (hl : lv_has ls 4 [(3, .int (nI (6 * i))), (2, .ref m0), (1, .ref h0), (0, .ref b)]) : W p l e room_1 s m #[Value.ref b] below meth c H locs 152 10885 (lw_Z below #[Value.ref b] s) (F0 m 1123 ls []) := by
  have hA : ∀ q, s.heap.size ≤ q → AL L s.heap.size q := fun _ h => Or.inr h
  refine lv_aload_n hx hb dL_law_1123 rfl (lv_at hl 2 rfl) ?_
  refine lv_aload_n hx hb dL_law_1124 rfl (lv_at hl 3 rfl) ?_
  refine lv_iload_n hx hb dL_law_1125 rfl (lv_at hl 0 rfl) ?_
  refine lv_iconst (v := 1) hx hb dL_law_1126 (by decide) ?_
  refine lv_iadd hx hb dL_law_1127 ?_
  refine lv_topi (fun z_1 ez_1 => ?_)
  obtain rfl : z_1 = nI ((6 * i) + 1) := ez_1.trans (nI_add (6 * i) (1))
  refine va_sld hx hb hX hbl hbA hW.2.2 (vp_in_nI (n := (6 * i) + 1) (by omega) (by omega)) dL_law_1128 ?_
  refine lv_topi (fun y_2 ey_2 => ?_)
  refine lv_aload_n hx hb dL_law_1129 rfl (lv_at hl 3 rfl) ?_
  refine lv_iload_n hx hb dL_law_1130 rfl (lv_at hl 0 rfl) ?_
  refine lv_iconst (v := 2) hx hb dL_law_1131 (by decide) ?_
  refine lv_iadd hx hb dL_law_1132 ?_
  refine lv_topi (fun z_3 ez_3 => ?_)
  obtain rfl : z_3 = nI ((6 * i) + 2) := ez_3.trans (nI_add (6 * i) (2))
  refine va_sld hx hb hX hbl hbA hW.2.2 (vp_in_nI (n := (6 * i) + 2) (by omega) (by omega)) dL_law_1133 ?_
  refine lv_topi (fun y_4 ey_4 => ?_)
  obtain ⟨_, _, _, _, _, _, _, _, _, _, _, _, _, hS_5, _, _, _, _, _, _, _, _, _, _, _, _⟩ := hTy.k11 hT_h0
  refine pl_calli (va_runV (As := [.int y_2, .int y_4]) (rest := []) ⟨hx, hb, hml, hown, hT⟩ (k_without l dC dI cy L kap (t9, t9) S H.size h0 y_2 y_4 hTy hT_h0) (cwV 2 hT (gV w987 w988 w989 w1 w990) rfl rfl rfl (by decide +kernel) ⟨(Nat.le_of_ble_eq_true rfl), (Nat.le_of_ble_eq_true rfl)⟩) ⟨pcN.blind, pl_recv hK hW hT_h0.1 hS_5 rfl, pcN.pre hW.1 hK hW.2.1 hN (fun q h => absurd h List.not_mem_nil)⟩ rfl rfl hl.1 rfl (lv_room (Nat.le_of_ble_eq_true rfl)) dL_law_1134 ⟨(Nat.le_of_ble_eq_true rfl), (Nat.le_of_ble_eq_true rfl)⟩) hW (fun q h => PW_A hW h) hA (fun r_6 S_7 H locs hrel hW => ?_)
  have hTy0 := hTy
  obtain ⟨hTy, hF1⟩ := hrel
  have hDI : DIs S_7 m0 := ⟨DI_0 hTy0 hTy hT_m0 hu50 hF1 (by decide) hDI.1, DI_2 hTy0 hTy hT_m0 hu52 hF1 (by decide) hDI.2⟩
  have hJY := JY_fr hF1 (by decide) (by decide) (by decide) (by decide) hJY
  refine lv_pop hx hb dL_law_1137 rfl ?_
  refine lv_aload_n hx hb dL_law_1138 rfl (lv_at hl 1 rfl) ?_
  refine lv_aload_n hx hb dL_law_1139 rfl (lv_at hl 3 rfl) ?_
  refine lv_iload_n hx hb dL_law_1140 rfl (lv_at hl 0 rfl) ?_
  refine lv_iconst (v := 1) hx hb dL_law_1141 (by decide) ?_
  refine lv_iadd hx hb dL_law_1142 ?_
  refine lv_topi (fun z_8 ez_8 => ?_)
  obtain rfl : z_8 = nI ((6 * i) + 1) := ez_8.trans (nI_add (6 * i) (1))
  refine va_sld hx hb hX hbl hbA hW.2.2 (vp_in_nI (n := (6 * i) + 1) (by omega) (by omega)) dL_law_1143 ?_
  refine lv_topi (fun y_9 ey_9 => ?_)
  obtain rfl : y_2 = y_9 := ey_2.trans ey_9.symm
  refine lv_aload_n hx hb dL_law_1144 rfl (lv_at hl 3 rfl) ?_
  refine lv_iload_n hx hb dL_law_1145 rfl (lv_at hl 0 rfl) ?_
  refine lv_iconst (v := 2) hx hb dL_law_1146 (by decide) ?_
  refine lv_iadd hx hb dL_law_1147 ?_
  refine lv_topi (fun z_10 ez_10 => ?_)
  obtain rfl : z_10 = nI ((6 * i) + 2) := ez_10.trans (nI_add (6 * i) (2))
  refine va_sld hx hb hX hbl hbA hW.2.2 (vp_in_nI (n := (6 * i) + 2) (by omega) (by omega)) dL_law_1148 ?_
  refine lv_topi (fun y_11 ey_11 => ?_)
  obtain rfl : y_4 = y_11 := ey_4.trans ey_11.symm
  obtain ⟨_, _, _, _, _, _, _, _, _, _, _, _, _, _, _, _, _, _, _, _, _, _, _, _, _, _, _, _, _, _, _, hS_12, _, _, _, _, _, _, _, _, _, _, _, _, _, _, _, _, _, _, _, _, _, _, _, _, _, _, _⟩ := hTy.k12 hT_m0
  refine pl_calli (va_runV (As := [.int y_2, .int y_4]) (rest := []) ⟨hx, hb, hml, hown, hT⟩ (m_without l dC dI cy L kap (t9, t9) S_7 H.size m0 y_2 y_4 hTy hT_m0) (cwV 2 hT (gV w1519 w1520 w1521 w14 w1522) rfl rfl rfl (by decide +kernel) ⟨(Nat.le_of_ble_eq_true rfl), (Nat.le_of_ble_eq_true rfl)⟩) ⟨pcN.blind, pl_recv hK hW hT_m0.1 hS_12 rfl, pcN.pre hW.1 hK hW.2.1 hN (fun q h => absurd h List.not_mem_nil)⟩ rfl rfl hl.1 rfl (lv_room (Nat.le_of_ble_eq_true rfl)) dL_law_1149 ⟨(Nat.le_of_ble_eq_true rfl), (Nat.le_of_ble_eq_true rfl)⟩) hW (fun q h => PW_A hW h) hA (fun r_13 S_14 H locs hrel hW => ?_)
  have hTy0 := hTy
  obtain ⟨hTy, hF1⟩ := hrel
  have hDI : DIs S_14 m0 := ⟨DI_0 hTy0 hTy hT_m0 hu50 hF1 (by decide) hDI.1, DI_2 hTy0 hTy hT_m0 hu52 hF1 (by decide) hDI.2⟩
  have hJY := JY_fr hF1 (by decide) (by decide) (by decide) (by decide) hJY
  refine lv_pop hx hb dL_law_1152 rfl ?_
  refine lv_goto (tgt := 1433) hx hb dL_law_1153 (by decide) ?_
  exact kk t9 S_14 H locs ls (by first | exact hTy) hDI hJY hW (lv_sub hl [0, 1, 2, 3] rfl)

set_option maxHeartbeats 4000000 in
set_option maxRecDepth 100000 in
/-- relief -/
theorem law_28 {p : Program} {l : Launch} {e : Env} {s : State} {m : MethodId} {below : List Frame} {meth : Method} {c : Code} {b LN : Nat} {xs : Nat → Int32} (hx : p.tables.exec = Jvm.exec) (hb : c.code = code) (hr : meth.sig.returnType = ret) (hml : c.maxLocals = 4) (hown : s.vm.findClass RL = some m.cls) (hT : ∀ w ∈ TB, w.before #[Value.ref b] s = true) (hX : va_X b LN xs s s.heap) (hbl : b < s.heap.size) (hlocks : meth.locks = false) (hLN : LN ≤ 3072) {dC : Nat → ClassId} {dI : Nat → Nat → Nat} {cy : Nat → ClassId} {L : List Nat} {kap : Nat → Nat} {ad : (Nat → Nat) × (Nat → Nat)} {h0 m0 : Nat} (hK : va_K (dC, dI) vwCl (cyT cy) s) (hN : ∀ q ∈ NLs, va_Nw (.methodLinkNest q.1 q.2.1 q.2.2.1 q.2.2.2) s) (hSTR : STR ad (AL L s.heap.size) s s.heap) (hbA : ¬ AL L s.heap.size b) (hT_h0 : TK L kap h0 11) (hT_m0 : TK L kap m0 12) (hu6 : ∀ b9 c9, TK L kap b9 6 → TK L kap c9 6 → b9 = c9) (hu10 : ∀ b9 c9, TK L kap b9 10 → TK L kap c9 10 → b9 = c9) (hu12 : ∀ b9 c9, TK L kap b9 12 → TK L kap c9 12 → b9 = c9) (hu27 : ∀ b9 c9, TK L kap b9 27 → TK L kap c9 27 → b9 = c9) (hu50 : ∀ b9 c9, TK L kap b9 50 → TK L kap c9 50 → b9 = c9) (hu51 : ∀ b9 c9, TK L kap b9 51 → TK L kap c9 51 → b9 = c9) (hu52 : ∀ b9 c9, TK L kap b9 52 → TK L kap c9 52 → b9 = c9) (hu55 : ∀ b9 c9, TK L kap b9 55 → TK L kap c9 55 → b9 = c9) {i t9 : Nat} (hi : 6 * i + 6 ≤ LN) (kk : ∀ (t9 : Nat) (S : Nat → va_E) (H : Heap) (locs : List Loc) (ls : Array Slot), Ty cy L kap (t9, t9) S → DIs S m0 → JY L kap S → PW dC dI L (AL L s.heap.size) s.heap S H locs → lv_has ls 4 [(3, .int (nI (6 * i))), (2, .ref m0), (1, .ref h0), (0, .ref b)] → W p l e room_1 s m #[Value.ref b] below meth c H locs 152 10885 (lw_Z below #[Value.ref b] s) (F0 m 1433 ls [])) {S : Nat → va_E} {H : Heap} {locs : List Loc} {ls : Array Slot} (hTy : Ty cy L kap (t9, t9) S) (hDI : DIs S m0) (hJY : JY L kap S) (hW : PW dC dI L (AL L s.heap.size) s.heap S H locs) (hl : lv_has ls 4 [(3, .int (nI (6 * i))), (2, .ref m0), (1, .ref h0), (0, .ref b)]) : W p l e room_1 s m #[Value.ref b] below meth c H locs 152 10885 (lw_Z below #[Value.ref b] s) (F0 m 1156 ls []) := by
  have hA : ∀ q, s.heap.size ≤ q → AL L s.heap.size q := fun _ h => Or.inr h
  refine lv_aload_n hx hb dL_law_1156 rfl (lv_at hl 2 rfl) ?_
  refine lv_aload_n hx hb dL_law_1157 rfl (lv_at hl 3 rfl) ?_
  refine lv_iload_n hx hb dL_law_1158 rfl (lv_at hl 0 rfl) ?_
  refine lv_iconst (v := 1) hx hb dL_law_1159 (by decide) ?_
  refine lv_iadd hx hb dL_law_1160 ?_
  refine lv_topi (fun z_1 ez_1 => ?_)
  obtain rfl : z_1 = nI ((6 * i) + 1) := ez_1.trans (nI_add (6 * i) (1))
  refine va_sld hx hb hX hbl hbA hW.2.2 (vp_in_nI (n := (6 * i) + 1) (by omega) (by omega)) dL_law_1161 ?_
  refine lv_topi (fun y_2 ey_2 => ?_)
  refine lv_aload_n hx hb dL_law_1162 rfl (lv_at hl 3 rfl) ?_
  refine lv_iload_n hx hb dL_law_1163 rfl (lv_at hl 0 rfl) ?_
  refine lv_iconst (v := 2) hx hb dL_law_1164 (by decide) ?_
  refine lv_iadd hx hb dL_law_1165 ?_
  refine lv_topi (fun z_3 ez_3 => ?_)
  obtain rfl : z_3 = nI ((6 * i) + 2) := ez_3.trans (nI_add (6 * i) (2))
  refine va_sld hx hb hX hbl hbA hW.2.2 (vp_in_nI (n := (6 * i) + 2) (by omega) (by omega)) dL_law_1166 ?_
  refine lv_topi (fun y_4 ey_4 => ?_)
  obtain ⟨_, _, _, _, _, _, _, _, _, _, _, _, _, hS_5, _, _, _, _, _, _, _, _, _, _, _, _⟩ := hTy.k11 hT_h0
  refine pl_calli (va_runV (As := [.int y_2, .int y_4]) (rest := []) ⟨hx, hb, hml, hown, hT⟩ (k_relief l dC dI cy L kap (t9, t9) S H.size h0 y_2 y_4 hTy hT_h0) (cwV 2 hT (gV w993 w994 w995 w1 w996) rfl rfl rfl (by decide +kernel) ⟨(Nat.le_of_ble_eq_true rfl), (Nat.le_of_ble_eq_true rfl)⟩) ⟨pcN.blind, pl_recv hK hW hT_h0.1 hS_5 rfl, pcN.pre hW.1 hK hW.2.1 hN (fun q h => absurd h List.not_mem_nil)⟩ rfl rfl hl.1 rfl (lv_room (Nat.le_of_ble_eq_true rfl)) dL_law_1167 ⟨(Nat.le_of_ble_eq_true rfl), (Nat.le_of_ble_eq_true rfl)⟩) hW (fun q h => PW_A hW h) hA (fun r_6 S_7 H locs hrel hW => ?_)
  have hTy0 := hTy
  obtain ⟨hTy, hF1⟩ := hrel
  have hDI : DIs S_7 m0 := ⟨DI_0 hTy0 hTy hT_m0 hu50 hF1 (by decide) hDI.1, DI_2 hTy0 hTy hT_m0 hu52 hF1 (by decide) hDI.2⟩
  have hJY := JY_fr hF1 (by decide) (by decide) (by decide) (by decide) hJY
  refine lv_pop hx hb dL_law_1170 rfl ?_
  refine lv_aload_n hx hb dL_law_1171 rfl (lv_at hl 1 rfl) ?_
  refine lv_aload_n hx hb dL_law_1172 rfl (lv_at hl 3 rfl) ?_
  refine lv_iload_n hx hb dL_law_1173 rfl (lv_at hl 0 rfl) ?_
  refine lv_iconst (v := 1) hx hb dL_law_1174 (by decide) ?_
  refine lv_iadd hx hb dL_law_1175 ?_
  refine lv_topi (fun z_8 ez_8 => ?_)
  obtain rfl : z_8 = nI ((6 * i) + 1) := ez_8.trans (nI_add (6 * i) (1))
  refine va_sld hx hb hX hbl hbA hW.2.2 (vp_in_nI (n := (6 * i) + 1) (by omega) (by omega)) dL_law_1176 ?_
  refine lv_topi (fun y_9 ey_9 => ?_)
  obtain rfl : y_2 = y_9 := ey_2.trans ey_9.symm
  refine lv_aload_n hx hb dL_law_1177 rfl (lv_at hl 3 rfl) ?_
  refine lv_iload_n hx hb dL_law_1178 rfl (lv_at hl 0 rfl) ?_
  refine lv_iconst (v := 2) hx hb dL_law_1179 (by decide) ?_
  refine lv_iadd hx hb dL_law_1180 ?_
  refine lv_topi (fun z_10 ez_10 => ?_)
  obtain rfl : z_10 = nI ((6 * i) + 2) := ez_10.trans (nI_add (6 * i) (2))
  refine va_sld hx hb hX hbl hbA hW.2.2 (vp_in_nI (n := (6 * i) + 2) (by omega) (by omega)) dL_law_1181 ?_
  refine lv_topi (fun y_11 ey_11 => ?_)
  obtain rfl : y_4 = y_11 := ey_4.trans ey_11.symm
  obtain ⟨_, _, _, _, _, _, _, _, _, _, _, _, _, _, _, _, _, _, _, _, _, _, _, _, _, _, _, _, _, _, _, hS_12, _, _, _, _, _, _, _, _, _, _, _, _, _, _, _, _, _, _, _, _, _, _, _, _, _, _, _⟩ := hTy.k12 hT_m0
  refine pl_calli (va_runV (As := [.int y_2, .int y_4]) (rest := []) ⟨hx, hb, hml, hown, hT⟩ (m_relief l dC dI cy L kap (t9, t9) S_7 H.size m0 y_2 y_4 hTy hT_m0) (cwV 2 hT (gV w1523 w1524 w1525 w14 w1526) rfl rfl rfl (by decide +kernel) ⟨(Nat.le_of_ble_eq_true rfl), (Nat.le_of_ble_eq_true rfl)⟩) ⟨pcN.blind, pl_recv hK hW hT_m0.1 hS_12 rfl, pcN.pre hW.1 hK hW.2.1 hN (fun q h => absurd h List.not_mem_nil)⟩ rfl rfl hl.1 rfl (lv_room (Nat.le_of_ble_eq_true rfl)) dL_law_1182 ⟨(Nat.le_of_ble_eq_true rfl), (Nat.le_of_ble_eq_true rfl)⟩) hW (fun q h => PW_A hW h) hA (fun r_13 S_14 H locs hrel hW => ?_)
  have hTy0 := hTy
  obtain ⟨hTy, hF1⟩ := hrel
  have hDI : DIs S_14 m0 := ⟨DI_0 hTy0 hTy hT_m0 hu50 hF1 (by decide) hDI.1, DI_2 hTy0 hTy hT_m0 hu52 hF1 (by decide) hDI.2⟩
  have hJY := JY_fr hF1 (by decide) (by decide) (by decide) (by decide) hJY
  refine lv_pop hx hb dL_law_1185 rfl ?_
  refine lv_goto (tgt := 1433) hx hb dL_law_1186 (by decide) ?_
  exact kk t9 S_14 H locs ls (by first | exact hTy) hDI hJY hW (lv_sub hl [0, 1, 2, 3] rfl)

set_option maxHeartbeats 4000000 in
set_option maxRecDepth 100000 in
/-- through -/
theorem law_29 {p : Program} {l : Launch} {e : Env} {s : State} {m : MethodId} {below : List Frame} {meth : Method} {c : Code} {b LN : Nat} {xs : Nat → Int32} (hx : p.tables.exec = Jvm.exec) (hb : c.code = code) (hr : meth.sig.returnType = ret) (hml : c.maxLocals = 4) (hown : s.vm.findClass RL = some m.cls) (hT : ∀ w ∈ TB, w.before #[Value.ref b] s = true) (hX : va_X b LN xs s s.heap) (hbl : b < s.heap.size) (hlocks : meth.locks = false) (hLN : LN ≤ 3072) {dC : Nat → ClassId} {dI : Nat → Nat → Nat} {cy : Nat → ClassId} {L : List Nat} {kap : Nat → Nat} {ad : (Nat → Nat) × (Nat → Nat)} {h0 m0 : Nat} (hK : va_K (dC, dI) vwCl (cyT cy) s) (hN : ∀ q ∈ NLs, va_Nw (.methodLinkNest q.1 q.2.1 q.2.2.1 q.2.2.2) s) (hSTR : STR ad (AL L s.heap.size) s s.heap) (hbA : ¬ AL L s.heap.size b) (hT_h0 : TK L kap h0 11) (hT_m0 : TK L kap m0 12) (hu6 : ∀ b9 c9, TK L kap b9 6 → TK L kap c9 6 → b9 = c9) (hu10 : ∀ b9 c9, TK L kap b9 10 → TK L kap c9 10 → b9 = c9) (hu12 : ∀ b9 c9, TK L kap b9 12 → TK L kap c9 12 → b9 = c9) (hu27 : ∀ b9 c9, TK L kap b9 27 → TK L kap c9 27 → b9 = c9) (hu50 : ∀ b9 c9, TK L kap b9 50 → TK L kap c9 50 → b9 = c9) (hu51 : ∀ b9 c9, TK L kap b9 51 → TK L kap c9 51 → b9 = c9) (hu52 : ∀ b9 c9, TK L kap b9 52 → TK L kap c9 52 → b9 = c9) (hu55 : ∀ b9 c9, TK L kap b9 55 → TK L kap c9 55 → b9 = c9) {i t9 : Nat} (hi : 6 * i + 6 ≤ LN) (kk : ∀ (t9 : Nat) (S : Nat → va_E) (H : Heap) (locs : List Loc) (ls : Array Slot), Ty cy L kap (t9, t9) S → DIs S m0 → JY L kap S → PW dC dI L (AL L s.heap.size) s.heap S H locs → lv_has ls 4 [(3, .int (nI (6 * i))), (2, .ref m0), (1, .ref h0), (0, .ref b)] → W p l e room_1 s m #[Value.ref b] below meth c H locs 152 10885 (lw_Z below #[Value.ref b] s) (F0 m 1433 ls [])) {S : Nat → va_E} {H : Heap} {locs : List Loc} {ls : Array Slot} (hTy : Ty cy L kap (t9, t9) S) (hDI : DIs S m0) (hJY : JY L kap S) (hW : PW dC dI L (AL L s.heap.size) s.heap S H locs) (hl : lv_has ls 4 [(3, .int (nI (6 * i))), (2, .ref m0), (1, .ref h0), (0, .ref b)]) : W p l e room_1 s m #[Value.ref b] below meth c H locs 152 10885 (lw_Z below #[Value.ref b] s) (F0 m 1189 ls []) := by
  have hA : ∀ q, s.heap.size ≤ q → AL L s.heap.size q := fun _ h => Or.inr h
  refine lv_aload_n hx hb dL_law_1189 rfl (lv_at hl 2 rfl) ?_
  refine lv_aload_n hx hb dL_law_1190 rfl (lv_at hl 3 rfl) ?_
  refine lv_iload_n hx hb dL_law_1191 rfl (lv_at hl 0 rfl) ?_
  refine lv_iconst (v := 1) hx hb dL_law_1192 (by decide) ?_
  refine lv_iadd hx hb dL_law_1193 ?_
  refine lv_topi (fun z_1 ez_1 => ?_)
  obtain rfl : z_1 = nI ((6 * i) + 1) := ez_1.trans (nI_add (6 * i) (1))
  refine va_sld hx hb hX hbl hbA hW.2.2 (vp_in_nI (n := (6 * i) + 1) (by omega) (by omega)) dL_law_1194 ?_
  refine lv_topi (fun y_2 ey_2 => ?_)
  refine lv_aload_n hx hb dL_law_1195 rfl (lv_at hl 3 rfl) ?_
  refine lv_iload_n hx hb dL_law_1196 rfl (lv_at hl 0 rfl) ?_
  refine lv_iconst (v := 2) hx hb dL_law_1197 (by decide) ?_
  refine lv_iadd hx hb dL_law_1198 ?_
  refine lv_topi (fun z_3 ez_3 => ?_)
  obtain rfl : z_3 = nI ((6 * i) + 2) := ez_3.trans (nI_add (6 * i) (2))
  refine va_sld hx hb hX hbl hbA hW.2.2 (vp_in_nI (n := (6 * i) + 2) (by omega) (by omega)) dL_law_1199 ?_
  refine lv_topi (fun y_4 ey_4 => ?_)
  refine lv_aload_n hx hb dL_law_1200 rfl (lv_at hl 3 rfl) ?_
  refine lv_iload_n hx hb dL_law_1201 rfl (lv_at hl 0 rfl) ?_
  refine lv_iconst (v := 3) hx hb dL_law_1202 (by decide) ?_
  refine lv_iadd hx hb dL_law_1203 ?_
  refine lv_topi (fun z_5 ez_5 => ?_)
  obtain rfl : z_5 = nI ((6 * i) + 3) := ez_5.trans (nI_add (6 * i) (3))
  refine va_sld hx hb hX hbl hbA hW.2.2 (vp_in_nI (n := (6 * i) + 3) (by omega) (by omega)) dL_law_1204 ?_
  refine lv_topi (fun y_6 ey_6 => ?_)
  obtain ⟨_, _, _, _, _, _, _, _, _, _, _, _, _, hS_7, _, _, _, _, _, _, _, _, _, _, _, _⟩ := hTy.k11 hT_h0
  refine pl_calli (va_runV (As := [.int y_2, .int y_4, .int y_6]) (rest := []) ⟨hx, hb, hml, hown, hT⟩ (k_through l dC dI cy L kap (t9, t9) S H.size h0 y_2 y_4 y_6 hTy hT_h0) (cwV 3 hT (gV w1003 w1004 w1005 w1 w1006) rfl rfl rfl (by decide +kernel) ⟨(Nat.le_of_ble_eq_true rfl), (Nat.le_of_ble_eq_true rfl)⟩) ⟨pcN.blind, pl_recv hK hW hT_h0.1 hS_7 rfl, pcN.pre hW.1 hK hW.2.1 hN (fun q h => absurd h List.not_mem_nil)⟩ rfl rfl hl.1 rfl (lv_room (Nat.le_of_ble_eq_true rfl)) dL_law_1205 ⟨(Nat.le_of_ble_eq_true rfl), (Nat.le_of_ble_eq_true rfl)⟩) hW (fun q h => PW_A hW h) hA (fun r_8 S_9 H locs hrel hW => ?_)
  have hTy0 := hTy
  obtain ⟨hTy, hF1⟩ := hrel
  have hDI : DIs S_9 m0 := ⟨DI_0 hTy0 hTy hT_m0 hu50 hF1 (by decide) hDI.1, DI_2 hTy0 hTy hT_m0 hu52 hF1 (by decide) hDI.2⟩
  have hJY := JY_fr hF1 (by decide) (by decide) (by decide) (by decide) hJY
  refine lv_pop hx hb dL_law_1208 rfl ?_
  refine lv_aload_n hx hb dL_law_1209 rfl (lv_at hl 1 rfl) ?_
  refine lv_aload_n hx hb dL_law_1210 rfl (lv_at hl 3 rfl) ?_
  refine lv_iload_n hx hb dL_law_1211 rfl (lv_at hl 0 rfl) ?_
  refine lv_iconst (v := 1) hx hb dL_law_1212 (by decide) ?_
  refine lv_iadd hx hb dL_law_1213 ?_
  refine lv_topi (fun z_10 ez_10 => ?_)
  obtain rfl : z_10 = nI ((6 * i) + 1) := ez_10.trans (nI_add (6 * i) (1))
  refine va_sld hx hb hX hbl hbA hW.2.2 (vp_in_nI (n := (6 * i) + 1) (by omega) (by omega)) dL_law_1214 ?_
  refine lv_topi (fun y_11 ey_11 => ?_)
  obtain rfl : y_2 = y_11 := ey_2.trans ey_11.symm
  refine lv_aload_n hx hb dL_law_1215 rfl (lv_at hl 3 rfl) ?_
  refine lv_iload_n hx hb dL_law_1216 rfl (lv_at hl 0 rfl) ?_
  refine lv_iconst (v := 2) hx hb dL_law_1217 (by decide) ?_
  refine lv_iadd hx hb dL_law_1218 ?_
  refine lv_topi (fun z_12 ez_12 => ?_)
  obtain rfl : z_12 = nI ((6 * i) + 2) := ez_12.trans (nI_add (6 * i) (2))
  refine va_sld hx hb hX hbl hbA hW.2.2 (vp_in_nI (n := (6 * i) + 2) (by omega) (by omega)) dL_law_1219 ?_
  refine lv_topi (fun y_13 ey_13 => ?_)
  obtain rfl : y_4 = y_13 := ey_4.trans ey_13.symm
  refine lv_aload_n hx hb dL_law_1220 rfl (lv_at hl 3 rfl) ?_
  refine lv_iload_n hx hb dL_law_1221 rfl (lv_at hl 0 rfl) ?_
  refine lv_iconst (v := 3) hx hb dL_law_1222 (by decide) ?_
  refine lv_iadd hx hb dL_law_1223 ?_
  refine lv_topi (fun z_14 ez_14 => ?_)
  obtain rfl : z_14 = nI ((6 * i) + 3) := ez_14.trans (nI_add (6 * i) (3))
  refine va_sld hx hb hX hbl hbA hW.2.2 (vp_in_nI (n := (6 * i) + 3) (by omega) (by omega)) dL_law_1224 ?_
  refine lv_topi (fun y_15 ey_15 => ?_)
  obtain rfl : y_6 = y_15 := ey_6.trans ey_15.symm
  obtain ⟨_, _, _, _, _, _, _, _, _, _, _, _, _, _, _, _, _, _, _, _, _, _, _, _, _, _, _, _, _, _, _, hS_16, _, _, _, _, _, _, _, _, _, _, _, _, _, _, _, _, _, _, _, _, _, _, _, _, _, _, _⟩ := hTy.k12 hT_m0
  refine pl_calli (va_runV (As := [.int y_2, .int y_4, .int y_6]) (rest := []) ⟨hx, hb, hml, hown, hT⟩ (m_through l dC dI cy L kap (t9, t9) S_9 H.size m0 y_2 y_4 y_6 hTy hT_m0) (cwV 3 hT (gV w1535 w1536 w1537 w14 w1538) rfl rfl rfl (by decide +kernel) ⟨(Nat.le_of_ble_eq_true rfl), (Nat.le_of_ble_eq_true rfl)⟩) ⟨pcN.blind, pl_recv hK hW hT_m0.1 hS_16 rfl, pcN.pre hW.1 hK hW.2.1 hN (fun q h => absurd h List.not_mem_nil)⟩ rfl rfl hl.1 rfl (lv_room (Nat.le_of_ble_eq_true rfl)) dL_law_1225 ⟨(Nat.le_of_ble_eq_true rfl), (Nat.le_of_ble_eq_true rfl)⟩) hW (fun q h => PW_A hW h) hA (fun r_17 S_18 H locs hrel hW => ?_)
  have hTy0 := hTy
  obtain ⟨hTy, hF1⟩ := hrel
  have hDI : DIs S_18 m0 := ⟨DI_0 hTy0 hTy hT_m0 hu50 hF1 (by decide) hDI.1, DI_2 hTy0 hTy hT_m0 hu52 hF1 (by decide) hDI.2⟩
  have hJY := JY_fr hF1 (by decide) (by decide) (by decide) (by decide) hJY
  refine lv_pop hx hb dL_law_1228 rfl ?_
  refine lv_goto (tgt := 1433) hx hb dL_law_1229 (by decide) ?_
  exact kk t9 S_18 H locs ls (by first | exact hTy) hDI hJY hW (lv_sub hl [0, 1, 2, 3] rfl)

