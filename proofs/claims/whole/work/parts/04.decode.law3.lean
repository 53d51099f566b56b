theorem d_law_797 : decode code 797 = .ok (.lcmp, 1) := by decide +kernel
theorem d_law_798 : decode code 798 = .ok (.ifCond .eq 5, 3) := by decide +kernel
theorem d_law_801 : decode code 801 = .ok (.iconst 0, 1) := by decide +kernel
theorem d_law_802 : decode code 802 = .ok (.ireturn, 1) := by decide +kernel
theorem d_law_803 : decode code 803 = .ok (.goto 184, 3) := by decide +kernel
theorem d_law_806 : decode code 806 = .ok (.aload_n 1, 1) := by decide +kernel
theorem d_law_807 : decode code 807 = .ok (.aload_n 0, 1) := by decide +kernel
theorem d_law_808 : decode code 808 = .ok (.iload 4, 2) := by decide +kernel
theorem d_law_810 : decode code 810 = .ok (.iconst 1, 1) := by decide +kernel
theorem d_law_811 : decode code 811 = .ok (.iadd, 1) := by decide +kernel
theorem d_law_812 : decode code 812 = .ok (.iaload, 1) := by decide +kernel
theorem d_law_813 : decode code 813 = .ok (.aload_n 3, 1) := by decide +kernel
theorem d_law_814 : decode code 814 = .ok (.invokestatic 107, 3) := by decide +kernel
theorem d_law_817 : decode code 817 = .ok (.istore 5, 2) := by decide +kernel
theorem d_law_819 : decode code 819 = .ok (.aload_n 2, 1) := by decide +kernel
theorem d_law_820 : decode code 820 = .ok (.aload_n 0, 1) := by decide +kernel
theorem d_law_821 : decode code 821 = .ok (.iload 4, 2) := by decide +kernel
theorem d_law_823 : decode code 823 = .ok (.iconst 1, 1) := by decide +kernel
theorem d_law_824 : decode code 824 = .ok (.iadd, 1) := by decide +kernel
theorem d_law_825 : decode code 825 = .ok (.iaload, 1) := by decide +kernel
theorem d_law_826 : decode code 826 = .ok (.invokevirtual 109, 3) := by decide +kernel
theorem d_law_829 : decode code 829 = .ok (.istore 6, 2) := by decide +kernel
theorem d_law_831 : decode code 831 = .ok (.aload_n 2, 1) := by decide +kernel
theorem d_law_832 : decode code 832 = .ok (.invokevirtual 72, 3) := by decide +kernel
theorem d_law_835 : decode code 835 = .ok (.iload 5, 2) := by decide +kernel
theorem d_law_837 : decode code 837 = .ok (.if_icmp .eq 5, 3) := by decide +kernel
theorem d_law_840 : decode code 840 = .ok (.iconst 0, 1) := by decide +kernel
theorem d_law_841 : decode code 841 = .ok (.ireturn, 1) := by decide +kernel
theorem d_law_842 : decode code 842 = .ok (.iload 5, 2) := by decide +kernel
theorem d_law_844 : decode code 844 = .ok (.ifCond .ne 15, 3) := by decide +kernel
theorem d_law_847 : decode code 847 = .ok (.aload_n 3, 1) := by decide +kernel
theorem d_law_848 : decode code 848 = .ok (.iconst 0, 1) := by decide +kernel
theorem d_law_849 : decode code 849 = .ok (.laload, 1) := by decide +kernel
theorem d_law_850 : decode code 850 = .ok (.iload 6, 2) := by decide +kernel
theorem d_law_852 : decode code 852 = .ok (.i2l, 1) := by decide +kernel
theorem d_law_853 : decode code 853 = .ok (.lcmp, 1) := by decide +kernel
theorem d_law_854 : decode code 854 = .ok (.ifCond .eq 5, 3) := by decide +kernel
theorem d_law_857 : decode code 857 = .ok (.iconst 0, 1) := by decide +kernel
theorem d_law_858 : decode code 858 = .ok (.ireturn, 1) := by decide +kernel
theorem d_law_859 : decode code 859 = .ok (.goto 128, 3) := by decide +kernel
theorem d_law_862 : decode code 862 = .ok (.aload_n 1, 1) := by decide +kernel
theorem d_law_863 : decode code 863 = .ok (.aload_n 0, 1) := by decide +kernel
theorem d_law_864 : decode code 864 = .ok (.iload 4, 2) := by decide +kernel
theorem d_law_866 : decode code 866 = .ok (.iconst 1, 1) := by decide +kernel
theorem d_law_867 : decode code 867 = .ok (.iadd, 1) := by decide +kernel
theorem d_law_868 : decode code 868 = .ok (.iaload, 1) := by decide +kernel
theorem d_law_869 : decode code 869 = .ok (.aload_n 3, 1) := by decide +kernel
theorem d_law_870 : decode code 870 = .ok (.invokestatic 110, 3) := by decide +kernel
theorem d_law_873 : decode code 873 = .ok (.istore 5, 2) := by decide +kernel
theorem d_law_875 : decode code 875 = .ok (.aload_n 2, 1) := by decide +kernel
theorem d_law_876 : decode code 876 = .ok (.aload_n 0, 1) := by decide +kernel
theorem d_law_877 : decode code 877 = .ok (.iload 4, 2) := by decide +kernel
theorem d_law_879 : decode code 879 = .ok (.iconst 1, 1) := by decide +kernel
theorem d_law_880 : decode code 880 = .ok (.iadd, 1) := by decide +kernel
theorem d_law_881 : decode code 881 = .ok (.iaload, 1) := by decide +kernel
theorem d_law_882 : decode code 882 = .ok (.invokevirtual 112, 3) := by decide +kernel
theorem d_law_885 : decode code 885 = .ok (.istore 6, 2) := by decide +kernel
theorem d_law_887 : decode code 887 = .ok (.aload_n 2, 1) := by decide +kernel
theorem d_law_888 : decode code 888 = .ok (.invokevirtual 72, 3) := by decide +kernel
theorem d_law_891 : decode code 891 = .ok (.iload 5, 2) := by decide +kernel
theorem d_law_893 : decode code 893 = .ok (.if_icmp .eq 5, 3) := by decide +kernel
theorem d_law_896 : decode code 896 = .ok (.iconst 0, 1) := by decide +kernel
theorem d_law_897 : decode code 897 = .ok (.ireturn, 1) := by decide +kernel
theorem d_law_898 : decode code 898 = .ok (.iload 5, 2) := by decide +kernel
theorem d_law_900 : decode code 900 = .ok (.ifCond .ne 15, 3) := by decide +kernel
theorem d_law_903 : decode code 903 = .ok (.aload_n 3, 1) := by decide +kernel
theorem d_law_904 : decode code 904 = .ok (.iconst 0, 1) := by decide +kernel
theorem d_law_905 : decode code 905 = .ok (.laload, 1) := by decide +kernel
theorem d_law_906 : decode code 906 = .ok (.iload 6, 2) := by decide +kernel
theorem d_law_908 : decode code 908 = .ok (.i2l, 1) := by decide +kernel
theorem d_law_909 : decode code 909 = .ok (.lcmp, 1) := by decide +kernel
theorem d_law_910 : decode code 910 = .ok (.ifCond .eq 5, 3) := by decide +kernel
theorem d_law_913 : decode code 913 = .ok (.iconst 0, 1) := by decide +kernel
theorem d_law_914 : decode code 914 = .ok (.ireturn, 1) := by decide +kernel
theorem d_law_915 : decode code 915 = .ok (.goto 72, 3) := by decide +kernel
theorem d_law_918 : decode code 918 = .ok (.aload_n 1, 1) := by decide +kernel
theorem d_law_919 : decode code 919 = .ok (.invokevirtual 113, 3) := by decide +kernel
theorem d_law_922 : decode code 922 = .ok (.aload_n 2, 1) := by decide +kernel
theorem d_law_923 : decode code 923 = .ok (.invokevirtual 116, 3) := by decide +kernel
theorem d_law_926 : decode code 926 = .ok (.if_icmp .eq 61, 3) := by decide +kernel
theorem d_law_929 : decode code 929 = .ok (.iconst 0, 1) := by decide +kernel
theorem d_law_930 : decode code 930 = .ok (.ireturn, 1) := by decide +kernel
theorem d_law_931 : decode code 931 = .ok (.aload_n 1, 1) := by decide +kernel
theorem d_law_932 : decode code 932 = .ok (.aload_n 0, 1) := by decide +kernel
theorem d_law_933 : decode code 933 = .ok (.iload 4, 2) := by decide +kernel
theorem d_law_935 : decode code 935 = .ok (.iconst 1, 1) := by decide +kernel
theorem d_law_936 : decode code 936 = .ok (.iadd, 1) := by decide +kernel
theorem d_law_937 : decode code 937 = .ok (.iaload, 1) := by decide +kernel
theorem d_law_938 : decode code 938 = .ok (.aload_n 3, 1) := by decide +kernel
theorem d_law_939 : decode code 939 = .ok (.invokestatic 117, 3) := by decide +kernel
theorem d_law_942 : decode code 942 = .ok (.istore 5, 2) := by decide +kernel
theorem d_law_944 : decode code 944 = .ok (.aload_n 2, 1) := by decide +kernel
theorem d_law_945 : decode code 945 = .ok (.aload_n 0, 1) := by decide +kernel
theorem d_law_946 : decode code 946 = .ok (.iload 4, 2) := by decide +kernel
theorem d_law_948 : decode code 948 = .ok (.iconst 1, 1) := by decide +kernel
theorem d_law_949 : decode code 949 = .ok (.iadd, 1) := by decide +kernel
theorem d_law_950 : decode code 950 = .ok (.iaload, 1) := by decide +kernel
theorem d_law_951 : decode code 951 = .ok (.invokevirtual 119, 3) := by decide +kernel
theorem d_law_954 : decode code 954 = .ok (.istore 6, 2) := by decide +kernel
theorem d_law_956 : decode code 956 = .ok (.aload_n 2, 1) := by decide +kernel
theorem d_law_957 : decode code 957 = .ok (.invokevirtual 72, 3) := by decide +kernel
theorem d_law_960 : decode code 960 = .ok (.iload 5, 2) := by decide +kernel
theorem d_law_962 : decode code 962 = .ok (.if_icmp .eq 5, 3) := by decide +kernel
theorem d_law_965 : decode code 965 = .ok (.iconst 0, 1) := by decide +kernel
theorem d_law_966 : decode code 966 = .ok (.ireturn, 1) := by decide +kernel
theorem d_law_967 : decode code 967 = .ok (.iload 5, 2) := by decide +kernel
theorem d_law_969 : decode code 969 = .ok (.ifCond .ne 15, 3) := by decide +kernel
theorem d_law_972 : decode code 972 = .ok (.aload_n 3, 1) := by decide +kernel
theorem d_law_973 : decode code 973 = .ok (.iconst 0, 1) := by decide +kernel
theorem d_law_974 : decode code 974 = .ok (.laload, 1) := by decide +kernel
theorem d_law_975 : decode code 975 = .ok (.iload 6, 2) := by decide +kernel
theorem d_law_977 : decode code 977 = .ok (.i2l, 1) := by decide +kernel
theorem d_law_978 : decode code 978 = .ok (.lcmp, 1) := by decide +kernel
theorem d_law_979 : decode code 979 = .ok (.ifCond .eq 5, 3) := by decide +kernel
theorem d_law_982 : decode code 982 = .ok (.iconst 0, 1) := by decide +kernel
theorem d_law_983 : decode code 983 = .ok (.ireturn, 1) := by decide +kernel
theorem d_law_984 : decode code 984 = .ok (.goto 3, 3) := by decide +kernel
theorem d_law_987 : decode code 987 = .ok (.iinc 4 7, 3) := by decide +kernel
theorem d_law_990 : decode code 990 = .ok (.goto (-967), 3) := by decide +kernel
theorem d_law_993 : decode code 993 = .ok (.iconst 1, 1) := by decide +kernel
theorem d_law_994 : decode code 994 = .ok (.ireturn, 1) := by decide +kernel
