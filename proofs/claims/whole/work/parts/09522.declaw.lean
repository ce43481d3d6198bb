theorem dL_law__752 : decode cL_law_ 752 = .ok (.iconst 0, 1) := by decide +kernel
theorem dL_law__753 : decode cL_law_ 753 = .ok (.ireturn, 1) := by decide +kernel
theorem dL_law__754 : decode cL_law_ 754 = .ok (.iload 5, 2) := by decide +kernel
theorem dL_law__756 : decode cL_law_ 756 = .ok (.ifCond .ne 15, 3) := by decide +kernel
theorem dL_law__759 : decode cL_law_ 759 = .ok (.aload_n 3, 1) := by decide +kernel
theorem dL_law__760 : decode cL_law_ 760 = .ok (.iconst 0, 1) := by decide +kernel
theorem dL_law__761 : decode cL_law_ 761 = .ok (.laload, 1) := by decide +kernel
theorem dL_law__762 : decode cL_law_ 762 = .ok (.iload 6, 2) := by decide +kernel
theorem dL_law__764 : decode cL_law_ 764 = .ok (.i2l, 1) := by decide +kernel
theorem dL_law__765 : decode cL_law_ 765 = .ok (.lcmp, 1) := by decide +kernel
theorem dL_law__766 : decode cL_law_ 766 = .ok (.ifCond .eq 5, 3) := by decide +kernel
theorem dL_law__769 : decode cL_law_ 769 = .ok (.iconst 0, 1) := by decide +kernel
theorem dL_law__770 : decode cL_law_ 770 = .ok (.ireturn, 1) := by decide +kernel
theorem dL_law__771 : decode cL_law_ 771 = .ok (.goto 1800, 3) := by decide +kernel
theorem dL_law__774 : decode cL_law_ 774 = .ok (.aload_n 1, 1) := by decide +kernel
theorem dL_law__775 : decode cL_law_ 775 = .ok (.aload_n 0, 1) := by decide +kernel
theorem dL_law__776 : decode cL_law_ 776 = .ok (.iload 4, 2) := by decide +kernel
theorem dL_law__778 : decode cL_law_ 778 = .ok (.iconst 1, 1) := by decide +kernel
theorem dL_law__779 : decode cL_law_ 779 = .ok (.iadd, 1) := by decide +kernel
theorem dL_law__780 : decode cL_law_ 780 = .ok (.iaload, 1) := by decide +kernel
theorem dL_law__781 : decode cL_law_ 781 = .ok (.aload_n 0, 1) := by decide +kernel
theorem dL_law__782 : decode cL_law_ 782 = .ok (.iload 4, 2) := by decide +kernel
theorem dL_law__784 : decode cL_law_ 784 = .ok (.iconst 2, 1) := by decide +kernel
theorem dL_law__785 : decode cL_law_ 785 = .ok (.iadd, 1) := by decide +kernel
theorem dL_law__786 : decode cL_law_ 786 = .ok (.iaload, 1) := by decide +kernel
theorem dL_law__787 : decode cL_law_ 787 = .ok (.aload_n 0, 1) := by decide +kernel
theorem dL_law__788 : decode cL_law_ 788 = .ok (.iload 4, 2) := by decide +kernel
theorem dL_law__790 : decode cL_law_ 790 = .ok (.iconst 3, 1) := by decide +kernel
theorem dL_law__791 : decode cL_law_ 791 = .ok (.iadd, 1) := by decide +kernel
theorem dL_law__792 : decode cL_law_ 792 = .ok (.iaload, 1) := by decide +kernel
theorem dL_law__793 : decode cL_law_ 793 = .ok (.aload_n 3, 1) := by decide +kernel
theorem dL_law__794 : decode cL_law_ 794 = .ok (.invokestatic 157, 3) := by decide +kernel
theorem dL_law__797 : decode cL_law_ 797 = .ok (.istore 5, 2) := by decide +kernel
theorem dL_law__799 : decode cL_law_ 799 = .ok (.aload_n 2, 1) := by decide +kernel
theorem dL_law__800 : decode cL_law_ 800 = .ok (.aload_n 0, 1) := by decide +kernel
theorem dL_law__801 : decode cL_law_ 801 = .ok (.iload 4, 2) := by decide +kernel
theorem dL_law__803 : decode cL_law_ 803 = .ok (.iconst 1, 1) := by decide +kernel
theorem dL_law__804 : decode cL_law_ 804 = .ok (.iadd, 1) := by decide +kernel
theorem dL_law__805 : decode cL_law_ 805 = .ok (.iaload, 1) := by decide +kernel
theorem dL_law__806 : decode cL_law_ 806 = .ok (.aload_n 0, 1) := by decide +kernel
theorem dL_law__807 : decode cL_law_ 807 = .ok (.iload 4, 2) := by decide +kernel
theorem dL_law__809 : decode cL_law_ 809 = .ok (.iconst 2, 1) := by decide +kernel
theorem dL_law__810 : decode cL_law_ 810 = .ok (.iadd, 1) := by decide +kernel
theorem dL_law__811 : decode cL_law_ 811 = .ok (.iaload, 1) := by decide +kernel
theorem dL_law__812 : decode cL_law_ 812 = .ok (.aload_n 0, 1) := by decide +kernel
theorem dL_law__813 : decode cL_law_ 813 = .ok (.iload 4, 2) := by decide +kernel
theorem dL_law__815 : decode cL_law_ 815 = .ok (.iconst 3, 1) := by decide +kernel
theorem dL_law__816 : decode cL_law_ 816 = .ok (.iadd, 1) := by decide +kernel
theorem dL_law__817 : decode cL_law_ 817 = .ok (.iaload, 1) := by decide +kernel
theorem dL_law__818 : decode cL_law_ 818 = .ok (.invokevirtual 160, 3) := by decide +kernel
theorem dL_law__821 : decode cL_law_ 821 = .ok (.istore 6, 2) := by decide +kernel
theorem dL_law__823 : decode cL_law_ 823 = .ok (.aload_n 2, 1) := by decide +kernel
theorem dL_law__824 : decode cL_law_ 824 = .ok (.invokevirtual 129, 3) := by decide +kernel
theorem dL_law__827 : decode cL_law_ 827 = .ok (.iload 5, 2) := by decide +kernel
theorem dL_law__829 : decode cL_law_ 829 = .ok (.if_icmp .eq 5, 3) := by decide +kernel
theorem dL_law__832 : decode cL_law_ 832 = .ok (.iconst 0, 1) := by decide +kernel
theorem dL_law__833 : decode cL_law_ 833 = .ok (.ireturn, 1) := by decide +kernel
theorem dL_law__834 : decode cL_law_ 834 = .ok (.iload 5, 2) := by decide +kernel
theorem dL_law__836 : decode cL_law_ 836 = .ok (.ifCond .ne 15, 3) := by decide +kernel
theorem dL_law__839 : decode cL_law_ 839 = .ok (.aload_n 3, 1) := by decide +kernel
theorem dL_law__840 : decode cL_law_ 840 = .ok (.iconst 0, 1) := by decide +kernel
theorem dL_law__841 : decode cL_law_ 841 = .ok (.laload, 1) := by decide +kernel
theorem dL_law__842 : decode cL_law_ 842 = .ok (.iload 6, 2) := by decide +kernel
theorem dL_law__844 : decode cL_law_ 844 = .ok (.i2l, 1) := by decide +kernel
theorem dL_law__845 : decode cL_law_ 845 = .ok (.lcmp, 1) := by decide +kernel
theorem dL_law__846 : decode cL_law_ 846 = .ok (.ifCond .eq 5, 3) := by decide +kernel
theorem dL_law__849 : decode cL_law_ 849 = .ok (.iconst 0, 1) := by decide +kernel
theorem dL_law__850 : decode cL_law_ 850 = .ok (.ireturn, 1) := by decide +kernel
theorem dL_law__851 : decode cL_law_ 851 = .ok (.goto 1720, 3) := by decide +kernel
theorem dL_law__854 : decode cL_law_ 854 = .ok (.aload_n 1, 1) := by decide +kernel
theorem dL_law__855 : decode cL_law_ 855 = .ok (.aload_n 0, 1) := by decide +kernel
theorem dL_law__856 : decode cL_law_ 856 = .ok (.iload 4, 2) := by decide +kernel
theorem dL_law__858 : decode cL_law_ 858 = .ok (.iconst 1, 1) := by decide +kernel
theorem dL_law__859 : decode cL_law_ 859 = .ok (.iadd, 1) := by decide +kernel
theorem dL_law__860 : decode cL_law_ 860 = .ok (.iaload, 1) := by decide +kernel
theorem dL_law__861 : decode cL_law_ 861 = .ok (.aload_n 0, 1) := by decide +kernel
theorem dL_law__862 : decode cL_law_ 862 = .ok (.iload 4, 2) := by decide +kernel
theorem dL_law__864 : decode cL_law_ 864 = .ok (.iconst 2, 1) := by decide +kernel
theorem dL_law__865 : decode cL_law_ 865 = .ok (.iadd, 1) := by decide +kernel
theorem dL_law__866 : decode cL_law_ 866 = .ok (.iaload, 1) := by decide +kernel
theorem dL_law__867 : decode cL_law_ 867 = .ok (.aload_n 0, 1) := by decide +kernel
theorem dL_law__868 : decode cL_law_ 868 = .ok (.iload 4, 2) := by decide +kernel
theorem dL_law__870 : decode cL_law_ 870 = .ok (.iconst 3, 1) := by decide +kernel
theorem dL_law__871 : decode cL_law_ 871 = .ok (.iadd, 1) := by decide +kernel
theorem dL_law__872 : decode cL_law_ 872 = .ok (.iaload, 1) := by decide +kernel
theorem dL_law__873 : decode cL_law_ 873 = .ok (.aload_n 0, 1) := by decide +kernel
theorem dL_law__874 : decode cL_law_ 874 = .ok (.iload 4, 2) := by decide +kernel
theorem dL_law__876 : decode cL_law_ 876 = .ok (.iconst 4, 1) := by decide +kernel
theorem dL_law__877 : decode cL_law_ 877 = .ok (.iadd, 1) := by decide +kernel
theorem dL_law__878 : decode cL_law_ 878 = .ok (.iaload, 1) := by decide +kernel
theorem dL_law__879 : decode cL_law_ 879 = .ok (.aload_n 3, 1) := by decide +kernel
theorem dL_law__880 : decode cL_law_ 880 = .ok (.invokestatic 161, 3) := by decide +kernel
theorem dL_law__883 : decode cL_law_ 883 = .ok (.istore 5, 2) := by decide +kernel
theorem dL_law__885 : decode cL_law_ 885 = .ok (.aload_n 2, 1) := by decide +kernel
theorem dL_law__886 : decode cL_law_ 886 = .ok (.aload_n 0, 1) := by decide +kernel
theorem dL_law__887 : decode cL_law_ 887 = .ok (.iload 4, 2) := by decide +kernel
theorem dL_law__889 : decode cL_law_ 889 = .ok (.iconst 1, 1) := by decide +kernel
theorem dL_law__890 : decode cL_law_ 890 = .ok (.iadd, 1) := by decide +kernel
theorem dL_law__891 : decode cL_law_ 891 = .ok (.iaload, 1) := by decide +kernel
theorem dL_law__892 : decode cL_law_ 892 = .ok (.aload_n 0, 1) := by decide +kernel
theorem dL_law__893 : decode cL_law_ 893 = .ok (.iload 4, 2) := by decide +kernel
theorem dL_law__895 : decode cL_law_ 895 = .ok (.iconst 2, 1) := by decide +kernel
theorem dL_law__896 : decode cL_law_ 896 = .ok (.iadd, 1) := by decide +kernel
theorem dL_law__897 : decode cL_law_ 897 = .ok (.iaload, 1) := by decide +kernel
theorem dL_law__898 : decode cL_law_ 898 = .ok (.aload_n 0, 1) := by decide +kernel
theorem dL_law__899 : decode cL_law_ 899 = .ok (.iload 4, 2) := by decide +kernel
theorem dL_law__901 : decode cL_law_ 901 = .ok (.iconst 3, 1) := by decide +kernel
theorem dL_law__902 : decode cL_law_ 902 = .ok (.iadd, 1) := by decide +kernel
theorem dL_law__903 : decode cL_law_ 903 = .ok (.iaload, 1) := by decide +kernel
theorem dL_law__904 : decode cL_law_ 904 = .ok (.aload_n 0, 1) := by decide +kernel
theorem dL_law__905 : decode cL_law_ 905 = .ok (.iload 4, 2) := by decide +kernel
theorem dL_law__907 : decode cL_law_ 907 = .ok (.iconst 4, 1) := by decide +kernel
theorem dL_law__908 : decode cL_law_ 908 = .ok (.iadd, 1) := by decide +kernel
theorem dL_law__909 : decode cL_law_ 909 = .ok (.iaload, 1) := by decide +kernel
theorem dL_law__910 : decode cL_law_ 910 = .ok (.invokevirtual 163, 3) := by decide +kernel
theorem dL_law__913 : decode cL_law_ 913 = .ok (.istore 6, 2) := by decide +kernel
theorem dL_law__915 : decode cL_law_ 915 = .ok (.aload_n 2, 1) := by decide +kernel
theorem dL_law__916 : decode cL_law_ 916 = .ok (.invokevirtual 129, 3) := by decide +kernel
theorem dL_law__919 : decode cL_law_ 919 = .ok (.iload 5, 2) := by decide +kernel
theorem dL_law__921 : decode cL_law_ 921 = .ok (.if_icmp .eq 5, 3) := by decide +kernel
theorem dL_law__924 : decode cL_law_ 924 = .ok (.iconst 0, 1) := by decide +kernel
theorem dL_law__925 : decode cL_law_ 925 = .ok (.ireturn, 1) := by decide +kernel
theorem dL_law__926 : decode cL_law_ 926 = .ok (.iload 5, 2) := by decide +kernel
theorem dL_law__928 : decode cL_law_ 928 = .ok (.ifCond .ne 15, 3) := by decide +kernel
theorem dL_law__931 : decode cL_law_ 931 = .ok (.aload_n 3, 1) := by decide +kernel
theorem dL_law__932 : decode cL_law_ 932 = .ok (.iconst 0, 1) := by decide +kernel
theorem dL_law__933 : decode cL_law_ 933 = .ok (.laload, 1) := by decide +kernel
theorem dL_law__934 : decode cL_law_ 934 = .ok (.iload 6, 2) := by decide +kernel
theorem dL_law__936 : decode cL_law_ 936 = .ok (.i2l, 1) := by decide +kernel
theorem dL_law__937 : decode cL_law_ 937 = .ok (.lcmp, 1) := by decide +kernel
theorem dL_law__938 : decode cL_law_ 938 = .ok (.ifCond .eq 5, 3) := by decide +kernel
theorem dL_law__941 : decode cL_law_ 941 = .ok (.iconst 0, 1) := by decide +kernel
theorem dL_law__942 : decode cL_law_ 942 = .ok (.ireturn, 1) := by decide +kernel
theorem dL_law__943 : decode cL_law_ 943 = .ok (.goto 1628, 3) := by decide +kernel
theorem dL_law__946 : decode cL_law_ 946 = .ok (.aload_n 1, 1) := by decide +kernel
theorem dL_law__947 : decode cL_law_ 947 = .ok (.aload_n 0, 1) := by decide +kernel
theorem dL_law__948 : decode cL_law_ 948 = .ok (.iload 4, 2) := by decide +kernel
theorem dL_law__950 : decode cL_law_ 950 = .ok (.iconst 1, 1) := by decide +kernel
theorem dL_law__951 : decode cL_law_ 951 = .ok (.iadd, 1) := by decide +kernel
theorem dL_law__952 : decode cL_law_ 952 = .ok (.iaload, 1) := by decide +kernel
theorem dL_law__953 : decode cL_law_ 953 = .ok (.aload_n 0, 1) := by decide +kernel
theorem dL_law__954 : decode cL_law_ 954 = .ok (.iload 4, 2) := by decide +kernel
theorem dL_law__956 : decode cL_law_ 956 = .ok (.iconst 2, 1) := by decide +kernel
theorem dL_law__957 : decode cL_law_ 957 = .ok (.iadd, 1) := by decide +kernel
theorem dL_law__958 : decode cL_law_ 958 = .ok (.iaload, 1) := by decide +kernel
theorem dL_law__959 : decode cL_law_ 959 = .ok (.aload_n 3, 1) := by decide +kernel
theorem dL_law__960 : decode cL_law_ 960 = .ok (.invokestatic 164, 3) := by decide +kernel
theorem dL_law__963 : decode cL_law_ 963 = .ok (.istore 5, 2) := by decide +kernel
theorem dL_law__965 : decode cL_law_ 965 = .ok (.aload_n 2, 1) := by decide +kernel
theorem dL_law__966 : decode cL_law_ 966 = .ok (.aload_n 0, 1) := by decide +kernel
theorem dL_law__967 : decode cL_law_ 967 = .ok (.iload 4, 2) := by decide +kernel
theorem dL_law__969 : decode cL_law_ 969 = .ok (.iconst 1, 1) := by decide +kernel
theorem dL_law__970 : decode cL_law_ 970 = .ok (.iadd, 1) := by decide +kernel
theorem dL_law__971 : decode cL_law_ 971 = .ok (.iaload, 1) := by decide +kernel
theorem dL_law__972 : decode cL_law_ 972 = .ok (.aload_n 0, 1) := by decide +kernel
theorem dL_law__973 : decode cL_law_ 973 = .ok (.iload 4, 2) := by decide +kernel
theorem dL_law__975 : decode cL_law_ 975 = .ok (.iconst 2, 1) := by decide +kernel
theorem dL_law__976 : decode cL_law_ 976 = .ok (.iadd, 1) := by decide +kernel
theorem dL_law__977 : decode cL_law_ 977 = .ok (.iaload, 1) := by decide +kernel
theorem dL_law__978 : decode cL_law_ 978 = .ok (.invokevirtual 166, 3) := by decide +kernel
theorem dL_law__981 : decode cL_law_ 981 = .ok (.istore 6, 2) := by decide +kernel
theorem dL_law__983 : decode cL_law_ 983 = .ok (.aload_n 2, 1) := by decide +kernel
theorem dL_law__984 : decode cL_law_ 984 = .ok (.invokevirtual 129, 3) := by decide +kernel
theorem dL_law__987 : decode cL_law_ 987 = .ok (.iload 5, 2) := by decide +kernel
theorem dL_law__989 : decode cL_law_ 989 = .ok (.if_icmp .eq 5, 3) := by decide +kernel
theorem dL_law__992 : decode cL_law_ 992 = .ok (.iconst 0, 1) := by decide +kernel
theorem dL_law__993 : decode cL_law_ 993 = .ok (.ireturn, 1) := by decide +kernel
theorem dL_law__994 : decode cL_law_ 994 = .ok (.iload 5, 2) := by decide +kernel
theorem dL_law__996 : decode cL_law_ 996 = .ok (.ifCond .ne 15, 3) := by decide +kernel
theorem dL_law__999 : decode cL_law_ 999 = .ok (.aload_n 3, 1) := by decide +kernel
theorem dL_law__1000 : decode cL_law_ 1000 = .ok (.iconst 0, 1) := by decide +kernel
theorem dL_law__1001 : decode cL_law_ 1001 = .ok (.laload, 1) := by decide +kernel
theorem dL_law__1002 : decode cL_law_ 1002 = .ok (.iload 6, 2) := by decide +kernel
theorem dL_law__1004 : decode cL_law_ 1004 = .ok (.i2l, 1) := by decide +kernel
theorem dL_law__1005 : decode cL_law_ 1005 = .ok (.lcmp, 1) := by decide +kernel
theorem dL_law__1006 : decode cL_law_ 1006 = .ok (.ifCond .eq 5, 3) := by decide +kernel
theorem dL_law__1009 : decode cL_law_ 1009 = .ok (.iconst 0, 1) := by decide +kernel
theorem dL_law__1010 : decode cL_law_ 1010 = .ok (.ireturn, 1) := by decide +kernel
theorem dL_law__1011 : decode cL_law_ 1011 = .ok (.goto 1560, 3) := by decide +kernel
theorem dL_law__1014 : decode cL_law_ 1014 = .ok (.aload_n 1, 1) := by decide +kernel
theorem dL_law__1015 : decode cL_law_ 1015 = .ok (.aload_n 0, 1) := by decide +kernel
theorem dL_law__1016 : decode cL_law_ 1016 = .ok (.iload 4, 2) := by decide +kernel
theorem dL_law__1018 : decode cL_law_ 1018 = .ok (.iconst 1, 1) := by decide +kernel
theorem dL_law__1019 : decode cL_law_ 1019 = .ok (.iadd, 1) := by decide +kernel
theorem dL_law__1020 : decode cL_law_ 1020 = .ok (.iaload, 1) := by decide +kernel
theorem dL_law__1021 : decode cL_law_ 1021 = .ok (.aload_n 3, 1) := by decide +kernel
theorem dL_law__1022 : decode cL_law_ 1022 = .ok (.invokestatic 167, 3) := by decide +kernel
theorem dL_law__1025 : decode cL_law_ 1025 = .ok (.istore 5, 2) := by decide +kernel
theorem dL_law__1027 : decode cL_law_ 1027 = .ok (.aload_n 2, 1) := by decide +kernel
theorem dL_law__1028 : decode cL_law_ 1028 = .ok (.aload_n 0, 1) := by decide +kernel
theorem dL_law__1029 : decode cL_law_ 1029 = .ok (.iload 4, 2) := by decide +kernel
theorem dL_law__1031 : decode cL_law_ 1031 = .ok (.iconst 1, 1) := by decide +kernel
theorem dL_law__1032 : decode cL_law_ 1032 = .ok (.iadd, 1) := by decide +kernel
theorem dL_law__1033 : decode cL_law_ 1033 = .ok (.iaload, 1) := by decide +kernel
theorem dL_law__1034 : decode cL_law_ 1034 = .ok (.invokevirtual 169, 3) := by decide +kernel
theorem dL_law__1037 : decode cL_law_ 1037 = .ok (.istore 6, 2) := by decide +kernel
theorem dL_law__1039 : decode cL_law_ 1039 = .ok (.aload_n 2, 1) := by decide +kernel
theorem dL_law__1040 : decode cL_law_ 1040 = .ok (.invokevirtual 129, 3) := by decide +kernel
theorem dL_law__1043 : decode cL_law_ 1043 = .ok (.iload 5, 2) := by decide +kernel
theorem dL_law__1045 : decode cL_law_ 1045 = .ok (.if_icmp .eq 5, 3) := by decide +kernel
