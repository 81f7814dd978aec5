theorem d_L_law_768 : decode c_L_law 768 = .ok (.i2l, 1) := by decide +kernel
theorem d_L_law_769 : decode c_L_law 769 = .ok (.bipush 32, 2) := by decide +kernel
theorem d_L_law_771 : decode c_L_law 771 = .ok (.lshl, 1) := by decide +kernel
theorem d_L_law_772 : decode c_L_law 772 = .ok (.aload_n 0, 1) := by decide +kernel
theorem d_L_law_773 : decode c_L_law 773 = .ok (.iload 4, 2) := by decide +kernel
theorem d_L_law_775 : decode c_L_law 775 = .ok (.iconst 5, 1) := by decide +kernel
theorem d_L_law_776 : decode c_L_law 776 = .ok (.iadd, 1) := by decide +kernel
theorem d_L_law_777 : decode c_L_law 777 = .ok (.iaload, 1) := by decide +kernel
theorem d_L_law_778 : decode c_L_law 778 = .ok (.i2l, 1) := by decide +kernel
theorem d_L_law_779 : decode c_L_law 779 = .ok (.ldc2_w 81, 3) := by decide +kernel
theorem d_L_law_782 : decode c_L_law 782 = .ok (.land, 1) := by decide +kernel
theorem d_L_law_783 : decode c_L_law 783 = .ok (.lor, 1) := by decide +kernel
theorem d_L_law_784 : decode c_L_law 784 = .ok (.aload_n 0, 1) := by decide +kernel
theorem d_L_law_785 : decode c_L_law 785 = .ok (.iload 4, 2) := by decide +kernel
theorem d_L_law_787 : decode c_L_law 787 = .ok (.bipush 6, 2) := by decide +kernel
theorem d_L_law_789 : decode c_L_law 789 = .ok (.iadd, 1) := by decide +kernel
theorem d_L_law_790 : decode c_L_law 790 = .ok (.iaload, 1) := by decide +kernel
theorem d_L_law_791 : decode c_L_law 791 = .ok (.i2l, 1) := by decide +kernel
theorem d_L_law_792 : decode c_L_law 792 = .ok (.bipush 32, 2) := by decide +kernel
theorem d_L_law_794 : decode c_L_law 794 = .ok (.lshl, 1) := by decide +kernel
theorem d_L_law_795 : decode c_L_law 795 = .ok (.aload_n 0, 1) := by decide +kernel
theorem d_L_law_796 : decode c_L_law 796 = .ok (.iload 4, 2) := by decide +kernel
theorem d_L_law_798 : decode c_L_law 798 = .ok (.bipush 7, 2) := by decide +kernel
theorem d_L_law_800 : decode c_L_law 800 = .ok (.iadd, 1) := by decide +kernel
theorem d_L_law_801 : decode c_L_law 801 = .ok (.iaload, 1) := by decide +kernel
theorem d_L_law_802 : decode c_L_law 802 = .ok (.i2l, 1) := by decide +kernel
theorem d_L_law_803 : decode c_L_law 803 = .ok (.ldc2_w 81, 3) := by decide +kernel
theorem d_L_law_806 : decode c_L_law 806 = .ok (.land, 1) := by decide +kernel
theorem d_L_law_807 : decode c_L_law 807 = .ok (.lor, 1) := by decide +kernel
theorem d_L_law_808 : decode c_L_law 808 = .ok (.aload_n 3, 1) := by decide +kernel
theorem d_L_law_809 : decode c_L_law 809 = .ok (.invokestatic 114, 3) := by decide +kernel
theorem d_L_law_812 : decode c_L_law 812 = .ok (.istore 5, 2) := by decide +kernel
theorem d_L_law_814 : decode c_L_law 814 = .ok (.aload_n 2, 1) := by decide +kernel
theorem d_L_law_815 : decode c_L_law 815 = .ok (.aload_n 0, 1) := by decide +kernel
theorem d_L_law_816 : decode c_L_law 816 = .ok (.iload 4, 2) := by decide +kernel
theorem d_L_law_818 : decode c_L_law 818 = .ok (.iconst 1, 1) := by decide +kernel
theorem d_L_law_819 : decode c_L_law 819 = .ok (.iadd, 1) := by decide +kernel
theorem d_L_law_820 : decode c_L_law 820 = .ok (.iaload, 1) := by decide +kernel
theorem d_L_law_821 : decode c_L_law 821 = .ok (.aload_n 0, 1) := by decide +kernel
theorem d_L_law_822 : decode c_L_law 822 = .ok (.iload 4, 2) := by decide +kernel
theorem d_L_law_824 : decode c_L_law 824 = .ok (.iconst 2, 1) := by decide +kernel
theorem d_L_law_825 : decode c_L_law 825 = .ok (.iadd, 1) := by decide +kernel
theorem d_L_law_826 : decode c_L_law 826 = .ok (.iaload, 1) := by decide +kernel
theorem d_L_law_827 : decode c_L_law 827 = .ok (.i2l, 1) := by decide +kernel
theorem d_L_law_828 : decode c_L_law 828 = .ok (.bipush 32, 2) := by decide +kernel
theorem d_L_law_830 : decode c_L_law 830 = .ok (.lshl, 1) := by decide +kernel
theorem d_L_law_831 : decode c_L_law 831 = .ok (.aload_n 0, 1) := by decide +kernel
theorem d_L_law_832 : decode c_L_law 832 = .ok (.iload 4, 2) := by decide +kernel
theorem d_L_law_834 : decode c_L_law 834 = .ok (.iconst 3, 1) := by decide +kernel
theorem d_L_law_835 : decode c_L_law 835 = .ok (.iadd, 1) := by decide +kernel
theorem d_L_law_836 : decode c_L_law 836 = .ok (.iaload, 1) := by decide +kernel
theorem d_L_law_837 : decode c_L_law 837 = .ok (.i2l, 1) := by decide +kernel
theorem d_L_law_838 : decode c_L_law 838 = .ok (.ldc2_w 81, 3) := by decide +kernel
theorem d_L_law_841 : decode c_L_law 841 = .ok (.land, 1) := by decide +kernel
theorem d_L_law_842 : decode c_L_law 842 = .ok (.lor, 1) := by decide +kernel
theorem d_L_law_843 : decode c_L_law 843 = .ok (.aload_n 0, 1) := by decide +kernel
theorem d_L_law_844 : decode c_L_law 844 = .ok (.iload 4, 2) := by decide +kernel
theorem d_L_law_846 : decode c_L_law 846 = .ok (.iconst 4, 1) := by decide +kernel
theorem d_L_law_847 : decode c_L_law 847 = .ok (.iadd, 1) := by decide +kernel
theorem d_L_law_848 : decode c_L_law 848 = .ok (.iaload, 1) := by decide +kernel
theorem d_L_law_849 : decode c_L_law 849 = .ok (.i2l, 1) := by decide +kernel
theorem d_L_law_850 : decode c_L_law 850 = .ok (.bipush 32, 2) := by decide +kernel
theorem d_L_law_852 : decode c_L_law 852 = .ok (.lshl, 1) := by decide +kernel
theorem d_L_law_853 : decode c_L_law 853 = .ok (.aload_n 0, 1) := by decide +kernel
theorem d_L_law_854 : decode c_L_law 854 = .ok (.iload 4, 2) := by decide +kernel
theorem d_L_law_856 : decode c_L_law 856 = .ok (.iconst 5, 1) := by decide +kernel
theorem d_L_law_857 : decode c_L_law 857 = .ok (.iadd, 1) := by decide +kernel
theorem d_L_law_858 : decode c_L_law 858 = .ok (.iaload, 1) := by decide +kernel
theorem d_L_law_859 : decode c_L_law 859 = .ok (.i2l, 1) := by decide +kernel
theorem d_L_law_860 : decode c_L_law 860 = .ok (.ldc2_w 81, 3) := by decide +kernel
theorem d_L_law_863 : decode c_L_law 863 = .ok (.land, 1) := by decide +kernel
theorem d_L_law_864 : decode c_L_law 864 = .ok (.lor, 1) := by decide +kernel
theorem d_L_law_865 : decode c_L_law 865 = .ok (.aload_n 0, 1) := by decide +kernel
theorem d_L_law_866 : decode c_L_law 866 = .ok (.iload 4, 2) := by decide +kernel
theorem d_L_law_868 : decode c_L_law 868 = .ok (.bipush 6, 2) := by decide +kernel
theorem d_L_law_870 : decode c_L_law 870 = .ok (.iadd, 1) := by decide +kernel
theorem d_L_law_871 : decode c_L_law 871 = .ok (.iaload, 1) := by decide +kernel
theorem d_L_law_872 : decode c_L_law 872 = .ok (.i2l, 1) := by decide +kernel
theorem d_L_law_873 : decode c_L_law 873 = .ok (.bipush 32, 2) := by decide +kernel
theorem d_L_law_875 : decode c_L_law 875 = .ok (.lshl, 1) := by decide +kernel
theorem d_L_law_876 : decode c_L_law 876 = .ok (.aload_n 0, 1) := by decide +kernel
theorem d_L_law_877 : decode c_L_law 877 = .ok (.iload 4, 2) := by decide +kernel
theorem d_L_law_879 : decode c_L_law 879 = .ok (.bipush 7, 2) := by decide +kernel
theorem d_L_law_881 : decode c_L_law 881 = .ok (.iadd, 1) := by decide +kernel
theorem d_L_law_882 : decode c_L_law 882 = .ok (.iaload, 1) := by decide +kernel
theorem d_L_law_883 : decode c_L_law 883 = .ok (.i2l, 1) := by decide +kernel
theorem d_L_law_884 : decode c_L_law 884 = .ok (.ldc2_w 81, 3) := by decide +kernel
theorem d_L_law_887 : decode c_L_law 887 = .ok (.land, 1) := by decide +kernel
theorem d_L_law_888 : decode c_L_law 888 = .ok (.lor, 1) := by decide +kernel
theorem d_L_law_889 : decode c_L_law 889 = .ok (.invokevirtual 117, 3) := by decide +kernel
theorem d_L_law_892 : decode c_L_law 892 = .ok (.istore 6, 2) := by decide +kernel
theorem d_L_law_894 : decode c_L_law 894 = .ok (.aload_n 2, 1) := by decide +kernel
theorem d_L_law_895 : decode c_L_law 895 = .ok (.invokevirtual 87, 3) := by decide +kernel
theorem d_L_law_898 : decode c_L_law 898 = .ok (.iload 5, 2) := by decide +kernel
theorem d_L_law_900 : decode c_L_law 900 = .ok (.if_icmp .eq 5, 3) := by decide +kernel
theorem d_L_law_903 : decode c_L_law 903 = .ok (.iconst 0, 1) := by decide +kernel
theorem d_L_law_904 : decode c_L_law 904 = .ok (.ireturn, 1) := by decide +kernel
theorem d_L_law_905 : decode c_L_law 905 = .ok (.iload 5, 2) := by decide +kernel
theorem d_L_law_907 : decode c_L_law 907 = .ok (.ifCond .ne 22, 3) := by decide +kernel
theorem d_L_law_910 : decode c_L_law 910 = .ok (.aload_n 3, 1) := by decide +kernel
theorem d_L_law_911 : decode c_L_law 911 = .ok (.iconst 0, 1) := by decide +kernel
theorem d_L_law_912 : decode c_L_law 912 = .ok (.laload, 1) := by decide +kernel
theorem d_L_law_913 : decode c_L_law 913 = .ok (.iload 6, 2) := by decide +kernel
theorem d_L_law_915 : decode c_L_law 915 = .ok (.ifCond .eq 7, 3) := by decide +kernel
theorem d_L_law_918 : decode c_L_law 918 = .ok (.lconst 1, 1) := by decide +kernel
theorem d_L_law_919 : decode c_L_law 919 = .ok (.goto 4, 3) := by decide +kernel
theorem d_L_law_922 : decode c_L_law 922 = .ok (.lconst 0, 1) := by decide +kernel
theorem d_L_law_923 : decode c_L_law 923 = .ok (.lcmp, 1) := by decide +kernel
theorem d_L_law_924 : decode c_L_law 924 = .ok (.ifCond .eq 5, 3) := by decide +kernel
theorem d_L_law_927 : decode c_L_law 927 = .ok (.iconst 0, 1) := by decide +kernel
theorem d_L_law_928 : decode c_L_law 928 = .ok (.ireturn, 1) := by decide +kernel
theorem d_L_law_929 : decode c_L_law 929 = .ok (.goto 531, 3) := by decide +kernel
theorem d_L_law_932 : decode c_L_law 932 = .ok (.aload_n 1, 1) := by decide +kernel
theorem d_L_law_933 : decode c_L_law 933 = .ok (.aload_n 0, 1) := by decide +kernel
theorem d_L_law_934 : decode c_L_law 934 = .ok (.iload 4, 2) := by decide +kernel
theorem d_L_law_936 : decode c_L_law 936 = .ok (.iconst 1, 1) := by decide +kernel
theorem d_L_law_937 : decode c_L_law 937 = .ok (.iadd, 1) := by decide +kernel
theorem d_L_law_938 : decode c_L_law 938 = .ok (.iaload, 1) := by decide +kernel
theorem d_L_law_939 : decode c_L_law 939 = .ok (.aload_n 3, 1) := by decide +kernel
theorem d_L_law_940 : decode c_L_law 940 = .ok (.invokestatic 118, 3) := by decide +kernel
theorem d_L_law_943 : decode c_L_law 943 = .ok (.istore 5, 2) := by decide +kernel
theorem d_L_law_945 : decode c_L_law 945 = .ok (.aload_n 2, 1) := by decide +kernel
theorem d_L_law_946 : decode c_L_law 946 = .ok (.aload_n 0, 1) := by decide +kernel
theorem d_L_law_947 : decode c_L_law 947 = .ok (.iload 4, 2) := by decide +kernel
theorem d_L_law_949 : decode c_L_law 949 = .ok (.iconst 1, 1) := by decide +kernel
theorem d_L_law_950 : decode c_L_law 950 = .ok (.iadd, 1) := by decide +kernel
theorem d_L_law_951 : decode c_L_law 951 = .ok (.iaload, 1) := by decide +kernel
theorem d_L_law_952 : decode c_L_law 952 = .ok (.invokevirtual 121, 3) := by decide +kernel
theorem d_L_law_955 : decode c_L_law 955 = .ok (.lstore 6, 2) := by decide +kernel
theorem d_L_law_957 : decode c_L_law 957 = .ok (.aload_n 2, 1) := by decide +kernel
theorem d_L_law_958 : decode c_L_law 958 = .ok (.invokevirtual 87, 3) := by decide +kernel
theorem d_L_law_961 : decode c_L_law 961 = .ok (.iload 5, 2) := by decide +kernel
theorem d_L_law_963 : decode c_L_law 963 = .ok (.if_icmp .eq 5, 3) := by decide +kernel
theorem d_L_law_966 : decode c_L_law 966 = .ok (.iconst 0, 1) := by decide +kernel
theorem d_L_law_967 : decode c_L_law 967 = .ok (.ireturn, 1) := by decide +kernel
theorem d_L_law_968 : decode c_L_law 968 = .ok (.iload 5, 2) := by decide +kernel
theorem d_L_law_970 : decode c_L_law 970 = .ok (.ifCond .ne 14, 3) := by decide +kernel
theorem d_L_law_973 : decode c_L_law 973 = .ok (.aload_n 3, 1) := by decide +kernel
theorem d_L_law_974 : decode c_L_law 974 = .ok (.iconst 0, 1) := by decide +kernel
theorem d_L_law_975 : decode c_L_law 975 = .ok (.laload, 1) := by decide +kernel
theorem d_L_law_976 : decode c_L_law 976 = .ok (.lload 6, 2) := by decide +kernel
theorem d_L_law_978 : decode c_L_law 978 = .ok (.lcmp, 1) := by decide +kernel
theorem d_L_law_979 : decode c_L_law 979 = .ok (.ifCond .eq 5, 3) := by decide +kernel
theorem d_L_law_982 : decode c_L_law 982 = .ok (.iconst 0, 1) := by decide +kernel
theorem d_L_law_983 : decode c_L_law 983 = .ok (.ireturn, 1) := by decide +kernel
theorem d_L_law_984 : decode c_L_law 984 = .ok (.goto 476, 3) := by decide +kernel
theorem d_L_law_987 : decode c_L_law 987 = .ok (.aload_n 1, 1) := by decide +kernel
theorem d_L_law_988 : decode c_L_law 988 = .ok (.aload_n 0, 1) := by decide +kernel
theorem d_L_law_989 : decode c_L_law 989 = .ok (.iload 4, 2) := by decide +kernel
theorem d_L_law_991 : decode c_L_law 991 = .ok (.iconst 1, 1) := by decide +kernel
theorem d_L_law_992 : decode c_L_law 992 = .ok (.iadd, 1) := by decide +kernel
theorem d_L_law_993 : decode c_L_law 993 = .ok (.iaload, 1) := by decide +kernel
theorem d_L_law_994 : decode c_L_law 994 = .ok (.aload_n 0, 1) := by decide +kernel
theorem d_L_law_995 : decode c_L_law 995 = .ok (.iload 4, 2) := by decide +kernel
