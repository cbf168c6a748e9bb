theorem d_L_law_723 : decode b_L_law 723 = .ok (.aload_n 0, 1) := by decide +kernel
theorem d_L_law_724 : decode b_L_law 724 = .ok (.iload 4, 2) := by decide +kernel
theorem d_L_law_726 : decode b_L_law 726 = .ok (.iconst 1, 1) := by decide +kernel
theorem d_L_law_727 : decode b_L_law 727 = .ok (.iadd, 1) := by decide +kernel
theorem d_L_law_728 : decode b_L_law 728 = .ok (.iaload, 1) := by decide +kernel
theorem d_L_law_729 : decode b_L_law 729 = .ok (.aload_n 0, 1) := by decide +kernel
theorem d_L_law_730 : decode b_L_law 730 = .ok (.iload 4, 2) := by decide +kernel
theorem d_L_law_732 : decode b_L_law 732 = .ok (.iconst 2, 1) := by decide +kernel
theorem d_L_law_733 : decode b_L_law 733 = .ok (.iadd, 1) := by decide +kernel
theorem d_L_law_734 : decode b_L_law 734 = .ok (.iaload, 1) := by decide +kernel
theorem d_L_law_735 : decode b_L_law 735 = .ok (.aload_n 3, 1) := by decide +kernel
theorem d_L_law_736 : decode b_L_law 736 = .ok (.invokestatic 108, 3) := by decide +kernel
theorem d_L_law_739 : decode b_L_law 739 = .ok (.istore 5, 2) := by decide +kernel
theorem d_L_law_741 : decode b_L_law 741 = .ok (.aload_n 2, 1) := by decide +kernel
theorem d_L_law_742 : decode b_L_law 742 = .ok (.aload_n 0, 1) := by decide +kernel
theorem d_L_law_743 : decode b_L_law 743 = .ok (.iload 4, 2) := by decide +kernel
theorem d_L_law_745 : decode b_L_law 745 = .ok (.iconst 1, 1) := by decide +kernel
theorem d_L_law_746 : decode b_L_law 746 = .ok (.iadd, 1) := by decide +kernel
theorem d_L_law_747 : decode b_L_law 747 = .ok (.iaload, 1) := by decide +kernel
theorem d_L_law_748 : decode b_L_law 748 = .ok (.aload_n 0, 1) := by decide +kernel
theorem d_L_law_749 : decode b_L_law 749 = .ok (.iload 4, 2) := by decide +kernel
theorem d_L_law_751 : decode b_L_law 751 = .ok (.iconst 2, 1) := by decide +kernel
theorem d_L_law_752 : decode b_L_law 752 = .ok (.iadd, 1) := by decide +kernel
theorem d_L_law_753 : decode b_L_law 753 = .ok (.iaload, 1) := by decide +kernel
theorem d_L_law_754 : decode b_L_law 754 = .ok (.invokevirtual 110, 3) := by decide +kernel
theorem d_L_law_757 : decode b_L_law 757 = .ok (.istore 6, 2) := by decide +kernel
theorem d_L_law_759 : decode b_L_law 759 = .ok (.aload_n 2, 1) := by decide +kernel
theorem d_L_law_760 : decode b_L_law 760 = .ok (.invokevirtual 80, 3) := by decide +kernel
theorem d_L_law_763 : decode b_L_law 763 = .ok (.iload 5, 2) := by decide +kernel
theorem d_L_law_765 : decode b_L_law 765 = .ok (.if_icmp .eq 5, 3) := by decide +kernel
theorem d_L_law_768 : decode b_L_law 768 = .ok (.iconst 0, 1) := by decide +kernel
theorem d_L_law_769 : decode b_L_law 769 = .ok (.ireturn, 1) := by decide +kernel
theorem d_L_law_770 : decode b_L_law 770 = .ok (.iload 5, 2) := by decide +kernel
theorem d_L_law_772 : decode b_L_law 772 = .ok (.ifCond .ne 15, 3) := by decide +kernel
theorem d_L_law_775 : decode b_L_law 775 = .ok (.aload_n 3, 1) := by decide +kernel
theorem d_L_law_776 : decode b_L_law 776 = .ok (.iconst 0, 1) := by decide +kernel
theorem d_L_law_777 : decode b_L_law 777 = .ok (.laload, 1) := by decide +kernel
theorem d_L_law_778 : decode b_L_law 778 = .ok (.iload 6, 2) := by decide +kernel
theorem d_L_law_780 : decode b_L_law 780 = .ok (.i2l, 1) := by decide +kernel
theorem d_L_law_781 : decode b_L_law 781 = .ok (.lcmp, 1) := by decide +kernel
theorem d_L_law_782 : decode b_L_law 782 = .ok (.ifCond .eq 5, 3) := by decide +kernel
theorem d_L_law_785 : decode b_L_law 785 = .ok (.iconst 0, 1) := by decide +kernel
theorem d_L_law_786 : decode b_L_law 786 = .ok (.ireturn, 1) := by decide +kernel
theorem d_L_law_787 : decode b_L_law 787 = .ok (.goto 555, 3) := by decide +kernel
theorem d_L_law_790 : decode b_L_law 790 = .ok (.aload_n 1, 1) := by decide +kernel
theorem d_L_law_791 : decode b_L_law 791 = .ok (.aload_n 0, 1) := by decide +kernel
theorem d_L_law_792 : decode b_L_law 792 = .ok (.iload 4, 2) := by decide +kernel
theorem d_L_law_794 : decode b_L_law 794 = .ok (.iconst 1, 1) := by decide +kernel
theorem d_L_law_795 : decode b_L_law 795 = .ok (.iadd, 1) := by decide +kernel
theorem d_L_law_796 : decode b_L_law 796 = .ok (.iaload, 1) := by decide +kernel
theorem d_L_law_797 : decode b_L_law 797 = .ok (.aload_n 0, 1) := by decide +kernel
theorem d_L_law_798 : decode b_L_law 798 = .ok (.iload 4, 2) := by decide +kernel
theorem d_L_law_800 : decode b_L_law 800 = .ok (.iconst 2, 1) := by decide +kernel
theorem d_L_law_801 : decode b_L_law 801 = .ok (.iadd, 1) := by decide +kernel
theorem d_L_law_802 : decode b_L_law 802 = .ok (.iaload, 1) := by decide +kernel
theorem d_L_law_803 : decode b_L_law 803 = .ok (.aload_n 3, 1) := by decide +kernel
theorem d_L_law_804 : decode b_L_law 804 = .ok (.invokestatic 111, 3) := by decide +kernel
theorem d_L_law_807 : decode b_L_law 807 = .ok (.istore 5, 2) := by decide +kernel
theorem d_L_law_809 : decode b_L_law 809 = .ok (.aload_n 2, 1) := by decide +kernel
theorem d_L_law_810 : decode b_L_law 810 = .ok (.aload_n 0, 1) := by decide +kernel
theorem d_L_law_811 : decode b_L_law 811 = .ok (.iload 4, 2) := by decide +kernel
theorem d_L_law_813 : decode b_L_law 813 = .ok (.iconst 1, 1) := by decide +kernel
theorem d_L_law_814 : decode b_L_law 814 = .ok (.iadd, 1) := by decide +kernel
theorem d_L_law_815 : decode b_L_law 815 = .ok (.iaload, 1) := by decide +kernel
theorem d_L_law_816 : decode b_L_law 816 = .ok (.aload_n 0, 1) := by decide +kernel
theorem d_L_law_817 : decode b_L_law 817 = .ok (.iload 4, 2) := by decide +kernel
theorem d_L_law_819 : decode b_L_law 819 = .ok (.iconst 2, 1) := by decide +kernel
theorem d_L_law_820 : decode b_L_law 820 = .ok (.iadd, 1) := by decide +kernel
theorem d_L_law_821 : decode b_L_law 821 = .ok (.iaload, 1) := by decide +kernel
theorem d_L_law_822 : decode b_L_law 822 = .ok (.invokevirtual 113, 3) := by decide +kernel
theorem d_L_law_825 : decode b_L_law 825 = .ok (.istore 6, 2) := by decide +kernel
theorem d_L_law_827 : decode b_L_law 827 = .ok (.aload_n 2, 1) := by decide +kernel
theorem d_L_law_828 : decode b_L_law 828 = .ok (.invokevirtual 80, 3) := by decide +kernel
theorem d_L_law_831 : decode b_L_law 831 = .ok (.iload 5, 2) := by decide +kernel
theorem d_L_law_833 : decode b_L_law 833 = .ok (.if_icmp .eq 5, 3) := by decide +kernel
theorem d_L_law_836 : decode b_L_law 836 = .ok (.iconst 0, 1) := by decide +kernel
theorem d_L_law_837 : decode b_L_law 837 = .ok (.ireturn, 1) := by decide +kernel
theorem d_L_law_838 : decode b_L_law 838 = .ok (.iload 5, 2) := by decide +kernel
theorem d_L_law_840 : decode b_L_law 840 = .ok (.ifCond .ne 15, 3) := by decide +kernel
theorem d_L_law_843 : decode b_L_law 843 = .ok (.aload_n 3, 1) := by decide +kernel
theorem d_L_law_844 : decode b_L_law 844 = .ok (.iconst 0, 1) := by decide +kernel
theorem d_L_law_845 : decode b_L_law 845 = .ok (.laload, 1) := by decide +kernel
theorem d_L_law_846 : decode b_L_law 846 = .ok (.iload 6, 2) := by decide +kernel
theorem d_L_law_848 : decode b_L_law 848 = .ok (.i2l, 1) := by decide +kernel
theorem d_L_law_849 : decode b_L_law 849 = .ok (.lcmp, 1) := by decide +kernel
theorem d_L_law_850 : decode b_L_law 850 = .ok (.ifCond .eq 5, 3) := by decide +kernel
theorem d_L_law_853 : decode b_L_law 853 = .ok (.iconst 0, 1) := by decide +kernel
theorem d_L_law_854 : decode b_L_law 854 = .ok (.ireturn, 1) := by decide +kernel
theorem d_L_law_855 : decode b_L_law 855 = .ok (.goto 487, 3) := by decide +kernel
theorem d_L_law_858 : decode b_L_law 858 = .ok (.aload_n 1, 1) := by decide +kernel
theorem d_L_law_859 : decode b_L_law 859 = .ok (.aload_n 0, 1) := by decide +kernel
theorem d_L_law_860 : decode b_L_law 860 = .ok (.iload 4, 2) := by decide +kernel
theorem d_L_law_862 : decode b_L_law 862 = .ok (.iconst 1, 1) := by decide +kernel
theorem d_L_law_863 : decode b_L_law 863 = .ok (.iadd, 1) := by decide +kernel
theorem d_L_law_864 : decode b_L_law 864 = .ok (.iaload, 1) := by decide +kernel
theorem d_L_law_865 : decode b_L_law 865 = .ok (.aload_n 0, 1) := by decide +kernel
theorem d_L_law_866 : decode b_L_law 866 = .ok (.iload 4, 2) := by decide +kernel
theorem d_L_law_868 : decode b_L_law 868 = .ok (.iconst 2, 1) := by decide +kernel
theorem d_L_law_869 : decode b_L_law 869 = .ok (.iadd, 1) := by decide +kernel
theorem d_L_law_870 : decode b_L_law 870 = .ok (.iaload, 1) := by decide +kernel
theorem d_L_law_871 : decode b_L_law 871 = .ok (.aload_n 0, 1) := by decide +kernel
theorem d_L_law_872 : decode b_L_law 872 = .ok (.iload 4, 2) := by decide +kernel
theorem d_L_law_874 : decode b_L_law 874 = .ok (.iconst 3, 1) := by decide +kernel
theorem d_L_law_875 : decode b_L_law 875 = .ok (.iadd, 1) := by decide +kernel
theorem d_L_law_876 : decode b_L_law 876 = .ok (.iaload, 1) := by decide +kernel
theorem d_L_law_877 : decode b_L_law 877 = .ok (.aload_n 3, 1) := by decide +kernel
theorem d_L_law_878 : decode b_L_law 878 = .ok (.invokestatic 114, 3) := by decide +kernel
theorem d_L_law_881 : decode b_L_law 881 = .ok (.istore 5, 2) := by decide +kernel
theorem d_L_law_883 : decode b_L_law 883 = .ok (.aload_n 2, 1) := by decide +kernel
theorem d_L_law_884 : decode b_L_law 884 = .ok (.aload_n 0, 1) := by decide +kernel
theorem d_L_law_885 : decode b_L_law 885 = .ok (.iload 4, 2) := by decide +kernel
theorem d_L_law_887 : decode b_L_law 887 = .ok (.iconst 1, 1) := by decide +kernel
theorem d_L_law_888 : decode b_L_law 888 = .ok (.iadd, 1) := by decide +kernel
theorem d_L_law_889 : decode b_L_law 889 = .ok (.iaload, 1) := by decide +kernel
theorem d_L_law_890 : decode b_L_law 890 = .ok (.aload_n 0, 1) := by decide +kernel
theorem d_L_law_891 : decode b_L_law 891 = .ok (.iload 4, 2) := by decide +kernel
theorem d_L_law_893 : decode b_L_law 893 = .ok (.iconst 2, 1) := by decide +kernel
theorem d_L_law_894 : decode b_L_law 894 = .ok (.iadd, 1) := by decide +kernel
theorem d_L_law_895 : decode b_L_law 895 = .ok (.iaload, 1) := by decide +kernel
theorem d_L_law_896 : decode b_L_law 896 = .ok (.aload_n 0, 1) := by decide +kernel
theorem d_L_law_897 : decode b_L_law 897 = .ok (.iload 4, 2) := by decide +kernel
theorem d_L_law_899 : decode b_L_law 899 = .ok (.iconst 3, 1) := by decide +kernel
theorem d_L_law_900 : decode b_L_law 900 = .ok (.iadd, 1) := by decide +kernel
theorem d_L_law_901 : decode b_L_law 901 = .ok (.iaload, 1) := by decide +kernel
theorem d_L_law_902 : decode b_L_law 902 = .ok (.invokevirtual 116, 3) := by decide +kernel
theorem d_L_law_905 : decode b_L_law 905 = .ok (.istore 6, 2) := by decide +kernel
theorem d_L_law_907 : decode b_L_law 907 = .ok (.aload_n 2, 1) := by decide +kernel
theorem d_L_law_908 : decode b_L_law 908 = .ok (.invokevirtual 80, 3) := by decide +kernel
theorem d_L_law_911 : decode b_L_law 911 = .ok (.iload 5, 2) := by decide +kernel
theorem d_L_law_913 : decode b_L_law 913 = .ok (.if_icmp .eq 5, 3) := by decide +kernel
theorem d_L_law_916 : decode b_L_law 916 = .ok (.iconst 0, 1) := by decide +kernel
theorem d_L_law_917 : decode b_L_law 917 = .ok (.ireturn, 1) := by decide +kernel
theorem d_L_law_918 : decode b_L_law 918 = .ok (.iload 5, 2) := by decide +kernel
theorem d_L_law_920 : decode b_L_law 920 = .ok (.ifCond .ne 15, 3) := by decide +kernel
theorem d_L_law_923 : decode b_L_law 923 = .ok (.aload_n 3, 1) := by decide +kernel
theorem d_L_law_924 : decode b_L_law 924 = .ok (.iconst 0, 1) := by decide +kernel
theorem d_L_law_925 : decode b_L_law 925 = .ok (.laload, 1) := by decide +kernel
theorem d_L_law_926 : decode b_L_law 926 = .ok (.iload 6, 2) := by decide +kernel
theorem d_L_law_928 : decode b_L_law 928 = .ok (.i2l, 1) := by decide +kernel
theorem d_L_law_929 : decode b_L_law 929 = .ok (.lcmp, 1) := by decide +kernel
theorem d_L_law_930 : decode b_L_law 930 = .ok (.ifCond .eq 5, 3) := by decide +kernel
theorem d_L_law_933 : decode b_L_law 933 = .ok (.iconst 0, 1) := by decide +kernel
theorem d_L_law_934 : decode b_L_law 934 = .ok (.ireturn, 1) := by decide +kernel
theorem d_L_law_935 : decode b_L_law 935 = .ok (.goto 407, 3) := by decide +kernel
theorem d_L_law_938 : decode b_L_law 938 = .ok (.aload_n 1, 1) := by decide +kernel
theorem d_L_law_939 : decode b_L_law 939 = .ok (.aload_n 0, 1) := by decide +kernel
theorem d_L_law_940 : decode b_L_law 940 = .ok (.iload 4, 2) := by decide +kernel
theorem d_L_law_942 : decode b_L_law 942 = .ok (.iconst 1, 1) := by decide +kernel
theorem d_L_law_943 : decode b_L_law 943 = .ok (.iadd, 1) := by decide +kernel
theorem d_L_law_944 : decode b_L_law 944 = .ok (.iaload, 1) := by decide +kernel
theorem d_L_law_945 : decode b_L_law 945 = .ok (.aload_n 0, 1) := by decide +kernel
theorem d_L_law_946 : decode b_L_law 946 = .ok (.iload 4, 2) := by decide +kernel
theorem d_L_law_948 : decode b_L_law 948 = .ok (.iconst 2, 1) := by decide +kernel
theorem d_L_law_949 : decode b_L_law 949 = .ok (.iadd, 1) := by decide +kernel
theorem d_L_law_950 : decode b_L_law 950 = .ok (.iaload, 1) := by decide +kernel
theorem d_L_law_951 : decode b_L_law 951 = .ok (.aload_n 0, 1) := by decide +kernel
theorem d_L_law_952 : decode b_L_law 952 = .ok (.iload 4, 2) := by decide +kernel
theorem d_L_law_954 : decode b_L_law 954 = .ok (.iconst 3, 1) := by decide +kernel
theorem d_L_law_955 : decode b_L_law 955 = .ok (.iadd, 1) := by decide +kernel
theorem d_L_law_956 : decode b_L_law 956 = .ok (.iaload, 1) := by decide +kernel
theorem d_L_law_957 : decode b_L_law 957 = .ok (.aload_n 0, 1) := by decide +kernel
theorem d_L_law_958 : decode b_L_law 958 = .ok (.iload 4, 2) := by decide +kernel
theorem d_L_law_960 : decode b_L_law 960 = .ok (.iconst 4, 1) := by decide +kernel
theorem d_L_law_961 : decode b_L_law 961 = .ok (.iadd, 1) := by decide +kernel
theorem d_L_law_962 : decode b_L_law 962 = .ok (.iaload, 1) := by decide +kernel
theorem d_L_law_963 : decode b_L_law 963 = .ok (.invokestatic 117, 3) := by decide +kernel
theorem d_L_law_966 : decode b_L_law 966 = .ok (.istore 5, 2) := by decide +kernel
theorem d_L_law_968 : decode b_L_law 968 = .ok (.aload_n 2, 1) := by decide +kernel
theorem d_L_law_969 : decode b_L_law 969 = .ok (.aload_n 0, 1) := by decide +kernel
theorem d_L_law_970 : decode b_L_law 970 = .ok (.iload 4, 2) := by decide +kernel
theorem d_L_law_972 : decode b_L_law 972 = .ok (.iconst 1, 1) := by decide +kernel
theorem d_L_law_973 : decode b_L_law 973 = .ok (.iadd, 1) := by decide +kernel
theorem d_L_law_974 : decode b_L_law 974 = .ok (.iaload, 1) := by decide +kernel
theorem d_L_law_975 : decode b_L_law 975 = .ok (.aload_n 0, 1) := by decide +kernel
theorem d_L_law_976 : decode b_L_law 976 = .ok (.iload 4, 2) := by decide +kernel
theorem d_L_law_978 : decode b_L_law 978 = .ok (.iconst 2, 1) := by decide +kernel
theorem d_L_law_979 : decode b_L_law 979 = .ok (.iadd, 1) := by decide +kernel
theorem d_L_law_980 : decode b_L_law 980 = .ok (.iaload, 1) := by decide +kernel
theorem d_L_law_981 : decode b_L_law 981 = .ok (.aload_n 0, 1) := by decide +kernel
theorem d_L_law_982 : decode b_L_law 982 = .ok (.iload 4, 2) := by decide +kernel
theorem d_L_law_984 : decode b_L_law 984 = .ok (.iconst 3, 1) := by decide +kernel
theorem d_L_law_985 : decode b_L_law 985 = .ok (.iadd, 1) := by decide +kernel
theorem d_L_law_986 : decode b_L_law 986 = .ok (.iaload, 1) := by decide +kernel
theorem d_L_law_987 : decode b_L_law 987 = .ok (.aload_n 0, 1) := by decide +kernel
theorem d_L_law_988 : decode b_L_law 988 = .ok (.iload 4, 2) := by decide +kernel
theorem d_L_law_990 : decode b_L_law 990 = .ok (.iconst 4, 1) := by decide +kernel
theorem d_L_law_991 : decode b_L_law 991 = .ok (.iadd, 1) := by decide +kernel
theorem d_L_law_992 : decode b_L_law 992 = .ok (.iaload, 1) := by decide +kernel
theorem d_L_law_993 : decode b_L_law 993 = .ok (.invokevirtual 120, 3) := by decide +kernel
theorem d_L_law_996 : decode b_L_law 996 = .ok (.aload_n 2, 1) := by decide +kernel
theorem d_L_law_997 : decode b_L_law 997 = .ok (.invokevirtual 80, 3) := by decide +kernel
theorem d_L_law_1000 : decode b_L_law 1000 = .ok (.iload 5, 2) := by decide +kernel
theorem d_L_law_1002 : decode b_L_law 1002 = .ok (.if_icmp .eq 5, 3) := by decide +kernel
theorem d_L_law_1005 : decode b_L_law 1005 = .ok (.iconst 0, 1) := by decide +kernel
theorem d_L_law_1006 : decode b_L_law 1006 = .ok (.ireturn, 1) := by decide +kernel
theorem d_L_law_1007 : decode b_L_law 1007 = .ok (.goto 335, 3) := by decide +kernel
theorem d_L_law_1010 : decode b_L_law 1010 = .ok (.aload_n 1, 1) := by decide +kernel
theorem d_L_law_1011 : decode b_L_law 1011 = .ok (.aload_n 0, 1) := by decide +kernel
theorem d_L_law_1012 : decode b_L_law 1012 = .ok (.iload 4, 2) := by decide +kernel
theorem d_L_law_1014 : decode b_L_law 1014 = .ok (.iconst 1, 1) := by decide +kernel
theorem d_L_law_1015 : decode b_L_law 1015 = .ok (.iadd, 1) := by decide +kernel
theorem d_L_law_1016 : decode b_L_law 1016 = .ok (.iaload, 1) := by decide +kernel
theorem d_L_law_1017 : decode b_L_law 1017 = .ok (.aload_n 0, 1) := by decide +kernel
theorem d_L_law_1018 : decode b_L_law 1018 = .ok (.iload 4, 2) := by decide +kernel
theorem d_L_law_1020 : decode b_L_law 1020 = .ok (.iconst 2, 1) := by decide +kernel
theorem d_L_law_1021 : decode b_L_law 1021 = .ok (.iadd, 1) := by decide +kernel
theorem d_L_law_1022 : decode b_L_law 1022 = .ok (.iaload, 1) := by decide +kernel
theorem d_L_law_1023 : decode b_L_law 1023 = .ok (.aload_n 3, 1) := by decide +kernel
theorem d_L_law_1024 : decode b_L_law 1024 = .ok (.invokestatic 121, 3) := by decide +kernel
theorem d_L_law_1027 : decode b_L_law 1027 = .ok (.istore 5, 2) := by decide +kernel
theorem d_L_law_1029 : decode b_L_law 1029 = .ok (.aload_n 2, 1) := by decide +kernel
theorem d_L_law_1030 : decode b_L_law 1030 = .ok (.aload_n 0, 1) := by decide +kernel
theorem d_L_law_1031 : decode b_L_law 1031 = .ok (.iload 4, 2) := by decide +kernel
theorem d_L_law_1033 : decode b_L_law 1033 = .ok (.iconst 1, 1) := by decide +kernel
theorem d_L_law_1034 : decode b_L_law 1034 = .ok (.iadd, 1) := by decide +kernel
theorem d_L_law_1035 : decode b_L_law 1035 = .ok (.iaload, 1) := by decide +kernel
