theorem dL_hangs_739 : decode cL_hangs 739 = .ok (.ifCond .le 175, 3) := by decide +kernel
theorem dL_hangs_742 : decode cL_hangs 742 = .ok (.iload 8, 2) := by decide +kernel
theorem dL_hangs_744 : decode cL_hangs 744 = .ok (.ifCond .ne 170, 3) := by decide +kernel
theorem dL_hangs_747 : decode cL_hangs 747 = .ok (.iload 5, 2) := by decide +kernel
theorem dL_hangs_749 : decode cL_hangs 749 = .ok (.invokestatic 110, 3) := by decide +kernel
theorem dL_hangs_752 : decode cL_hangs 752 = .ok (.iload_n 3, 1) := by decide +kernel
theorem dL_hangs_753 : decode cL_hangs 753 = .ok (.if_icmp .lt 161, 3) := by decide +kernel
theorem dL_hangs_756 : decode cL_hangs 756 = .ok (.iconst 0, 1) := by decide +kernel
theorem dL_hangs_757 : decode cL_hangs 757 = .ok (.istore 13, 2) := by decide +kernel
theorem dL_hangs_759 : decode cL_hangs 759 = .ok (.iconst 0, 1) := by decide +kernel
theorem dL_hangs_760 : decode cL_hangs 760 = .ok (.istore 14, 2) := by decide +kernel
theorem dL_hangs_762 : decode cL_hangs 762 = .ok (.iconst 0, 1) := by decide +kernel
theorem dL_hangs_763 : decode cL_hangs 763 = .ok (.istore 15, 2) := by decide +kernel
theorem dL_hangs_765 : decode cL_hangs 765 = .ok (.iload 15, 2) := by decide +kernel
theorem dL_hangs_767 : decode cL_hangs 767 = .ok (.bipush 8, 2) := by decide +kernel
theorem dL_hangs_769 : decode cL_hangs 769 = .ok (.if_icmp .ge 81, 3) := by decide +kernel
theorem dL_hangs_772 : decode cL_hangs 772 = .ok (.iload 13, 2) := by decide +kernel
theorem dL_hangs_774 : decode cL_hangs 774 = .ok (.iload 5, 2) := by decide +kernel
theorem dL_hangs_776 : decode cL_hangs 776 = .ok (.iload 15, 2) := by decide +kernel
theorem dL_hangs_778 : decode cL_hangs 778 = .ok (.ishr, 1) := by decide +kernel
theorem dL_hangs_779 : decode cL_hangs 779 = .ok (.iconst 1, 1) := by decide +kernel
theorem dL_hangs_780 : decode cL_hangs 780 = .ok (.iand, 1) := by decide +kernel
theorem dL_hangs_781 : decode cL_hangs 781 = .ok (.iconst 1, 1) := by decide +kernel
theorem dL_hangs_782 : decode cL_hangs 782 = .ok (.if_icmp .ne 19, 3) := by decide +kernel
theorem dL_hangs_785 : decode cL_hangs 785 = .ok (.iload 13, 2) := by decide +kernel
theorem dL_hangs_787 : decode cL_hangs 787 = .ok (.invokestatic 110, 3) := by decide +kernel
theorem dL_hangs_790 : decode cL_hangs 790 = .ok (.iload_n 3, 1) := by decide +kernel
theorem dL_hangs_791 : decode cL_hangs 791 = .ok (.if_icmp .ge 10, 3) := by decide +kernel
theorem dL_hangs_794 : decode cL_hangs 794 = .ok (.iconst 1, 1) := by decide +kernel
theorem dL_hangs_795 : decode cL_hangs 795 = .ok (.iload 15, 2) := by decide +kernel
theorem dL_hangs_797 : decode cL_hangs 797 = .ok (.ishl, 1) := by decide +kernel
theorem dL_hangs_798 : decode cL_hangs 798 = .ok (.goto 4, 3) := by decide +kernel
theorem dL_hangs_801 : decode cL_hangs 801 = .ok (.iconst 0, 1) := by decide +kernel
theorem dL_hangs_802 : decode cL_hangs 802 = .ok (.ior, 1) := by decide +kernel
theorem dL_hangs_803 : decode cL_hangs 803 = .ok (.istore 13, 2) := by decide +kernel
theorem dL_hangs_805 : decode cL_hangs 805 = .ok (.iload 14, 2) := by decide +kernel
theorem dL_hangs_807 : decode cL_hangs 807 = .ok (.iload 5, 2) := by decide +kernel
theorem dL_hangs_809 : decode cL_hangs 809 = .ok (.bipush 7, 2) := by decide +kernel
theorem dL_hangs_811 : decode cL_hangs 811 = .ok (.iload 15, 2) := by decide +kernel
theorem dL_hangs_813 : decode cL_hangs 813 = .ok (.isub, 1) := by decide +kernel
theorem dL_hangs_814 : decode cL_hangs 814 = .ok (.ishr, 1) := by decide +kernel
theorem dL_hangs_815 : decode cL_hangs 815 = .ok (.iconst 1, 1) := by decide +kernel
theorem dL_hangs_816 : decode cL_hangs 816 = .ok (.iand, 1) := by decide +kernel
theorem dL_hangs_817 : decode cL_hangs 817 = .ok (.iconst 1, 1) := by decide +kernel
theorem dL_hangs_818 : decode cL_hangs 818 = .ok (.if_icmp .ne 22, 3) := by decide +kernel
theorem dL_hangs_821 : decode cL_hangs 821 = .ok (.iload 14, 2) := by decide +kernel
theorem dL_hangs_823 : decode cL_hangs 823 = .ok (.invokestatic 110, 3) := by decide +kernel
theorem dL_hangs_826 : decode cL_hangs 826 = .ok (.iload_n 3, 1) := by decide +kernel
theorem dL_hangs_827 : decode cL_hangs 827 = .ok (.if_icmp .ge 13, 3) := by decide +kernel
theorem dL_hangs_830 : decode cL_hangs 830 = .ok (.iconst 1, 1) := by decide +kernel
theorem dL_hangs_831 : decode cL_hangs 831 = .ok (.bipush 7, 2) := by decide +kernel
theorem dL_hangs_833 : decode cL_hangs 833 = .ok (.iload 15, 2) := by decide +kernel
theorem dL_hangs_835 : decode cL_hangs 835 = .ok (.isub, 1) := by decide +kernel
theorem dL_hangs_836 : decode cL_hangs 836 = .ok (.ishl, 1) := by decide +kernel
theorem dL_hangs_837 : decode cL_hangs 837 = .ok (.goto 4, 3) := by decide +kernel
theorem dL_hangs_840 : decode cL_hangs 840 = .ok (.iconst 0, 1) := by decide +kernel
theorem dL_hangs_841 : decode cL_hangs 841 = .ok (.ior, 1) := by decide +kernel
theorem dL_hangs_842 : decode cL_hangs 842 = .ok (.istore 14, 2) := by decide +kernel
theorem dL_hangs_844 : decode cL_hangs 844 = .ok (.iinc 15 1, 3) := by decide +kernel
theorem dL_hangs_847 : decode cL_hangs 847 = .ok (.goto (-82), 3) := by decide +kernel
theorem dL_hangs_850 : decode cL_hangs 850 = .ok (.aload_n 0, 1) := by decide +kernel
theorem dL_hangs_851 : decode cL_hangs 851 = .ok (.iload 13, 2) := by decide +kernel
theorem dL_hangs_853 : decode cL_hangs 853 = .ok (.invokestatic 123, 3) := by decide +kernel
theorem dL_hangs_856 : decode cL_hangs 856 = .ok (.aload_n 0, 1) := by decide +kernel
theorem dL_hangs_857 : decode cL_hangs 857 = .ok (.iload 14, 2) := by decide +kernel
theorem dL_hangs_859 : decode cL_hangs 859 = .ok (.invokestatic 123, 3) := by decide +kernel
theorem dL_hangs_862 : decode cL_hangs 862 = .ok (.if_icmp .ne 49, 3) := by decide +kernel
theorem dL_hangs_865 : decode cL_hangs 865 = .ok (.aload_n 0, 1) := by decide +kernel
theorem dL_hangs_866 : decode cL_hangs 866 = .ok (.iload 5, 2) := by decide +kernel
theorem dL_hangs_868 : decode cL_hangs 868 = .ok (.invokestatic 123, 3) := by decide +kernel
theorem dL_hangs_871 : decode cL_hangs 871 = .ok (.aload_n 0, 1) := by decide +kernel
theorem dL_hangs_872 : decode cL_hangs 872 = .ok (.iload 13, 2) := by decide +kernel
theorem dL_hangs_874 : decode cL_hangs 874 = .ok (.invokestatic 123, 3) := by decide +kernel
theorem dL_hangs_877 : decode cL_hangs 877 = .ok (.if_icmp .ne 34, 3) := by decide +kernel
theorem dL_hangs_880 : decode cL_hangs 880 = .ok (.aload_n 0, 1) := by decide +kernel
theorem dL_hangs_881 : decode cL_hangs 881 = .ok (.iload 5, 2) := by decide +kernel
theorem dL_hangs_883 : decode cL_hangs 883 = .ok (.invokestatic 125, 3) := by decide +kernel
theorem dL_hangs_886 : decode cL_hangs 886 = .ok (.iconst 1, 1) := by decide +kernel
theorem dL_hangs_887 : decode cL_hangs 887 = .ok (.if_icmp .ne 24, 3) := by decide +kernel
theorem dL_hangs_890 : decode cL_hangs 890 = .ok (.aload_n 0, 1) := by decide +kernel
theorem dL_hangs_891 : decode cL_hangs 891 = .ok (.iload 13, 2) := by decide +kernel
theorem dL_hangs_893 : decode cL_hangs 893 = .ok (.iload 13, 2) := by decide +kernel
theorem dL_hangs_895 : decode cL_hangs 895 = .ok (.iconst 1, 1) := by decide +kernel
theorem dL_hangs_896 : decode cL_hangs 896 = .ok (.isub, 1) := by decide +kernel
theorem dL_hangs_897 : decode cL_hangs 897 = .ok (.iand, 1) := by decide +kernel
theorem dL_hangs_898 : decode cL_hangs 898 = .ok (.invokestatic 125, 3) := by decide +kernel
theorem dL_hangs_901 : decode cL_hangs 901 = .ok (.sipush 251, 3) := by decide +kernel
theorem dL_hangs_904 : decode cL_hangs 904 = .ok (.if_icmp .ne 7, 3) := by decide +kernel
theorem dL_hangs_907 : decode cL_hangs 907 = .ok (.iconst 1, 1) := by decide +kernel
theorem dL_hangs_908 : decode cL_hangs 908 = .ok (.goto 4, 3) := by decide +kernel
theorem dL_hangs_911 : decode cL_hangs 911 = .ok (.iconst 0, 1) := by decide +kernel
theorem dL_hangs_912 : decode cL_hangs 912 = .ok (.istore 7, 2) := by decide +kernel
theorem dL_hangs_914 : decode cL_hangs 914 = .ok (.iload 7, 2) := by decide +kernel
theorem dL_hangs_916 : decode cL_hangs 916 = .ok (.ifCond .eq 62, 3) := by decide +kernel
theorem dL_hangs_919 : decode cL_hangs 919 = .ok (.iload_n 2, 1) := by decide +kernel
theorem dL_hangs_920 : decode cL_hangs 920 = .ok (.ifCond .ne 24, 3) := by decide +kernel
theorem dL_hangs_923 : decode cL_hangs 923 = .ok (.aload_n 0, 1) := by decide +kernel
theorem dL_hangs_924 : decode cL_hangs 924 = .ok (.iconst 0, 1) := by decide +kernel
theorem dL_hangs_925 : decode cL_hangs 925 = .ok (.invokestatic 123, 3) := by decide +kernel
theorem dL_hangs_928 : decode cL_hangs 928 = .ok (.iconst (-1), 1) := by decide +kernel
theorem dL_hangs_929 : decode cL_hangs 929 = .ok (.if_icmp .ne 49, 3) := by decide +kernel
theorem dL_hangs_932 : decode cL_hangs 932 = .ok (.aload_n 0, 1) := by decide +kernel
theorem dL_hangs_933 : decode cL_hangs 933 = .ok (.iconst 0, 1) := by decide +kernel
theorem dL_hangs_934 : decode cL_hangs 934 = .ok (.invokestatic 125, 3) := by decide +kernel
theorem dL_hangs_937 : decode cL_hangs 937 = .ok (.iconst (-1), 1) := by decide +kernel
theorem dL_hangs_938 : decode cL_hangs 938 = .ok (.if_icmp .ne 40, 3) := by decide +kernel
theorem dL_hangs_941 : decode cL_hangs 941 = .ok (.goto 14, 3) := by decide +kernel
theorem dL_hangs_944 : decode cL_hangs 944 = .ok (.aload_n 0, 1) := by decide +kernel
theorem dL_hangs_945 : decode cL_hangs 945 = .ok (.iconst 0, 1) := by decide +kernel
theorem dL_hangs_946 : decode cL_hangs 946 = .ok (.invokestatic 125, 3) := by decide +kernel
theorem dL_hangs_949 : decode cL_hangs 949 = .ok (.sipush 251, 3) := by decide +kernel
theorem dL_hangs_952 : decode cL_hangs 952 = .ok (.if_icmp .ne 26, 3) := by decide +kernel
theorem dL_hangs_955 : decode cL_hangs 955 = .ok (.iload_n 2, 1) := by decide +kernel
theorem dL_hangs_956 : decode cL_hangs 956 = .ok (.iconst 1, 1) := by decide +kernel
theorem dL_hangs_957 : decode cL_hangs 957 = .ok (.if_icmp .eq 17, 3) := by decide +kernel
theorem dL_hangs_960 : decode cL_hangs 960 = .ok (.iload 9, 2) := by decide +kernel
theorem dL_hangs_962 : decode cL_hangs 962 = .ok (.ifCond .ne 16, 3) := by decide +kernel
theorem dL_hangs_965 : decode cL_hangs 965 = .ok (.aload_n 0, 1) := by decide +kernel
theorem dL_hangs_966 : decode cL_hangs 966 = .ok (.iconst 0, 1) := by decide +kernel
theorem dL_hangs_967 : decode cL_hangs 967 = .ok (.invokestatic 121, 3) := by decide +kernel
theorem dL_hangs_970 : decode cL_hangs 970 = .ok (.iconst 1, 1) := by decide +kernel
theorem dL_hangs_971 : decode cL_hangs 971 = .ok (.if_icmp .ne 7, 3) := by decide +kernel
theorem dL_hangs_974 : decode cL_hangs 974 = .ok (.iconst 1, 1) := by decide +kernel
theorem dL_hangs_975 : decode cL_hangs 975 = .ok (.goto 4, 3) := by decide +kernel
theorem dL_hangs_978 : decode cL_hangs 978 = .ok (.iconst 0, 1) := by decide +kernel
theorem dL_hangs_979 : decode cL_hangs 979 = .ok (.ireturn, 1) := by decide +kernel
