theorem dL_act_758 : decode cL_act 758 = .ok (.if_icmp .lt 7, 3) := by decide +kernel
theorem dL_act_761 : decode cL_act 761 = .ok (.iconst 1, 1) := by decide +kernel
theorem dL_act_762 : decode cL_act 762 = .ok (.goto 4, 3) := by decide +kernel
theorem dL_act_765 : decode cL_act 765 = .ok (.iconst 0, 1) := by decide +kernel
theorem dL_act_766 : decode cL_act 766 = .ok (.if_icmp .ne 7, 3) := by decide +kernel
theorem dL_act_769 : decode cL_act 769 = .ok (.iconst 1, 1) := by decide +kernel
theorem dL_act_770 : decode cL_act 770 = .ok (.goto 4, 3) := by decide +kernel
theorem dL_act_773 : decode cL_act 773 = .ok (.iconst 0, 1) := by decide +kernel
theorem dL_act_774 : decode cL_act 774 = .ok (.ireturn, 1) := by decide +kernel
theorem dL_act_775 : decode cL_act 775 = .ok (.iload_n 2, 1) := by decide +kernel
theorem dL_act_776 : decode cL_act 776 = .ok (.bipush 17, 2) := by decide +kernel
theorem dL_act_778 : decode cL_act 778 = .ok (.if_icmp .ne 110, 3) := by decide +kernel
theorem dL_act_781 : decode cL_act 781 = .ok (.aload_n 0, 1) := by decide +kernel
theorem dL_act_782 : decode cL_act 782 = .ok (.iload 5, 2) := by decide +kernel
theorem dL_act_784 : decode cL_act 784 = .ok (.invokevirtual 88, 3) := by decide +kernel
theorem dL_act_787 : decode cL_act 787 = .ok (.istore 9, 2) := by decide +kernel
theorem dL_act_789 : decode cL_act 789 = .ok (.iload 7, 2) := by decide +kernel
theorem dL_act_791 : decode cL_act 791 = .ok (.ifCond .ne 91, 3) := by decide +kernel
theorem dL_act_794 : decode cL_act 794 = .ok (.iload 4, 2) := by decide +kernel
theorem dL_act_796 : decode cL_act 796 = .ok (.bipush 6, 2) := by decide +kernel
theorem dL_act_798 : decode cL_act 798 = .ok (.if_icmp .eq 84, 3) := by decide +kernel
theorem dL_act_801 : decode cL_act 801 = .ok (.aload_n 0, 1) := by decide +kernel
theorem dL_act_802 : decode cL_act 802 = .ok (.iload 5, 2) := by decide +kernel
theorem dL_act_804 : decode cL_act 804 = .ok (.invokevirtual 161, 3) := by decide +kernel
theorem dL_act_807 : decode cL_act 807 = .ok (.iload 4, 2) := by decide +kernel
theorem dL_act_809 : decode cL_act 809 = .ok (.if_icmp .ne 77, 3) := by decide +kernel
theorem dL_act_812 : decode cL_act 812 = .ok (.aload_n 0, 1) := by decide +kernel
theorem dL_act_813 : decode cL_act 813 = .ok (.iload 4, 2) := by decide +kernel
theorem dL_act_815 : decode cL_act 815 = .ok (.invokevirtual 33, 3) := by decide +kernel
theorem dL_act_818 : decode cL_act 818 = .ok (.iload 6, 2) := by decide +kernel
theorem dL_act_820 : decode cL_act 820 = .ok (.if_icmp .ne 66, 3) := by decide +kernel
theorem dL_act_823 : decode cL_act 823 = .ok (.aload_n 0, 1) := by decide +kernel
theorem dL_act_824 : decode cL_act 824 = .ok (.iload 4, 2) := by decide +kernel
theorem dL_act_826 : decode cL_act 826 = .ok (.invokevirtual 88, 3) := by decide +kernel
theorem dL_act_829 : decode cL_act 829 = .ok (.iload 9, 2) := by decide +kernel
theorem dL_act_831 : decode cL_act 831 = .ok (.if_icmp .ne 55, 3) := by decide +kernel
theorem dL_act_834 : decode cL_act 834 = .ok (.aload_n 0, 1) := by decide +kernel
theorem dL_act_835 : decode cL_act 835 = .ok (.iload 4, 2) := by decide +kernel
theorem dL_act_837 : decode cL_act 837 = .ok (.invokevirtual 52, 3) := by decide +kernel
theorem dL_act_840 : decode cL_act 840 = .ok (.aload_n 0, 1) := by decide +kernel
theorem dL_act_841 : decode cL_act 841 = .ok (.iload 5, 2) := by decide +kernel
theorem dL_act_843 : decode cL_act 843 = .ok (.invokevirtual 52, 3) := by decide +kernel
theorem dL_act_846 : decode cL_act 846 = .ok (.if_icmp .ne 40, 3) := by decide +kernel
theorem dL_act_849 : decode cL_act 849 = .ok (.aload_n 0, 1) := by decide +kernel
theorem dL_act_850 : decode cL_act 850 = .ok (.iload 4, 2) := by decide +kernel
theorem dL_act_852 : decode cL_act 852 = .ok (.invokevirtual 55, 3) := by decide +kernel
theorem dL_act_855 : decode cL_act 855 = .ok (.aload_n 0, 1) := by decide +kernel
theorem dL_act_856 : decode cL_act 856 = .ok (.iload 5, 2) := by decide +kernel
theorem dL_act_858 : decode cL_act 858 = .ok (.invokevirtual 55, 3) := by decide +kernel
theorem dL_act_861 : decode cL_act 861 = .ok (.if_icmp .ne 25, 3) := by decide +kernel
theorem dL_act_864 : decode cL_act 864 = .ok (.aload_n 0, 1) := by decide +kernel
theorem dL_act_865 : decode cL_act 865 = .ok (.iload 5, 2) := by decide +kernel
theorem dL_act_867 : decode cL_act 867 = .ok (.invokevirtual 62, 3) := by decide +kernel
theorem dL_act_870 : decode cL_act 870 = .ok (.ifCond .ne 16, 3) := by decide +kernel
theorem dL_act_873 : decode cL_act 873 = .ok (.aload_n 0, 1) := by decide +kernel
theorem dL_act_874 : decode cL_act 874 = .ok (.iload 4, 2) := by decide +kernel
theorem dL_act_876 : decode cL_act 876 = .ok (.invokevirtual 62, 3) := by decide +kernel
theorem dL_act_879 : decode cL_act 879 = .ok (.ifCond .ne 7, 3) := by decide +kernel
theorem dL_act_882 : decode cL_act 882 = .ok (.iconst 1, 1) := by decide +kernel
theorem dL_act_883 : decode cL_act 883 = .ok (.goto 4, 3) := by decide +kernel
theorem dL_act_886 : decode cL_act 886 = .ok (.iconst 0, 1) := by decide +kernel
theorem dL_act_887 : decode cL_act 887 = .ok (.ireturn, 1) := by decide +kernel
theorem dL_act_888 : decode cL_act 888 = .ok (.iload_n 2, 1) := by decide +kernel
theorem dL_act_889 : decode cL_act 889 = .ok (.bipush 20, 2) := by decide +kernel
theorem dL_act_891 : decode cL_act 891 = .ok (.if_icmp .ge 208, 3) := by decide +kernel
theorem dL_act_894 : decode cL_act 894 = .ok (.iload 4, 2) := by decide +kernel
theorem dL_act_896 : decode cL_act 896 = .ok (.iconst 1, 1) := by decide +kernel
theorem dL_act_897 : decode cL_act 897 = .ok (.if_icmp .le 202, 3) := by decide +kernel
theorem dL_act_900 : decode cL_act 900 = .ok (.iload 5, 2) := by decide +kernel
theorem dL_act_902 : decode cL_act 902 = .ok (.iconst 1, 1) := by decide +kernel
theorem dL_act_903 : decode cL_act 903 = .ok (.iadd, 1) := by decide +kernel
theorem dL_act_904 : decode cL_act 904 = .ok (.iload_n 3, 1) := by decide +kernel
theorem dL_act_905 : decode cL_act 905 = .ok (.iconst 3, 1) := by decide +kernel
theorem dL_act_906 : decode cL_act 906 = .ok (.ishr, 1) := by decide +kernel
theorem dL_act_907 : decode cL_act 907 = .ok (.iload 4, 2) := by decide +kernel
theorem dL_act_909 : decode cL_act 909 = .ok (.iconst 1, 1) := by decide +kernel
theorem dL_act_910 : decode cL_act 910 = .ok (.isub, 1) := by decide +kernel
theorem dL_act_911 : decode cL_act 911 = .ok (.invokestatic 128, 3) := by decide +kernel
theorem dL_act_914 : decode cL_act 914 = .ok (.iadd, 1) := by decide +kernel
theorem dL_act_915 : decode cL_act 915 = .ok (.iload 4, 2) := by decide +kernel
theorem dL_act_917 : decode cL_act 917 = .ok (.irem, 1) := by decide +kernel
theorem dL_act_918 : decode cL_act 918 = .ok (.istore 9, 2) := by decide +kernel
theorem dL_act_920 : decode cL_act 920 = .ok (.aload_n 0, 1) := by decide +kernel
theorem dL_act_921 : decode cL_act 921 = .ok (.iload 5, 2) := by decide +kernel
theorem dL_act_923 : decode cL_act 923 = .ok (.invokevirtual 88, 3) := by decide +kernel
theorem dL_act_926 : decode cL_act 926 = .ok (.aload_n 0, 1) := by decide +kernel
theorem dL_act_927 : decode cL_act 927 = .ok (.iload 9, 2) := by decide +kernel
theorem dL_act_929 : decode cL_act 929 = .ok (.invokevirtual 88, 3) := by decide +kernel
theorem dL_act_932 : decode cL_act 932 = .ok (.iadd, 1) := by decide +kernel
theorem dL_act_933 : decode cL_act 933 = .ok (.istore 10, 2) := by decide +kernel
theorem dL_act_935 : decode cL_act 935 = .ok (.iload 6, 2) := by decide +kernel
theorem dL_act_937 : decode cL_act 937 = .ok (.aload_n 0, 1) := by decide +kernel
theorem dL_act_938 : decode cL_act 938 = .ok (.iload 9, 2) := by decide +kernel
theorem dL_act_940 : decode cL_act 940 = .ok (.invokevirtual 33, 3) := by decide +kernel
theorem dL_act_943 : decode cL_act 943 = .ok (.iadd, 1) := by decide +kernel
theorem dL_act_944 : decode cL_act 944 = .ok (.istore 11, 2) := by decide +kernel
theorem dL_act_946 : decode cL_act 946 = .ok (.iload 7, 2) := by decide +kernel
theorem dL_act_948 : decode cL_act 948 = .ok (.ifCond .ne 28, 3) := by decide +kernel
theorem dL_act_951 : decode cL_act 951 = .ok (.aload_n 0, 1) := by decide +kernel
theorem dL_act_952 : decode cL_act 952 = .ok (.iload 9, 2) := by decide +kernel
