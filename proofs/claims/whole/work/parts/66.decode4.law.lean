theorem d_L_law_763 : decode code 763 = .ok (.if_icmp .eq 5, 3) := by decide +kernel
theorem d_L_law_766 : decode code 766 = .ok (.iconst 0, 1) := by decide +kernel
theorem d_L_law_767 : decode code 767 = .ok (.ireturn, 1) := by decide +kernel
theorem d_L_law_768 : decode code 768 = .ok (.iload 5, 2) := by decide +kernel
theorem d_L_law_770 : decode code 770 = .ok (.ifCond .ne 15, 3) := by decide +kernel
theorem d_L_law_773 : decode code 773 = .ok (.aload_n 3, 1) := by decide +kernel
theorem d_L_law_774 : decode code 774 = .ok (.iconst 0, 1) := by decide +kernel
theorem d_L_law_775 : decode code 775 = .ok (.laload, 1) := by decide +kernel
theorem d_L_law_776 : decode code 776 = .ok (.iload 6, 2) := by decide +kernel
theorem d_L_law_778 : decode code 778 = .ok (.i2l, 1) := by decide +kernel
theorem d_L_law_779 : decode code 779 = .ok (.lcmp, 1) := by decide +kernel
theorem d_L_law_780 : decode code 780 = .ok (.ifCond .eq 5, 3) := by decide +kernel
theorem d_L_law_783 : decode code 783 = .ok (.iconst 0, 1) := by decide +kernel
theorem d_L_law_784 : decode code 784 = .ok (.ireturn, 1) := by decide +kernel
theorem d_L_law_785 : decode code 785 = .ok (.goto 541, 3) := by decide +kernel
theorem d_L_law_788 : decode code 788 = .ok (.aload_n 1, 1) := by decide +kernel
theorem d_L_law_789 : decode code 789 = .ok (.aload_n 0, 1) := by decide +kernel
theorem d_L_law_790 : decode code 790 = .ok (.iload 4, 2) := by decide +kernel
theorem d_L_law_792 : decode code 792 = .ok (.iconst 1, 1) := by decide +kernel
theorem d_L_law_793 : decode code 793 = .ok (.iadd, 1) := by decide +kernel
theorem d_L_law_794 : decode code 794 = .ok (.iaload, 1) := by decide +kernel
theorem d_L_law_795 : decode code 795 = .ok (.aload_n 0, 1) := by decide +kernel
theorem d_L_law_796 : decode code 796 = .ok (.iload 4, 2) := by decide +kernel
theorem d_L_law_798 : decode code 798 = .ok (.iconst 2, 1) := by decide +kernel
theorem d_L_law_799 : decode code 799 = .ok (.iadd, 1) := by decide +kernel
theorem d_L_law_800 : decode code 800 = .ok (.iaload, 1) := by decide +kernel
theorem d_L_law_801 : decode code 801 = .ok (.aload_n 0, 1) := by decide +kernel
theorem d_L_law_802 : decode code 802 = .ok (.iload 4, 2) := by decide +kernel
theorem d_L_law_804 : decode code 804 = .ok (.iconst 3, 1) := by decide +kernel
theorem d_L_law_805 : decode code 805 = .ok (.iadd, 1) := by decide +kernel
theorem d_L_law_806 : decode code 806 = .ok (.iaload, 1) := by decide +kernel
theorem d_L_law_807 : decode code 807 = .ok (.aload_n 3, 1) := by decide +kernel
theorem d_L_law_808 : decode code 808 = .ok (.invokestatic 117, 3) := by decide +kernel
theorem d_L_law_811 : decode code 811 = .ok (.istore 5, 2) := by decide +kernel
theorem d_L_law_813 : decode code 813 = .ok (.aload_n 2, 1) := by decide +kernel
theorem d_L_law_814 : decode code 814 = .ok (.aload_n 0, 1) := by decide +kernel
theorem d_L_law_815 : decode code 815 = .ok (.iload 4, 2) := by decide +kernel
theorem d_L_law_817 : decode code 817 = .ok (.iconst 1, 1) := by decide +kernel
theorem d_L_law_818 : decode code 818 = .ok (.iadd, 1) := by decide +kernel
theorem d_L_law_819 : decode code 819 = .ok (.iaload, 1) := by decide +kernel
theorem d_L_law_820 : decode code 820 = .ok (.aload_n 0, 1) := by decide +kernel
theorem d_L_law_821 : decode code 821 = .ok (.iload 4, 2) := by decide +kernel
theorem d_L_law_823 : decode code 823 = .ok (.iconst 2, 1) := by decide +kernel
theorem d_L_law_824 : decode code 824 = .ok (.iadd, 1) := by decide +kernel
theorem d_L_law_825 : decode code 825 = .ok (.iaload, 1) := by decide +kernel
theorem d_L_law_826 : decode code 826 = .ok (.aload_n 0, 1) := by decide +kernel
theorem d_L_law_827 : decode code 827 = .ok (.iload 4, 2) := by decide +kernel
theorem d_L_law_829 : decode code 829 = .ok (.iconst 3, 1) := by decide +kernel
theorem d_L_law_830 : decode code 830 = .ok (.iadd, 1) := by decide +kernel
theorem d_L_law_831 : decode code 831 = .ok (.iaload, 1) := by decide +kernel
theorem d_L_law_832 : decode code 832 = .ok (.invokevirtual 119, 3) := by decide +kernel
theorem d_L_law_835 : decode code 835 = .ok (.istore 6, 2) := by decide +kernel
theorem d_L_law_837 : decode code 837 = .ok (.aload_n 2, 1) := by decide +kernel
theorem d_L_law_838 : decode code 838 = .ok (.invokevirtual 83, 3) := by decide +kernel
theorem d_L_law_841 : decode code 841 = .ok (.iload 5, 2) := by decide +kernel
theorem d_L_law_843 : decode code 843 = .ok (.if_icmp .eq 5, 3) := by decide +kernel
theorem d_L_law_846 : decode code 846 = .ok (.iconst 0, 1) := by decide +kernel
theorem d_L_law_847 : decode code 847 = .ok (.ireturn, 1) := by decide +kernel
theorem d_L_law_848 : decode code 848 = .ok (.iload 5, 2) := by decide +kernel
theorem d_L_law_850 : decode code 850 = .ok (.ifCond .ne 15, 3) := by decide +kernel
theorem d_L_law_853 : decode code 853 = .ok (.aload_n 3, 1) := by decide +kernel
theorem d_L_law_854 : decode code 854 = .ok (.iconst 0, 1) := by decide +kernel
theorem d_L_law_855 : decode code 855 = .ok (.laload, 1) := by decide +kernel
theorem d_L_law_856 : decode code 856 = .ok (.iload 6, 2) := by decide +kernel
theorem d_L_law_858 : decode code 858 = .ok (.i2l, 1) := by decide +kernel
theorem d_L_law_859 : decode code 859 = .ok (.lcmp, 1) := by decide +kernel
theorem d_L_law_860 : decode code 860 = .ok (.ifCond .eq 5, 3) := by decide +kernel
theorem d_L_law_863 : decode code 863 = .ok (.iconst 0, 1) := by decide +kernel
theorem d_L_law_864 : decode code 864 = .ok (.ireturn, 1) := by decide +kernel
theorem d_L_law_865 : decode code 865 = .ok (.goto 461, 3) := by decide +kernel
theorem d_L_law_868 : decode code 868 = .ok (.aload_n 1, 1) := by decide +kernel
theorem d_L_law_869 : decode code 869 = .ok (.aload_n 0, 1) := by decide +kernel
theorem d_L_law_870 : decode code 870 = .ok (.iload 4, 2) := by decide +kernel
theorem d_L_law_872 : decode code 872 = .ok (.iconst 1, 1) := by decide +kernel
theorem d_L_law_873 : decode code 873 = .ok (.iadd, 1) := by decide +kernel
theorem d_L_law_874 : decode code 874 = .ok (.iaload, 1) := by decide +kernel
theorem d_L_law_875 : decode code 875 = .ok (.aload_n 0, 1) := by decide +kernel
theorem d_L_law_876 : decode code 876 = .ok (.iload 4, 2) := by decide +kernel
theorem d_L_law_878 : decode code 878 = .ok (.iconst 2, 1) := by decide +kernel
theorem d_L_law_879 : decode code 879 = .ok (.iadd, 1) := by decide +kernel
theorem d_L_law_880 : decode code 880 = .ok (.iaload, 1) := by decide +kernel
theorem d_L_law_881 : decode code 881 = .ok (.aload_n 0, 1) := by decide +kernel
theorem d_L_law_882 : decode code 882 = .ok (.iload 4, 2) := by decide +kernel
theorem d_L_law_884 : decode code 884 = .ok (.iconst 3, 1) := by decide +kernel
theorem d_L_law_885 : decode code 885 = .ok (.iadd, 1) := by decide +kernel
theorem d_L_law_886 : decode code 886 = .ok (.iaload, 1) := by decide +kernel
theorem d_L_law_887 : decode code 887 = .ok (.aload_n 3, 1) := by decide +kernel
theorem d_L_law_888 : decode code 888 = .ok (.invokestatic 120, 3) := by decide +kernel
theorem d_L_law_891 : decode code 891 = .ok (.istore 5, 2) := by decide +kernel
theorem d_L_law_893 : decode code 893 = .ok (.aload_n 2, 1) := by decide +kernel
theorem d_L_law_894 : decode code 894 = .ok (.aload_n 0, 1) := by decide +kernel
theorem d_L_law_895 : decode code 895 = .ok (.iload 4, 2) := by decide +kernel
theorem d_L_law_897 : decode code 897 = .ok (.iconst 1, 1) := by decide +kernel
theorem d_L_law_898 : decode code 898 = .ok (.iadd, 1) := by decide +kernel
theorem d_L_law_899 : decode code 899 = .ok (.iaload, 1) := by decide +kernel
theorem d_L_law_900 : decode code 900 = .ok (.aload_n 0, 1) := by decide +kernel
theorem d_L_law_901 : decode code 901 = .ok (.iload 4, 2) := by decide +kernel
theorem d_L_law_903 : decode code 903 = .ok (.iconst 2, 1) := by decide +kernel
theorem d_L_law_904 : decode code 904 = .ok (.iadd, 1) := by decide +kernel
theorem d_L_law_905 : decode code 905 = .ok (.iaload, 1) := by decide +kernel
theorem d_L_law_906 : decode code 906 = .ok (.aload_n 0, 1) := by decide +kernel
theorem d_L_law_907 : decode code 907 = .ok (.iload 4, 2) := by decide +kernel
theorem d_L_law_909 : decode code 909 = .ok (.iconst 3, 1) := by decide +kernel
theorem d_L_law_910 : decode code 910 = .ok (.iadd, 1) := by decide +kernel
theorem d_L_law_911 : decode code 911 = .ok (.iaload, 1) := by decide +kernel
theorem d_L_law_912 : decode code 912 = .ok (.invokevirtual 122, 3) := by decide +kernel
theorem d_L_law_915 : decode code 915 = .ok (.istore 6, 2) := by decide +kernel
theorem d_L_law_917 : decode code 917 = .ok (.aload_n 2, 1) := by decide +kernel
theorem d_L_law_918 : decode code 918 = .ok (.invokevirtual 83, 3) := by decide +kernel
theorem d_L_law_921 : decode code 921 = .ok (.iload 5, 2) := by decide +kernel
theorem d_L_law_923 : decode code 923 = .ok (.if_icmp .eq 5, 3) := by decide +kernel
theorem d_L_law_926 : decode code 926 = .ok (.iconst 0, 1) := by decide +kernel
theorem d_L_law_927 : decode code 927 = .ok (.ireturn, 1) := by decide +kernel
theorem d_L_law_928 : decode code 928 = .ok (.iload 5, 2) := by decide +kernel
theorem d_L_law_930 : decode code 930 = .ok (.ifCond .ne 22, 3) := by decide +kernel
theorem d_L_law_933 : decode code 933 = .ok (.aload_n 3, 1) := by decide +kernel
theorem d_L_law_934 : decode code 934 = .ok (.iconst 0, 1) := by decide +kernel
theorem d_L_law_935 : decode code 935 = .ok (.laload, 1) := by decide +kernel
theorem d_L_law_936 : decode code 936 = .ok (.iload 6, 2) := by decide +kernel
theorem d_L_law_938 : decode code 938 = .ok (.ifCond .eq 7, 3) := by decide +kernel
theorem d_L_law_941 : decode code 941 = .ok (.lconst 1, 1) := by decide +kernel
theorem d_L_law_942 : decode code 942 = .ok (.goto 4, 3) := by decide +kernel
theorem d_L_law_945 : decode code 945 = .ok (.lconst 0, 1) := by decide +kernel
theorem d_L_law_946 : decode code 946 = .ok (.lcmp, 1) := by decide +kernel
theorem d_L_law_947 : decode code 947 = .ok (.ifCond .eq 5, 3) := by decide +kernel
theorem d_L_law_950 : decode code 950 = .ok (.iconst 0, 1) := by decide +kernel
theorem d_L_law_951 : decode code 951 = .ok (.ireturn, 1) := by decide +kernel
theorem d_L_law_952 : decode code 952 = .ok (.goto 374, 3) := by decide +kernel
theorem d_L_law_955 : decode code 955 = .ok (.aload_n 1, 1) := by decide +kernel
theorem d_L_law_956 : decode code 956 = .ok (.aload_n 0, 1) := by decide +kernel
theorem d_L_law_957 : decode code 957 = .ok (.iload 4, 2) := by decide +kernel
theorem d_L_law_959 : decode code 959 = .ok (.iconst 1, 1) := by decide +kernel
theorem d_L_law_960 : decode code 960 = .ok (.iadd, 1) := by decide +kernel
theorem d_L_law_961 : decode code 961 = .ok (.iaload, 1) := by decide +kernel
theorem d_L_law_962 : decode code 962 = .ok (.aload_n 0, 1) := by decide +kernel
theorem d_L_law_963 : decode code 963 = .ok (.iload 4, 2) := by decide +kernel
theorem d_L_law_965 : decode code 965 = .ok (.iconst 2, 1) := by decide +kernel
theorem d_L_law_966 : decode code 966 = .ok (.iadd, 1) := by decide +kernel
theorem d_L_law_967 : decode code 967 = .ok (.iaload, 1) := by decide +kernel
theorem d_L_law_968 : decode code 968 = .ok (.aload_n 0, 1) := by decide +kernel
theorem d_L_law_969 : decode code 969 = .ok (.iload 4, 2) := by decide +kernel
theorem d_L_law_971 : decode code 971 = .ok (.iconst 3, 1) := by decide +kernel
theorem d_L_law_972 : decode code 972 = .ok (.iadd, 1) := by decide +kernel
theorem d_L_law_973 : decode code 973 = .ok (.iaload, 1) := by decide +kernel
theorem d_L_law_974 : decode code 974 = .ok (.aload_n 3, 1) := by decide +kernel
theorem d_L_law_975 : decode code 975 = .ok (.invokestatic 123, 3) := by decide +kernel
theorem d_L_law_978 : decode code 978 = .ok (.istore 5, 2) := by decide +kernel
theorem d_L_law_980 : decode code 980 = .ok (.aload_n 2, 1) := by decide +kernel
theorem d_L_law_981 : decode code 981 = .ok (.aload_n 0, 1) := by decide +kernel
theorem d_L_law_982 : decode code 982 = .ok (.iload 4, 2) := by decide +kernel
