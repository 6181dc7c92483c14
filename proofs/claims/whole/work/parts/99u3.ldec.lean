/-! the law: what its bytes say, 3 -/
theorem dl_752 : decode code 752 = .ok (.ireturn, 1) := by decide +kernel
theorem dl_753 : decode code 753 = .ok (.aload_n 1, 1) := by decide +kernel
theorem dl_754 : decode code 754 = .ok (.aload_n 0, 1) := by decide +kernel
theorem dl_755 : decode code 755 = .ok (.iload_n 3, 1) := by decide +kernel
theorem dl_756 : decode code 756 = .ok (.iconst 1, 1) := by decide +kernel
theorem dl_757 : decode code 757 = .ok (.iadd, 1) := by decide +kernel
theorem dl_758 : decode code 758 = .ok (.iaload, 1) := by decide +kernel
theorem dl_759 : decode code 759 = .ok (.aload_n 0, 1) := by decide +kernel
theorem dl_760 : decode code 760 = .ok (.iload_n 3, 1) := by decide +kernel
theorem dl_761 : decode code 761 = .ok (.iconst 2, 1) := by decide +kernel
theorem dl_762 : decode code 762 = .ok (.iadd, 1) := by decide +kernel
theorem dl_763 : decode code 763 = .ok (.iaload, 1) := by decide +kernel
theorem dl_764 : decode code 764 = .ok (.invokevirtual 80, 3) := by decide +kernel
theorem dl_767 : decode code 767 = .ok (.aload_n 2, 1) := by decide +kernel
theorem dl_768 : decode code 768 = .ok (.aload_n 0, 1) := by decide +kernel
theorem dl_769 : decode code 769 = .ok (.iload_n 3, 1) := by decide +kernel
theorem dl_770 : decode code 770 = .ok (.iconst 1, 1) := by decide +kernel
theorem dl_771 : decode code 771 = .ok (.iadd, 1) := by decide +kernel
theorem dl_772 : decode code 772 = .ok (.iaload, 1) := by decide +kernel
theorem dl_773 : decode code 773 = .ok (.aload_n 0, 1) := by decide +kernel
theorem dl_774 : decode code 774 = .ok (.iload_n 3, 1) := by decide +kernel
theorem dl_775 : decode code 775 = .ok (.iconst 2, 1) := by decide +kernel
theorem dl_776 : decode code 776 = .ok (.iadd, 1) := by decide +kernel
theorem dl_777 : decode code 777 = .ok (.iaload, 1) := by decide +kernel
theorem dl_778 : decode code 778 = .ok (.invokevirtual 83, 3) := by decide +kernel
theorem dl_781 : decode code 781 = .ok (.if_icmp .eq 1244, 3) := by decide +kernel
theorem dl_784 : decode code 784 = .ok (.iconst 0, 1) := by decide +kernel
theorem dl_785 : decode code 785 = .ok (.ireturn, 1) := by decide +kernel
theorem dl_786 : decode code 786 = .ok (.aload_n 1, 1) := by decide +kernel
theorem dl_787 : decode code 787 = .ok (.aload_n 0, 1) := by decide +kernel
theorem dl_788 : decode code 788 = .ok (.iload_n 3, 1) := by decide +kernel
theorem dl_789 : decode code 789 = .ok (.iconst 1, 1) := by decide +kernel
theorem dl_790 : decode code 790 = .ok (.iadd, 1) := by decide +kernel
theorem dl_791 : decode code 791 = .ok (.iaload, 1) := by decide +kernel
theorem dl_792 : decode code 792 = .ok (.aload_n 0, 1) := by decide +kernel
theorem dl_793 : decode code 793 = .ok (.iload_n 3, 1) := by decide +kernel
theorem dl_794 : decode code 794 = .ok (.iconst 2, 1) := by decide +kernel
theorem dl_795 : decode code 795 = .ok (.iadd, 1) := by decide +kernel
theorem dl_796 : decode code 796 = .ok (.iaload, 1) := by decide +kernel
theorem dl_797 : decode code 797 = .ok (.invokevirtual 84, 3) := by decide +kernel
theorem dl_800 : decode code 800 = .ok (.aload_n 2, 1) := by decide +kernel
theorem dl_801 : decode code 801 = .ok (.aload_n 0, 1) := by decide +kernel
theorem dl_802 : decode code 802 = .ok (.iload_n 3, 1) := by decide +kernel
theorem dl_803 : decode code 803 = .ok (.iconst 1, 1) := by decide +kernel
theorem dl_804 : decode code 804 = .ok (.iadd, 1) := by decide +kernel
theorem dl_805 : decode code 805 = .ok (.iaload, 1) := by decide +kernel
theorem dl_806 : decode code 806 = .ok (.aload_n 0, 1) := by decide +kernel
theorem dl_807 : decode code 807 = .ok (.iload_n 3, 1) := by decide +kernel
theorem dl_808 : decode code 808 = .ok (.iconst 2, 1) := by decide +kernel
theorem dl_809 : decode code 809 = .ok (.iadd, 1) := by decide +kernel
theorem dl_810 : decode code 810 = .ok (.iaload, 1) := by decide +kernel
theorem dl_811 : decode code 811 = .ok (.invokevirtual 87, 3) := by decide +kernel
theorem dl_814 : decode code 814 = .ok (.if_icmp .eq 1211, 3) := by decide +kernel
theorem dl_817 : decode code 817 = .ok (.iconst 0, 1) := by decide +kernel
theorem dl_818 : decode code 818 = .ok (.ireturn, 1) := by decide +kernel
theorem dl_819 : decode code 819 = .ok (.aload_n 1, 1) := by decide +kernel
theorem dl_820 : decode code 820 = .ok (.aload_n 0, 1) := by decide +kernel
theorem dl_821 : decode code 821 = .ok (.iload_n 3, 1) := by decide +kernel
theorem dl_822 : decode code 822 = .ok (.iconst 1, 1) := by decide +kernel
theorem dl_823 : decode code 823 = .ok (.iadd, 1) := by decide +kernel
theorem dl_824 : decode code 824 = .ok (.iaload, 1) := by decide +kernel
theorem dl_825 : decode code 825 = .ok (.aload_n 0, 1) := by decide +kernel
theorem dl_826 : decode code 826 = .ok (.iload_n 3, 1) := by decide +kernel
theorem dl_827 : decode code 827 = .ok (.iconst 2, 1) := by decide +kernel
theorem dl_828 : decode code 828 = .ok (.iadd, 1) := by decide +kernel
theorem dl_829 : decode code 829 = .ok (.iaload, 1) := by decide +kernel
theorem dl_830 : decode code 830 = .ok (.invokevirtual 88, 3) := by decide +kernel
theorem dl_833 : decode code 833 = .ok (.aload_n 2, 1) := by decide +kernel
theorem dl_834 : decode code 834 = .ok (.aload_n 0, 1) := by decide +kernel
theorem dl_835 : decode code 835 = .ok (.iload_n 3, 1) := by decide +kernel
theorem dl_836 : decode code 836 = .ok (.iconst 1, 1) := by decide +kernel
theorem dl_837 : decode code 837 = .ok (.iadd, 1) := by decide +kernel
theorem dl_838 : decode code 838 = .ok (.iaload, 1) := by decide +kernel
theorem dl_839 : decode code 839 = .ok (.aload_n 0, 1) := by decide +kernel
theorem dl_840 : decode code 840 = .ok (.iload_n 3, 1) := by decide +kernel
theorem dl_841 : decode code 841 = .ok (.iconst 2, 1) := by decide +kernel
theorem dl_842 : decode code 842 = .ok (.iadd, 1) := by decide +kernel
theorem dl_843 : decode code 843 = .ok (.iaload, 1) := by decide +kernel
theorem dl_844 : decode code 844 = .ok (.invokevirtual 91, 3) := by decide +kernel
theorem dl_847 : decode code 847 = .ok (.if_icmp .eq 1178, 3) := by decide +kernel
theorem dl_850 : decode code 850 = .ok (.iconst 0, 1) := by decide +kernel
theorem dl_851 : decode code 851 = .ok (.ireturn, 1) := by decide +kernel
theorem dl_852 : decode code 852 = .ok (.aload_n 1, 1) := by decide +kernel
theorem dl_853 : decode code 853 = .ok (.aload_n 0, 1) := by decide +kernel
theorem dl_854 : decode code 854 = .ok (.iload_n 3, 1) := by decide +kernel
theorem dl_855 : decode code 855 = .ok (.iconst 1, 1) := by decide +kernel
theorem dl_856 : decode code 856 = .ok (.iadd, 1) := by decide +kernel
theorem dl_857 : decode code 857 = .ok (.iaload, 1) := by decide +kernel
theorem dl_858 : decode code 858 = .ok (.invokevirtual 92, 3) := by decide +kernel
theorem dl_861 : decode code 861 = .ok (.aload_n 2, 1) := by decide +kernel
theorem dl_862 : decode code 862 = .ok (.aload_n 0, 1) := by decide +kernel
theorem dl_863 : decode code 863 = .ok (.iload_n 3, 1) := by decide +kernel
theorem dl_864 : decode code 864 = .ok (.iconst 1, 1) := by decide +kernel
theorem dl_865 : decode code 865 = .ok (.iadd, 1) := by decide +kernel
theorem dl_866 : decode code 866 = .ok (.iaload, 1) := by decide +kernel
theorem dl_867 : decode code 867 = .ok (.invokevirtual 95, 3) := by decide +kernel
theorem dl_870 : decode code 870 = .ok (.if_icmp .eq 1155, 3) := by decide +kernel
theorem dl_873 : decode code 873 = .ok (.iconst 0, 1) := by decide +kernel
theorem dl_874 : decode code 874 = .ok (.ireturn, 1) := by decide +kernel
theorem dl_875 : decode code 875 = .ok (.aload_n 1, 1) := by decide +kernel
theorem dl_876 : decode code 876 = .ok (.aload_n 0, 1) := by decide +kernel
theorem dl_877 : decode code 877 = .ok (.iload_n 3, 1) := by decide +kernel
theorem dl_878 : decode code 878 = .ok (.iconst 1, 1) := by decide +kernel
theorem dl_879 : decode code 879 = .ok (.iadd, 1) := by decide +kernel
theorem dl_880 : decode code 880 = .ok (.iaload, 1) := by decide +kernel
theorem dl_881 : decode code 881 = .ok (.aload_n 0, 1) := by decide +kernel
theorem dl_882 : decode code 882 = .ok (.iload_n 3, 1) := by decide +kernel
theorem dl_883 : decode code 883 = .ok (.iconst 2, 1) := by decide +kernel
theorem dl_884 : decode code 884 = .ok (.iadd, 1) := by decide +kernel
theorem dl_885 : decode code 885 = .ok (.iaload, 1) := by decide +kernel
theorem dl_886 : decode code 886 = .ok (.invokevirtual 96, 3) := by decide +kernel
theorem dl_889 : decode code 889 = .ok (.aload_n 2, 1) := by decide +kernel
theorem dl_890 : decode code 890 = .ok (.aload_n 0, 1) := by decide +kernel
theorem dl_891 : decode code 891 = .ok (.iload_n 3, 1) := by decide +kernel
theorem dl_892 : decode code 892 = .ok (.iconst 1, 1) := by decide +kernel
theorem dl_893 : decode code 893 = .ok (.iadd, 1) := by decide +kernel
theorem dl_894 : decode code 894 = .ok (.iaload, 1) := by decide +kernel
theorem dl_895 : decode code 895 = .ok (.aload_n 0, 1) := by decide +kernel
theorem dl_896 : decode code 896 = .ok (.iload_n 3, 1) := by decide +kernel
theorem dl_897 : decode code 897 = .ok (.iconst 2, 1) := by decide +kernel
theorem dl_898 : decode code 898 = .ok (.iadd, 1) := by decide +kernel
theorem dl_899 : decode code 899 = .ok (.iaload, 1) := by decide +kernel
theorem dl_900 : decode code 900 = .ok (.invokevirtual 99, 3) := by decide +kernel
theorem dl_903 : decode code 903 = .ok (.if_icmp .eq 1122, 3) := by decide +kernel
theorem dl_906 : decode code 906 = .ok (.iconst 0, 1) := by decide +kernel
theorem dl_907 : decode code 907 = .ok (.ireturn, 1) := by decide +kernel
theorem dl_908 : decode code 908 = .ok (.aload_n 1, 1) := by decide +kernel
theorem dl_909 : decode code 909 = .ok (.aload_n 0, 1) := by decide +kernel
theorem dl_910 : decode code 910 = .ok (.iload_n 3, 1) := by decide +kernel
theorem dl_911 : decode code 911 = .ok (.iconst 1, 1) := by decide +kernel
theorem dl_912 : decode code 912 = .ok (.iadd, 1) := by decide +kernel
theorem dl_913 : decode code 913 = .ok (.iaload, 1) := by decide +kernel
theorem dl_914 : decode code 914 = .ok (.invokevirtual 100, 3) := by decide +kernel
theorem dl_917 : decode code 917 = .ok (.aload_n 2, 1) := by decide +kernel
theorem dl_918 : decode code 918 = .ok (.aload_n 0, 1) := by decide +kernel
theorem dl_919 : decode code 919 = .ok (.iload_n 3, 1) := by decide +kernel
theorem dl_920 : decode code 920 = .ok (.iconst 1, 1) := by decide +kernel
theorem dl_921 : decode code 921 = .ok (.iadd, 1) := by decide +kernel
theorem dl_922 : decode code 922 = .ok (.iaload, 1) := by decide +kernel
theorem dl_923 : decode code 923 = .ok (.invokevirtual 103, 3) := by decide +kernel
theorem dl_926 : decode code 926 = .ok (.if_icmp .eq 1099, 3) := by decide +kernel
theorem dl_929 : decode code 929 = .ok (.iconst 0, 1) := by decide +kernel
theorem dl_930 : decode code 930 = .ok (.ireturn, 1) := by decide +kernel
theorem dl_931 : decode code 931 = .ok (.aload_n 1, 1) := by decide +kernel
theorem dl_932 : decode code 932 = .ok (.aload_n 0, 1) := by decide +kernel
theorem dl_933 : decode code 933 = .ok (.iload_n 3, 1) := by decide +kernel
theorem dl_934 : decode code 934 = .ok (.iconst 1, 1) := by decide +kernel
theorem dl_935 : decode code 935 = .ok (.iadd, 1) := by decide +kernel
theorem dl_936 : decode code 936 = .ok (.iaload, 1) := by decide +kernel
theorem dl_937 : decode code 937 = .ok (.invokevirtual 104, 3) := by decide +kernel
theorem dl_940 : decode code 940 = .ok (.aload_n 2, 1) := by decide +kernel
theorem dl_941 : decode code 941 = .ok (.aload_n 0, 1) := by decide +kernel
theorem dl_942 : decode code 942 = .ok (.iload_n 3, 1) := by decide +kernel
theorem dl_943 : decode code 943 = .ok (.iconst 1, 1) := by decide +kernel
theorem dl_944 : decode code 944 = .ok (.iadd, 1) := by decide +kernel
theorem dl_945 : decode code 945 = .ok (.iaload, 1) := by decide +kernel
theorem dl_946 : decode code 946 = .ok (.invokevirtual 107, 3) := by decide +kernel
theorem dl_949 : decode code 949 = .ok (.if_icmp .eq 1076, 3) := by decide +kernel
theorem dl_952 : decode code 952 = .ok (.iconst 0, 1) := by decide +kernel
theorem dl_953 : decode code 953 = .ok (.ireturn, 1) := by decide +kernel
theorem dl_954 : decode code 954 = .ok (.aload_n 1, 1) := by decide +kernel
theorem dl_955 : decode code 955 = .ok (.aload_n 0, 1) := by decide +kernel
theorem dl_956 : decode code 956 = .ok (.iload_n 3, 1) := by decide +kernel
theorem dl_957 : decode code 957 = .ok (.iconst 1, 1) := by decide +kernel
theorem dl_958 : decode code 958 = .ok (.iadd, 1) := by decide +kernel
theorem dl_959 : decode code 959 = .ok (.iaload, 1) := by decide +kernel
theorem dl_960 : decode code 960 = .ok (.ifCond .eq 7, 3) := by decide +kernel
theorem dl_963 : decode code 963 = .ok (.iconst 1, 1) := by decide +kernel
theorem dl_964 : decode code 964 = .ok (.goto 4, 3) := by decide +kernel
theorem dl_967 : decode code 967 = .ok (.iconst 0, 1) := by decide +kernel
theorem dl_968 : decode code 968 = .ok (.invokevirtual 108, 3) := by decide +kernel
theorem dl_971 : decode code 971 = .ok (.aload_n 2, 1) := by decide +kernel
theorem dl_972 : decode code 972 = .ok (.aload_n 0, 1) := by decide +kernel
theorem dl_973 : decode code 973 = .ok (.iload_n 3, 1) := by decide +kernel
theorem dl_974 : decode code 974 = .ok (.iconst 1, 1) := by decide +kernel
theorem dl_975 : decode code 975 = .ok (.iadd, 1) := by decide +kernel
theorem dl_976 : decode code 976 = .ok (.iaload, 1) := by decide +kernel
theorem dl_977 : decode code 977 = .ok (.ifCond .eq 7, 3) := by decide +kernel
theorem dl_980 : decode code 980 = .ok (.iconst 1, 1) := by decide +kernel
theorem dl_981 : decode code 981 = .ok (.goto 4, 3) := by decide +kernel
theorem dl_984 : decode code 984 = .ok (.iconst 0, 1) := by decide +kernel
theorem dl_985 : decode code 985 = .ok (.invokevirtual 112, 3) := by decide +kernel
theorem dl_988 : decode code 988 = .ok (.if_icmp .eq 1037, 3) := by decide +kernel
theorem dl_991 : decode code 991 = .ok (.iconst 0, 1) := by decide +kernel
theorem dl_992 : decode code 992 = .ok (.ireturn, 1) := by decide +kernel
theorem dl_993 : decode code 993 = .ok (.aload_n 1, 1) := by decide +kernel
theorem dl_994 : decode code 994 = .ok (.aload_n 0, 1) := by decide +kernel
theorem dl_995 : decode code 995 = .ok (.iload_n 3, 1) := by decide +kernel
theorem dl_996 : decode code 996 = .ok (.iconst 1, 1) := by decide +kernel
theorem dl_997 : decode code 997 = .ok (.iadd, 1) := by decide +kernel
theorem dl_998 : decode code 998 = .ok (.iaload, 1) := by decide +kernel
theorem dl_999 : decode code 999 = .ok (.aload_n 0, 1) := by decide +kernel
theorem dl_1000 : decode code 1000 = .ok (.iload_n 3, 1) := by decide +kernel
theorem dl_1001 : decode code 1001 = .ok (.iconst 2, 1) := by decide +kernel
theorem dl_1002 : decode code 1002 = .ok (.iadd, 1) := by decide +kernel
theorem dl_1003 : decode code 1003 = .ok (.iaload, 1) := by decide +kernel
theorem dl_1004 : decode code 1004 = .ok (.ifCond .eq 7, 3) := by decide +kernel
theorem dl_1007 : decode code 1007 = .ok (.iconst 1, 1) := by decide +kernel
