theorem dl_788 : decode code 788 = .ok (.invokevirtual 95, 3) := by decide +kernel
theorem dl_791 : decode code 791 = .ok (.aload_n 2, 1) := by decide +kernel
theorem dl_792 : decode code 792 = .ok (.aload_n 0, 1) := by decide +kernel
theorem dl_793 : decode code 793 = .ok (.iload 4, 2) := by decide +kernel
theorem dl_795 : decode code 795 = .ok (.iconst 1, 1) := by decide +kernel
theorem dl_796 : decode code 796 = .ok (.iadd, 1) := by decide +kernel
theorem dl_797 : decode code 797 = .ok (.iaload, 1) := by decide +kernel
theorem dl_798 : decode code 798 = .ok (.aload_n 0, 1) := by decide +kernel
theorem dl_799 : decode code 799 = .ok (.iload 4, 2) := by decide +kernel
theorem dl_801 : decode code 801 = .ok (.iconst 2, 1) := by decide +kernel
theorem dl_802 : decode code 802 = .ok (.iadd, 1) := by decide +kernel
theorem dl_803 : decode code 803 = .ok (.iaload, 1) := by decide +kernel
theorem dl_804 : decode code 804 = .ok (.invokevirtual 98, 3) := by decide +kernel
theorem dl_807 : decode code 807 = .ok (.if_icmp .eq 182, 3) := by decide +kernel
theorem dl_810 : decode code 810 = .ok (.iconst 0, 1) := by decide +kernel
theorem dl_811 : decode code 811 = .ok (.ireturn, 1) := by decide +kernel
theorem dl_812 : decode code 812 = .ok (.aload_n 1, 1) := by decide +kernel
theorem dl_813 : decode code 813 = .ok (.aload_n 0, 1) := by decide +kernel
theorem dl_814 : decode code 814 = .ok (.iload 4, 2) := by decide +kernel
theorem dl_816 : decode code 816 = .ok (.iconst 1, 1) := by decide +kernel
theorem dl_817 : decode code 817 = .ok (.iadd, 1) := by decide +kernel
theorem dl_818 : decode code 818 = .ok (.iaload, 1) := by decide +kernel
theorem dl_819 : decode code 819 = .ok (.invokevirtual 99, 3) := by decide +kernel
theorem dl_822 : decode code 822 = .ok (.aload_n 2, 1) := by decide +kernel
theorem dl_823 : decode code 823 = .ok (.aload_n 0, 1) := by decide +kernel
theorem dl_824 : decode code 824 = .ok (.iload 4, 2) := by decide +kernel
theorem dl_826 : decode code 826 = .ok (.iconst 1, 1) := by decide +kernel
theorem dl_827 : decode code 827 = .ok (.iadd, 1) := by decide +kernel
theorem dl_828 : decode code 828 = .ok (.iaload, 1) := by decide +kernel
theorem dl_829 : decode code 829 = .ok (.invokevirtual 102, 3) := by decide +kernel
theorem dl_832 : decode code 832 = .ok (.if_icmp .eq 157, 3) := by decide +kernel
theorem dl_835 : decode code 835 = .ok (.iconst 0, 1) := by decide +kernel
theorem dl_836 : decode code 836 = .ok (.ireturn, 1) := by decide +kernel
theorem dl_837 : decode code 837 = .ok (.aload_n 1, 1) := by decide +kernel
theorem dl_838 : decode code 838 = .ok (.aload_n 0, 1) := by decide +kernel
theorem dl_839 : decode code 839 = .ok (.iload 4, 2) := by decide +kernel
theorem dl_841 : decode code 841 = .ok (.iconst 1, 1) := by decide +kernel
theorem dl_842 : decode code 842 = .ok (.iadd, 1) := by decide +kernel
theorem dl_843 : decode code 843 = .ok (.iaload, 1) := by decide +kernel
theorem dl_844 : decode code 844 = .ok (.aload_n 0, 1) := by decide +kernel
theorem dl_845 : decode code 845 = .ok (.iload 4, 2) := by decide +kernel
theorem dl_847 : decode code 847 = .ok (.iconst 2, 1) := by decide +kernel
theorem dl_848 : decode code 848 = .ok (.iadd, 1) := by decide +kernel
theorem dl_849 : decode code 849 = .ok (.iaload, 1) := by decide +kernel
theorem dl_850 : decode code 850 = .ok (.invokevirtual 103, 3) := by decide +kernel
theorem dl_853 : decode code 853 = .ok (.aload_n 2, 1) := by decide +kernel
theorem dl_854 : decode code 854 = .ok (.aload_n 0, 1) := by decide +kernel
theorem dl_855 : decode code 855 = .ok (.iload 4, 2) := by decide +kernel
theorem dl_857 : decode code 857 = .ok (.iconst 1, 1) := by decide +kernel
theorem dl_858 : decode code 858 = .ok (.iadd, 1) := by decide +kernel
theorem dl_859 : decode code 859 = .ok (.iaload, 1) := by decide +kernel
theorem dl_860 : decode code 860 = .ok (.aload_n 0, 1) := by decide +kernel
theorem dl_861 : decode code 861 = .ok (.iload 4, 2) := by decide +kernel
theorem dl_863 : decode code 863 = .ok (.iconst 2, 1) := by decide +kernel
theorem dl_864 : decode code 864 = .ok (.iadd, 1) := by decide +kernel
theorem dl_865 : decode code 865 = .ok (.iaload, 1) := by decide +kernel
theorem dl_866 : decode code 866 = .ok (.invokevirtual 106, 3) := by decide +kernel
theorem dl_869 : decode code 869 = .ok (.if_icmp .eq 120, 3) := by decide +kernel
theorem dl_872 : decode code 872 = .ok (.iconst 0, 1) := by decide +kernel
theorem dl_873 : decode code 873 = .ok (.ireturn, 1) := by decide +kernel
theorem dl_874 : decode code 874 = .ok (.aload_n 1, 1) := by decide +kernel
theorem dl_875 : decode code 875 = .ok (.aload_n 0, 1) := by decide +kernel
theorem dl_876 : decode code 876 = .ok (.iload 4, 2) := by decide +kernel
theorem dl_878 : decode code 878 = .ok (.iconst 1, 1) := by decide +kernel
theorem dl_879 : decode code 879 = .ok (.iadd, 1) := by decide +kernel
theorem dl_880 : decode code 880 = .ok (.iaload, 1) := by decide +kernel
theorem dl_881 : decode code 881 = .ok (.aload_n 0, 1) := by decide +kernel
theorem dl_882 : decode code 882 = .ok (.iload 4, 2) := by decide +kernel
theorem dl_884 : decode code 884 = .ok (.iconst 2, 1) := by decide +kernel
theorem dl_885 : decode code 885 = .ok (.iadd, 1) := by decide +kernel
theorem dl_886 : decode code 886 = .ok (.iaload, 1) := by decide +kernel
theorem dl_887 : decode code 887 = .ok (.aload_n 0, 1) := by decide +kernel
theorem dl_888 : decode code 888 = .ok (.iload 4, 2) := by decide +kernel
theorem dl_890 : decode code 890 = .ok (.iconst 3, 1) := by decide +kernel
theorem dl_891 : decode code 891 = .ok (.iadd, 1) := by decide +kernel
theorem dl_892 : decode code 892 = .ok (.iaload, 1) := by decide +kernel
theorem dl_893 : decode code 893 = .ok (.ifCond .eq 7, 3) := by decide +kernel
theorem dl_896 : decode code 896 = .ok (.iconst 1, 1) := by decide +kernel
theorem dl_897 : decode code 897 = .ok (.goto 4, 3) := by decide +kernel
theorem dl_900 : decode code 900 = .ok (.iconst 0, 1) := by decide +kernel
theorem dl_901 : decode code 901 = .ok (.invokevirtual 107, 3) := by decide +kernel
theorem dl_904 : decode code 904 = .ok (.aload_n 2, 1) := by decide +kernel
theorem dl_905 : decode code 905 = .ok (.aload_n 0, 1) := by decide +kernel
theorem dl_906 : decode code 906 = .ok (.iload 4, 2) := by decide +kernel
theorem dl_908 : decode code 908 = .ok (.iconst 1, 1) := by decide +kernel
theorem dl_909 : decode code 909 = .ok (.iadd, 1) := by decide +kernel
theorem dl_910 : decode code 910 = .ok (.iaload, 1) := by decide +kernel
theorem dl_911 : decode code 911 = .ok (.aload_n 0, 1) := by decide +kernel
theorem dl_912 : decode code 912 = .ok (.iload 4, 2) := by decide +kernel
theorem dl_914 : decode code 914 = .ok (.iconst 2, 1) := by decide +kernel
theorem dl_915 : decode code 915 = .ok (.iadd, 1) := by decide +kernel
theorem dl_916 : decode code 916 = .ok (.iaload, 1) := by decide +kernel
theorem dl_917 : decode code 917 = .ok (.aload_n 0, 1) := by decide +kernel
theorem dl_918 : decode code 918 = .ok (.iload 4, 2) := by decide +kernel
theorem dl_920 : decode code 920 = .ok (.iconst 3, 1) := by decide +kernel
theorem dl_921 : decode code 921 = .ok (.iadd, 1) := by decide +kernel
theorem dl_922 : decode code 922 = .ok (.iaload, 1) := by decide +kernel
theorem dl_923 : decode code 923 = .ok (.ifCond .eq 7, 3) := by decide +kernel
theorem dl_926 : decode code 926 = .ok (.iconst 1, 1) := by decide +kernel
theorem dl_927 : decode code 927 = .ok (.goto 4, 3) := by decide +kernel
theorem dl_930 : decode code 930 = .ok (.iconst 0, 1) := by decide +kernel
theorem dl_931 : decode code 931 = .ok (.invokevirtual 110, 3) := by decide +kernel
theorem dl_934 : decode code 934 = .ok (.if_icmp .eq 55, 3) := by decide +kernel
theorem dl_937 : decode code 937 = .ok (.iconst 0, 1) := by decide +kernel
theorem dl_938 : decode code 938 = .ok (.ireturn, 1) := by decide +kernel
theorem dl_939 : decode code 939 = .ok (.aload_n 1, 1) := by decide +kernel
theorem dl_940 : decode code 940 = .ok (.aload_n 0, 1) := by decide +kernel
theorem dl_941 : decode code 941 = .ok (.iload 4, 2) := by decide +kernel
theorem dl_943 : decode code 943 = .ok (.iconst 1, 1) := by decide +kernel
theorem dl_944 : decode code 944 = .ok (.iadd, 1) := by decide +kernel
theorem dl_945 : decode code 945 = .ok (.iaload, 1) := by decide +kernel
theorem dl_946 : decode code 946 = .ok (.invokevirtual 111, 3) := by decide +kernel
theorem dl_949 : decode code 949 = .ok (.aload_n 2, 1) := by decide +kernel
theorem dl_950 : decode code 950 = .ok (.aload_n 0, 1) := by decide +kernel
theorem dl_951 : decode code 951 = .ok (.iload 4, 2) := by decide +kernel
theorem dl_953 : decode code 953 = .ok (.iconst 1, 1) := by decide +kernel
theorem dl_954 : decode code 954 = .ok (.iadd, 1) := by decide +kernel
theorem dl_955 : decode code 955 = .ok (.iaload, 1) := by decide +kernel
theorem dl_956 : decode code 956 = .ok (.invokevirtual 114, 3) := by decide +kernel
theorem dl_959 : decode code 959 = .ok (.if_icmp .eq 30, 3) := by decide +kernel
theorem dl_962 : decode code 962 = .ok (.iconst 0, 1) := by decide +kernel
theorem dl_963 : decode code 963 = .ok (.ireturn, 1) := by decide +kernel
theorem dl_964 : decode code 964 = .ok (.aload_n 1, 1) := by decide +kernel
theorem dl_965 : decode code 965 = .ok (.aload_n 0, 1) := by decide +kernel
theorem dl_966 : decode code 966 = .ok (.iload 4, 2) := by decide +kernel
theorem dl_968 : decode code 968 = .ok (.iconst 1, 1) := by decide +kernel
theorem dl_969 : decode code 969 = .ok (.iadd, 1) := by decide +kernel
theorem dl_970 : decode code 970 = .ok (.iaload, 1) := by decide +kernel
theorem dl_971 : decode code 971 = .ok (.invokevirtual 115, 3) := by decide +kernel
theorem dl_974 : decode code 974 = .ok (.aload_n 2, 1) := by decide +kernel
theorem dl_975 : decode code 975 = .ok (.aload_n 0, 1) := by decide +kernel
theorem dl_976 : decode code 976 = .ok (.iload 4, 2) := by decide +kernel
theorem dl_978 : decode code 978 = .ok (.iconst 1, 1) := by decide +kernel
theorem dl_979 : decode code 979 = .ok (.iadd, 1) := by decide +kernel
theorem dl_980 : decode code 980 = .ok (.iaload, 1) := by decide +kernel
theorem dl_981 : decode code 981 = .ok (.invokevirtual 118, 3) := by decide +kernel
theorem dl_984 : decode code 984 = .ok (.if_icmp .eq 5, 3) := by decide +kernel
theorem dl_987 : decode code 987 = .ok (.iconst 0, 1) := by decide +kernel
theorem dl_988 : decode code 988 = .ok (.ireturn, 1) := by decide +kernel
theorem dl_989 : decode code 989 = .ok (.iinc 4 5, 3) := by decide +kernel
theorem dl_992 : decode code 992 = .ok (.goto (-969), 3) := by decide +kernel
theorem dl_995 : decode code 995 = .ok (.iconst 1, 1) := by decide +kernel
theorem dl_996 : decode code 996 = .ok (.ireturn, 1) := by decide +kernel
