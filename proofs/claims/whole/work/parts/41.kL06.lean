theorem d_L_law_821 : decode (qB q_L_law) 821 = .ok (.aload_n 0, 1) := by decide +kernel
theorem d_L_law_822 : decode (qB q_L_law) 822 = .ok (.iload_n 3, 1) := by decide +kernel
theorem d_L_law_823 : decode (qB q_L_law) 823 = .ok (.iconst 3, 1) := by decide +kernel
theorem d_L_law_824 : decode (qB q_L_law) 824 = .ok (.iadd, 1) := by decide +kernel
theorem d_L_law_825 : decode (qB q_L_law) 825 = .ok (.iaload, 1) := by decide +kernel
theorem d_L_law_826 : decode (qB q_L_law) 826 = .ok (.aload_n 0, 1) := by decide +kernel
theorem d_L_law_827 : decode (qB q_L_law) 827 = .ok (.iload_n 3, 1) := by decide +kernel
theorem d_L_law_828 : decode (qB q_L_law) 828 = .ok (.iconst 4, 1) := by decide +kernel
theorem d_L_law_829 : decode (qB q_L_law) 829 = .ok (.iadd, 1) := by decide +kernel
theorem d_L_law_830 : decode (qB q_L_law) 830 = .ok (.iaload, 1) := by decide +kernel
theorem d_L_law_831 : decode (qB q_L_law) 831 = .ok (.i2l, 1) := by decide +kernel
theorem d_L_law_832 : decode (qB q_L_law) 832 = .ok (.bipush 32, 2) := by decide +kernel
theorem d_L_law_834 : decode (qB q_L_law) 834 = .ok (.lshl, 1) := by decide +kernel
theorem d_L_law_835 : decode (qB q_L_law) 835 = .ok (.aload_n 0, 1) := by decide +kernel
theorem d_L_law_836 : decode (qB q_L_law) 836 = .ok (.iload_n 3, 1) := by decide +kernel
theorem d_L_law_837 : decode (qB q_L_law) 837 = .ok (.iconst 5, 1) := by decide +kernel
theorem d_L_law_838 : decode (qB q_L_law) 838 = .ok (.iadd, 1) := by decide +kernel
theorem d_L_law_839 : decode (qB q_L_law) 839 = .ok (.iaload, 1) := by decide +kernel
theorem d_L_law_840 : decode (qB q_L_law) 840 = .ok (.i2l, 1) := by decide +kernel
theorem d_L_law_841 : decode (qB q_L_law) 841 = .ok (.ldc2_w 35, 3) := by decide +kernel
theorem d_L_law_844 : decode (qB q_L_law) 844 = .ok (.land, 1) := by decide +kernel
theorem d_L_law_845 : decode (qB q_L_law) 845 = .ok (.lor, 1) := by decide +kernel
theorem d_L_law_846 : decode (qB q_L_law) 846 = .ok (.invokevirtual 85, 3) := by decide +kernel
theorem d_L_law_849 : decode (qB q_L_law) 849 = .ok (.if_icmp .eq 151, 3) := by decide +kernel
theorem d_L_law_852 : decode (qB q_L_law) 852 = .ok (.iconst 0, 1) := by decide +kernel
theorem d_L_law_853 : decode (qB q_L_law) 853 = .ok (.ireturn, 1) := by decide +kernel
theorem d_L_law_854 : decode (qB q_L_law) 854 = .ok (.aload_n 1, 1) := by decide +kernel
theorem d_L_law_855 : decode (qB q_L_law) 855 = .ok (.aload_n 0, 1) := by decide +kernel
theorem d_L_law_856 : decode (qB q_L_law) 856 = .ok (.iload_n 3, 1) := by decide +kernel
theorem d_L_law_857 : decode (qB q_L_law) 857 = .ok (.iconst 1, 1) := by decide +kernel
theorem d_L_law_858 : decode (qB q_L_law) 858 = .ok (.iadd, 1) := by decide +kernel
theorem d_L_law_859 : decode (qB q_L_law) 859 = .ok (.iaload, 1) := by decide +kernel
theorem d_L_law_860 : decode (qB q_L_law) 860 = .ok (.aload_n 0, 1) := by decide +kernel
theorem d_L_law_861 : decode (qB q_L_law) 861 = .ok (.iload_n 3, 1) := by decide +kernel
theorem d_L_law_862 : decode (qB q_L_law) 862 = .ok (.iconst 2, 1) := by decide +kernel
theorem d_L_law_863 : decode (qB q_L_law) 863 = .ok (.iadd, 1) := by decide +kernel
theorem d_L_law_864 : decode (qB q_L_law) 864 = .ok (.iaload, 1) := by decide +kernel
theorem d_L_law_865 : decode (qB q_L_law) 865 = .ok (.aload_n 0, 1) := by decide +kernel
theorem d_L_law_866 : decode (qB q_L_law) 866 = .ok (.iload_n 3, 1) := by decide +kernel
theorem d_L_law_867 : decode (qB q_L_law) 867 = .ok (.iconst 3, 1) := by decide +kernel
theorem d_L_law_868 : decode (qB q_L_law) 868 = .ok (.iadd, 1) := by decide +kernel
theorem d_L_law_869 : decode (qB q_L_law) 869 = .ok (.iaload, 1) := by decide +kernel
theorem d_L_law_870 : decode (qB q_L_law) 870 = .ok (.aload_n 0, 1) := by decide +kernel
theorem d_L_law_871 : decode (qB q_L_law) 871 = .ok (.iload_n 3, 1) := by decide +kernel
theorem d_L_law_872 : decode (qB q_L_law) 872 = .ok (.iconst 4, 1) := by decide +kernel
theorem d_L_law_873 : decode (qB q_L_law) 873 = .ok (.iadd, 1) := by decide +kernel
theorem d_L_law_874 : decode (qB q_L_law) 874 = .ok (.iaload, 1) := by decide +kernel
theorem d_L_law_875 : decode (qB q_L_law) 875 = .ok (.invokevirtual 86, 3) := by decide +kernel
theorem d_L_law_878 : decode (qB q_L_law) 878 = .ok (.aload_n 2, 1) := by decide +kernel
theorem d_L_law_879 : decode (qB q_L_law) 879 = .ok (.aload_n 0, 1) := by decide +kernel
theorem d_L_law_880 : decode (qB q_L_law) 880 = .ok (.iload_n 3, 1) := by decide +kernel
theorem d_L_law_881 : decode (qB q_L_law) 881 = .ok (.iconst 1, 1) := by decide +kernel
theorem d_L_law_882 : decode (qB q_L_law) 882 = .ok (.iadd, 1) := by decide +kernel
theorem d_L_law_883 : decode (qB q_L_law) 883 = .ok (.iaload, 1) := by decide +kernel
theorem d_L_law_884 : decode (qB q_L_law) 884 = .ok (.aload_n 0, 1) := by decide +kernel
theorem d_L_law_885 : decode (qB q_L_law) 885 = .ok (.iload_n 3, 1) := by decide +kernel
theorem d_L_law_886 : decode (qB q_L_law) 886 = .ok (.iconst 2, 1) := by decide +kernel
theorem d_L_law_887 : decode (qB q_L_law) 887 = .ok (.iadd, 1) := by decide +kernel
theorem d_L_law_888 : decode (qB q_L_law) 888 = .ok (.iaload, 1) := by decide +kernel
theorem d_L_law_889 : decode (qB q_L_law) 889 = .ok (.aload_n 0, 1) := by decide +kernel
theorem d_L_law_890 : decode (qB q_L_law) 890 = .ok (.iload_n 3, 1) := by decide +kernel
theorem d_L_law_891 : decode (qB q_L_law) 891 = .ok (.iconst 3, 1) := by decide +kernel
theorem d_L_law_892 : decode (qB q_L_law) 892 = .ok (.iadd, 1) := by decide +kernel
theorem d_L_law_893 : decode (qB q_L_law) 893 = .ok (.iaload, 1) := by decide +kernel
theorem d_L_law_894 : decode (qB q_L_law) 894 = .ok (.aload_n 0, 1) := by decide +kernel
theorem d_L_law_895 : decode (qB q_L_law) 895 = .ok (.iload_n 3, 1) := by decide +kernel
theorem d_L_law_896 : decode (qB q_L_law) 896 = .ok (.iconst 4, 1) := by decide +kernel
theorem d_L_law_897 : decode (qB q_L_law) 897 = .ok (.iadd, 1) := by decide +kernel
theorem d_L_law_898 : decode (qB q_L_law) 898 = .ok (.iaload, 1) := by decide +kernel
theorem d_L_law_899 : decode (qB q_L_law) 899 = .ok (.invokevirtual 90, 3) := by decide +kernel
theorem d_L_law_902 : decode (qB q_L_law) 902 = .ok (.if_icmp .eq 98, 3) := by decide +kernel
theorem d_L_law_905 : decode (qB q_L_law) 905 = .ok (.iconst 0, 1) := by decide +kernel
theorem d_L_law_906 : decode (qB q_L_law) 906 = .ok (.ireturn, 1) := by decide +kernel
theorem d_L_law_907 : decode (qB q_L_law) 907 = .ok (.aload_n 1, 1) := by decide +kernel
theorem d_L_law_908 : decode (qB q_L_law) 908 = .ok (.aload_n 0, 1) := by decide +kernel
theorem d_L_law_909 : decode (qB q_L_law) 909 = .ok (.iload_n 3, 1) := by decide +kernel
theorem d_L_law_910 : decode (qB q_L_law) 910 = .ok (.iconst 1, 1) := by decide +kernel
theorem d_L_law_911 : decode (qB q_L_law) 911 = .ok (.iadd, 1) := by decide +kernel
theorem d_L_law_912 : decode (qB q_L_law) 912 = .ok (.iaload, 1) := by decide +kernel
theorem d_L_law_913 : decode (qB q_L_law) 913 = .ok (.aload_n 0, 1) := by decide +kernel
theorem d_L_law_914 : decode (qB q_L_law) 914 = .ok (.iload_n 3, 1) := by decide +kernel
theorem d_L_law_915 : decode (qB q_L_law) 915 = .ok (.iconst 2, 1) := by decide +kernel
theorem d_L_law_916 : decode (qB q_L_law) 916 = .ok (.iadd, 1) := by decide +kernel
theorem d_L_law_917 : decode (qB q_L_law) 917 = .ok (.iaload, 1) := by decide +kernel
theorem d_L_law_918 : decode (qB q_L_law) 918 = .ok (.aload_n 0, 1) := by decide +kernel
theorem d_L_law_919 : decode (qB q_L_law) 919 = .ok (.iload_n 3, 1) := by decide +kernel
theorem d_L_law_920 : decode (qB q_L_law) 920 = .ok (.iconst 3, 1) := by decide +kernel
theorem d_L_law_921 : decode (qB q_L_law) 921 = .ok (.iadd, 1) := by decide +kernel
theorem d_L_law_922 : decode (qB q_L_law) 922 = .ok (.iaload, 1) := by decide +kernel
theorem d_L_law_923 : decode (qB q_L_law) 923 = .ok (.invokevirtual 91, 3) := by decide +kernel
theorem d_L_law_926 : decode (qB q_L_law) 926 = .ok (.aload_n 2, 1) := by decide +kernel
theorem d_L_law_927 : decode (qB q_L_law) 927 = .ok (.aload_n 0, 1) := by decide +kernel
theorem d_L_law_928 : decode (qB q_L_law) 928 = .ok (.iload_n 3, 1) := by decide +kernel
theorem d_L_law_929 : decode (qB q_L_law) 929 = .ok (.iconst 1, 1) := by decide +kernel
theorem d_L_law_930 : decode (qB q_L_law) 930 = .ok (.iadd, 1) := by decide +kernel
theorem d_L_law_931 : decode (qB q_L_law) 931 = .ok (.iaload, 1) := by decide +kernel
theorem d_L_law_932 : decode (qB q_L_law) 932 = .ok (.aload_n 0, 1) := by decide +kernel
theorem d_L_law_933 : decode (qB q_L_law) 933 = .ok (.iload_n 3, 1) := by decide +kernel
theorem d_L_law_934 : decode (qB q_L_law) 934 = .ok (.iconst 2, 1) := by decide +kernel
theorem d_L_law_935 : decode (qB q_L_law) 935 = .ok (.iadd, 1) := by decide +kernel
