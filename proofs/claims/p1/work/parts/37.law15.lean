set_option maxRecDepth 20000 in
theorem dL_law_714 : decode cL_law 714 = .ok (.aload_n 1, 1) := by decide +kernel
set_option maxRecDepth 20000 in
theorem dL_law_715 : decode cL_law 715 = .ok (.aload_n 0, 1) := by decide +kernel
set_option maxRecDepth 20000 in
theorem dL_law_716 : decode cL_law 716 = .ok (.iload 4, 2) := by decide +kernel
set_option maxRecDepth 20000 in
theorem dL_law_718 : decode cL_law 718 = .ok (.iconst 1, 1) := by decide +kernel
set_option maxRecDepth 20000 in
theorem dL_law_719 : decode cL_law 719 = .ok (.iadd, 1) := by decide +kernel
set_option maxRecDepth 20000 in
theorem dL_law_720 : decode cL_law 720 = .ok (.iaload, 1) := by decide +kernel
set_option maxRecDepth 20000 in
theorem dL_law_721 : decode cL_law 721 = .ok (.aload_n 0, 1) := by decide +kernel
set_option maxRecDepth 20000 in
theorem dL_law_722 : decode cL_law 722 = .ok (.iload 4, 2) := by decide +kernel
set_option maxRecDepth 20000 in
theorem dL_law_724 : decode cL_law 724 = .ok (.iconst 2, 1) := by decide +kernel
set_option maxRecDepth 20000 in
theorem dL_law_725 : decode cL_law 725 = .ok (.iadd, 1) := by decide +kernel
set_option maxRecDepth 20000 in
theorem dL_law_726 : decode cL_law 726 = .ok (.iaload, 1) := by decide +kernel
set_option maxRecDepth 20000 in
theorem dL_law_727 : decode cL_law 727 = .ok (.i2l, 1) := by decide +kernel
set_option maxRecDepth 20000 in
theorem dL_law_728 : decode cL_law 728 = .ok (.bipush 32, 2) := by decide +kernel
set_option maxRecDepth 20000 in
theorem dL_law_730 : decode cL_law 730 = .ok (.lshl, 1) := by decide +kernel
set_option maxRecDepth 20000 in
theorem dL_law_731 : decode cL_law 731 = .ok (.aload_n 0, 1) := by decide +kernel
set_option maxRecDepth 20000 in
theorem dL_law_732 : decode cL_law 732 = .ok (.iload 4, 2) := by decide +kernel
set_option maxRecDepth 20000 in
theorem dL_law_734 : decode cL_law 734 = .ok (.iconst 3, 1) := by decide +kernel
set_option maxRecDepth 20000 in
theorem dL_law_735 : decode cL_law 735 = .ok (.iadd, 1) := by decide +kernel
set_option maxRecDepth 20000 in
theorem dL_law_736 : decode cL_law 736 = .ok (.iaload, 1) := by decide +kernel
set_option maxRecDepth 20000 in
theorem dL_law_737 : decode cL_law 737 = .ok (.i2l, 1) := by decide +kernel
set_option maxRecDepth 20000 in
theorem dL_law_738 : decode cL_law 738 = .ok (.ldc2_w 88, 3) := by decide +kernel
set_option maxRecDepth 20000 in
theorem dL_law_741 : decode cL_law 741 = .ok (.land, 1) := by decide +kernel
set_option maxRecDepth 20000 in
theorem dL_law_742 : decode cL_law 742 = .ok (.lor, 1) := by decide +kernel
set_option maxRecDepth 20000 in
theorem dL_law_743 : decode cL_law 743 = .ok (.invokevirtual 90, 3) := by decide +kernel
set_option maxRecDepth 20000 in
theorem dL_law_746 : decode cL_law 746 = .ok (.aload_n 2, 1) := by decide +kernel
set_option maxRecDepth 20000 in
theorem dL_law_747 : decode cL_law 747 = .ok (.aload_n 0, 1) := by decide +kernel
set_option maxRecDepth 20000 in
theorem dL_law_748 : decode cL_law 748 = .ok (.iload 4, 2) := by decide +kernel
set_option maxRecDepth 20000 in
theorem dL_law_750 : decode cL_law 750 = .ok (.iconst 1, 1) := by decide +kernel
set_option maxRecDepth 20000 in
theorem dL_law_751 : decode cL_law 751 = .ok (.iadd, 1) := by decide +kernel
set_option maxRecDepth 20000 in
theorem dL_law_752 : decode cL_law 752 = .ok (.iaload, 1) := by decide +kernel
set_option maxRecDepth 20000 in
theorem dL_law_753 : decode cL_law 753 = .ok (.aload_n 0, 1) := by decide +kernel
set_option maxRecDepth 20000 in
theorem dL_law_754 : decode cL_law 754 = .ok (.iload 4, 2) := by decide +kernel
set_option maxRecDepth 20000 in
theorem dL_law_756 : decode cL_law 756 = .ok (.iconst 2, 1) := by decide +kernel
set_option maxRecDepth 20000 in
theorem dL_law_757 : decode cL_law 757 = .ok (.iadd, 1) := by decide +kernel
set_option maxRecDepth 20000 in
theorem dL_law_758 : decode cL_law 758 = .ok (.iaload, 1) := by decide +kernel
set_option maxRecDepth 20000 in
theorem dL_law_759 : decode cL_law 759 = .ok (.i2l, 1) := by decide +kernel
set_option maxRecDepth 20000 in
theorem dL_law_760 : decode cL_law 760 = .ok (.bipush 32, 2) := by decide +kernel
set_option maxRecDepth 20000 in
theorem dL_law_762 : decode cL_law 762 = .ok (.lshl, 1) := by decide +kernel
set_option maxRecDepth 20000 in
theorem dL_law_763 : decode cL_law 763 = .ok (.aload_n 0, 1) := by decide +kernel
set_option maxRecDepth 20000 in
theorem dL_law_764 : decode cL_law 764 = .ok (.iload 4, 2) := by decide +kernel
set_option maxRecDepth 20000 in
theorem dL_law_766 : decode cL_law 766 = .ok (.iconst 3, 1) := by decide +kernel
set_option maxRecDepth 20000 in
theorem dL_law_767 : decode cL_law 767 = .ok (.iadd, 1) := by decide +kernel
set_option maxRecDepth 20000 in
theorem dL_law_768 : decode cL_law 768 = .ok (.iaload, 1) := by decide +kernel
set_option maxRecDepth 20000 in
theorem dL_law_769 : decode cL_law 769 = .ok (.i2l, 1) := by decide +kernel
set_option maxRecDepth 20000 in
theorem dL_law_770 : decode cL_law 770 = .ok (.ldc2_w 88, 3) := by decide +kernel
set_option maxRecDepth 20000 in
theorem dL_law_773 : decode cL_law 773 = .ok (.land, 1) := by decide +kernel
set_option maxRecDepth 20000 in
theorem dL_law_774 : decode cL_law 774 = .ok (.lor, 1) := by decide +kernel
set_option maxRecDepth 20000 in
theorem dL_law_775 : decode cL_law 775 = .ok (.invokevirtual 94, 3) := by decide +kernel
set_option maxRecDepth 20000 in
theorem dL_law_778 : decode cL_law 778 = .ok (.if_icmp .eq 851, 3) := by decide +kernel
set_option maxRecDepth 20000 in
theorem dL_law_783 : decode cL_law 783 = .ok (.aload_n 1, 1) := by decide +kernel
set_option maxRecDepth 20000 in
theorem dL_law_784 : decode cL_law 784 = .ok (.invokevirtual 95, 3) := by decide +kernel
set_option maxRecDepth 20000 in
theorem dL_law_787 : decode cL_law 787 = .ok (.aload_n 2, 1) := by decide +kernel
set_option maxRecDepth 20000 in
theorem dL_law_788 : decode cL_law 788 = .ok (.invokevirtual 98, 3) := by decide +kernel
set_option maxRecDepth 20000 in
theorem dL_law_791 : decode cL_law 791 = .ok (.if_icmp .eq 838, 3) := by decide +kernel
set_option maxRecDepth 20000 in
theorem dL_law_796 : decode cL_law 796 = .ok (.aload_n 1, 1) := by decide +kernel
set_option maxRecDepth 20000 in
theorem dL_law_797 : decode cL_law 797 = .ok (.aload_n 0, 1) := by decide +kernel
set_option maxRecDepth 20000 in
theorem dL_law_798 : decode cL_law 798 = .ok (.iload 4, 2) := by decide +kernel
set_option maxRecDepth 20000 in
theorem dL_law_800 : decode cL_law 800 = .ok (.iconst 1, 1) := by decide +kernel
set_option maxRecDepth 20000 in
theorem dL_law_801 : decode cL_law 801 = .ok (.iadd, 1) := by decide +kernel
set_option maxRecDepth 20000 in
theorem dL_law_802 : decode cL_law 802 = .ok (.iaload, 1) := by decide +kernel
set_option maxRecDepth 20000 in
theorem dL_law_803 : decode cL_law 803 = .ok (.aload_n 0, 1) := by decide +kernel
set_option maxRecDepth 20000 in
theorem dL_law_804 : decode cL_law 804 = .ok (.iload 4, 2) := by decide +kernel
set_option maxRecDepth 20000 in
theorem dL_law_806 : decode cL_law 806 = .ok (.iconst 2, 1) := by decide +kernel
set_option maxRecDepth 20000 in
theorem dL_law_807 : decode cL_law 807 = .ok (.iadd, 1) := by decide +kernel
set_option maxRecDepth 20000 in
theorem dL_law_808 : decode cL_law 808 = .ok (.iaload, 1) := by decide +kernel
set_option maxRecDepth 20000 in
theorem dL_law_809 : decode cL_law 809 = .ok (.invokevirtual 99, 3) := by decide +kernel
set_option maxRecDepth 20000 in
theorem dL_law_812 : decode cL_law 812 = .ok (.aload_n 2, 1) := by decide +kernel
set_option maxRecDepth 20000 in
theorem dL_law_813 : decode cL_law 813 = .ok (.aload_n 0, 1) := by decide +kernel
set_option maxRecDepth 20000 in
theorem dL_law_814 : decode cL_law 814 = .ok (.iload 4, 2) := by decide +kernel
set_option maxRecDepth 20000 in
theorem dL_law_816 : decode cL_law 816 = .ok (.iconst 1, 1) := by decide +kernel
set_option maxRecDepth 20000 in
theorem dL_law_817 : decode cL_law 817 = .ok (.iadd, 1) := by decide +kernel
set_option maxRecDepth 20000 in
theorem dL_law_818 : decode cL_law 818 = .ok (.iaload, 1) := by decide +kernel
set_option maxRecDepth 20000 in
theorem dL_law_819 : decode cL_law 819 = .ok (.aload_n 0, 1) := by decide +kernel
set_option maxRecDepth 20000 in
theorem dL_law_820 : decode cL_law 820 = .ok (.iload 4, 2) := by decide +kernel
set_option maxRecDepth 20000 in
theorem dL_law_822 : decode cL_law 822 = .ok (.iconst 2, 1) := by decide +kernel
set_option maxRecDepth 20000 in
theorem dL_law_823 : decode cL_law 823 = .ok (.iadd, 1) := by decide +kernel
set_option maxRecDepth 20000 in
theorem dL_law_824 : decode cL_law 824 = .ok (.iaload, 1) := by decide +kernel
set_option maxRecDepth 20000 in
theorem dL_law_825 : decode cL_law 825 = .ok (.invokevirtual 102, 3) := by decide +kernel
set_option maxRecDepth 20000 in
theorem dL_law_828 : decode cL_law 828 = .ok (.if_icmp .eq 801, 3) := by decide +kernel
set_option maxRecDepth 20000 in
theorem dL_law_833 : decode cL_law 833 = .ok (.aload_n 1, 1) := by decide +kernel
set_option maxRecDepth 20000 in
theorem dL_law_834 : decode cL_law 834 = .ok (.aload_n 0, 1) := by decide +kernel
set_option maxRecDepth 20000 in
theorem dL_law_835 : decode cL_law 835 = .ok (.iload 4, 2) := by decide +kernel
set_option maxRecDepth 20000 in
theorem dL_law_837 : decode cL_law 837 = .ok (.iconst 1, 1) := by decide +kernel
set_option maxRecDepth 20000 in
theorem dL_law_838 : decode cL_law 838 = .ok (.iadd, 1) := by decide +kernel
set_option maxRecDepth 20000 in
theorem dL_law_839 : decode cL_law 839 = .ok (.iaload, 1) := by decide +kernel
set_option maxRecDepth 20000 in
theorem dL_law_840 : decode cL_law 840 = .ok (.aload_n 0, 1) := by decide +kernel
set_option maxRecDepth 20000 in
theorem dL_law_841 : decode cL_law 841 = .ok (.iload 4, 2) := by decide +kernel
set_option maxRecDepth 20000 in
theorem dL_law_843 : decode cL_law 843 = .ok (.iconst 2, 1) := by decide +kernel
set_option maxRecDepth 20000 in
theorem dL_law_844 : decode cL_law 844 = .ok (.iadd, 1) := by decide +kernel
set_option maxRecDepth 20000 in
theorem dL_law_845 : decode cL_law 845 = .ok (.iaload, 1) := by decide +kernel
set_option maxRecDepth 20000 in
theorem dL_law_846 : decode cL_law 846 = .ok (.invokevirtual 103, 3) := by decide +kernel
set_option maxRecDepth 20000 in
theorem dL_law_849 : decode cL_law 849 = .ok (.aload_n 2, 1) := by decide +kernel
set_option maxRecDepth 20000 in
theorem dL_law_850 : decode cL_law 850 = .ok (.aload_n 0, 1) := by decide +kernel
set_option maxRecDepth 20000 in
theorem dL_law_851 : decode cL_law 851 = .ok (.iload 4, 2) := by decide +kernel
set_option maxRecDepth 20000 in
theorem dL_law_853 : decode cL_law 853 = .ok (.iconst 1, 1) := by decide +kernel
set_option maxRecDepth 20000 in
theorem dL_law_854 : decode cL_law 854 = .ok (.iadd, 1) := by decide +kernel
set_option maxRecDepth 20000 in
theorem dL_law_855 : decode cL_law 855 = .ok (.iaload, 1) := by decide +kernel
set_option maxRecDepth 20000 in
theorem dL_law_856 : decode cL_law 856 = .ok (.aload_n 0, 1) := by decide +kernel
set_option maxRecDepth 20000 in
theorem dL_law_857 : decode cL_law 857 = .ok (.iload 4, 2) := by decide +kernel
set_option maxRecDepth 20000 in
theorem dL_law_859 : decode cL_law 859 = .ok (.iconst 2, 1) := by decide +kernel
set_option maxRecDepth 20000 in
theorem dL_law_860 : decode cL_law 860 = .ok (.iadd, 1) := by decide +kernel
set_option maxRecDepth 20000 in
theorem dL_law_861 : decode cL_law 861 = .ok (.iaload, 1) := by decide +kernel
set_option maxRecDepth 20000 in
theorem dL_law_862 : decode cL_law 862 = .ok (.invokevirtual 106, 3) := by decide +kernel
set_option maxRecDepth 20000 in
theorem dL_law_865 : decode cL_law 865 = .ok (.if_icmp .eq 764, 3) := by decide +kernel
set_option maxRecDepth 20000 in
theorem dL_law_870 : decode cL_law 870 = .ok (.aload_n 1, 1) := by decide +kernel
set_option maxRecDepth 20000 in
theorem dL_law_871 : decode cL_law 871 = .ok (.aload_n 0, 1) := by decide +kernel
set_option maxRecDepth 20000 in
theorem dL_law_872 : decode cL_law 872 = .ok (.iload 4, 2) := by decide +kernel
set_option maxRecDepth 20000 in
theorem dL_law_874 : decode cL_law 874 = .ok (.iconst 1, 1) := by decide +kernel
set_option maxRecDepth 20000 in
theorem dL_law_875 : decode cL_law 875 = .ok (.iadd, 1) := by decide +kernel
set_option maxRecDepth 20000 in
theorem dL_law_876 : decode cL_law 876 = .ok (.iaload, 1) := by decide +kernel
set_option maxRecDepth 20000 in
theorem dL_law_877 : decode cL_law 877 = .ok (.aload_n 0, 1) := by decide +kernel
set_option maxRecDepth 20000 in
theorem dL_law_878 : decode cL_law 878 = .ok (.iload 4, 2) := by decide +kernel
set_option maxRecDepth 20000 in
theorem dL_law_880 : decode cL_law 880 = .ok (.iconst 2, 1) := by decide +kernel
set_option maxRecDepth 20000 in
theorem dL_law_881 : decode cL_law 881 = .ok (.iadd, 1) := by decide +kernel
set_option maxRecDepth 20000 in
theorem dL_law_882 : decode cL_law 882 = .ok (.iaload, 1) := by decide +kernel
set_option maxRecDepth 20000 in
theorem dL_law_883 : decode cL_law 883 = .ok (.invokevirtual 107, 3) := by decide +kernel
set_option maxRecDepth 20000 in
theorem dL_law_886 : decode cL_law 886 = .ok (.aload_n 2, 1) := by decide +kernel
set_option maxRecDepth 20000 in
theorem dL_law_887 : decode cL_law 887 = .ok (.aload_n 0, 1) := by decide +kernel
set_option maxRecDepth 20000 in
theorem dL_law_888 : decode cL_law 888 = .ok (.iload 4, 2) := by decide +kernel
set_option maxRecDepth 20000 in
theorem dL_law_890 : decode cL_law 890 = .ok (.iconst 1, 1) := by decide +kernel
set_option maxRecDepth 20000 in
theorem dL_law_891 : decode cL_law 891 = .ok (.iadd, 1) := by decide +kernel
set_option maxRecDepth 20000 in
theorem dL_law_892 : decode cL_law 892 = .ok (.iaload, 1) := by decide +kernel
set_option maxRecDepth 20000 in
theorem dL_law_893 : decode cL_law 893 = .ok (.aload_n 0, 1) := by decide +kernel
set_option maxRecDepth 20000 in
theorem dL_law_894 : decode cL_law 894 = .ok (.iload 4, 2) := by decide +kernel
set_option maxRecDepth 20000 in
theorem dL_law_896 : decode cL_law 896 = .ok (.iconst 2, 1) := by decide +kernel
set_option maxRecDepth 20000 in
theorem dL_law_897 : decode cL_law 897 = .ok (.iadd, 1) := by decide +kernel
set_option maxRecDepth 20000 in
theorem dL_law_898 : decode cL_law 898 = .ok (.iaload, 1) := by decide +kernel
set_option maxRecDepth 20000 in
theorem dL_law_899 : decode cL_law 899 = .ok (.invokevirtual 110, 3) := by decide +kernel
set_option maxRecDepth 20000 in
theorem dL_law_902 : decode cL_law 902 = .ok (.if_icmp .eq 727, 3) := by decide +kernel
set_option maxRecDepth 20000 in
theorem dL_law_907 : decode cL_law 907 = .ok (.aload_n 1, 1) := by decide +kernel
set_option maxRecDepth 20000 in
theorem dL_law_908 : decode cL_law 908 = .ok (.aload_n 0, 1) := by decide +kernel
set_option maxRecDepth 20000 in
theorem dL_law_909 : decode cL_law 909 = .ok (.iload 4, 2) := by decide +kernel
set_option maxRecDepth 20000 in
theorem dL_law_911 : decode cL_law 911 = .ok (.iconst 1, 1) := by decide +kernel
set_option maxRecDepth 20000 in
theorem dL_law_912 : decode cL_law 912 = .ok (.iadd, 1) := by decide +kernel
set_option maxRecDepth 20000 in
theorem dL_law_913 : decode cL_law 913 = .ok (.iaload, 1) := by decide +kernel
set_option maxRecDepth 20000 in
theorem dL_law_914 : decode cL_law 914 = .ok (.aload_n 0, 1) := by decide +kernel
set_option maxRecDepth 20000 in
theorem dL_law_915 : decode cL_law 915 = .ok (.iload 4, 2) := by decide +kernel
set_option maxRecDepth 20000 in
theorem dL_law_917 : decode cL_law 917 = .ok (.iconst 2, 1) := by decide +kernel
set_option maxRecDepth 20000 in
theorem dL_law_918 : decode cL_law 918 = .ok (.iadd, 1) := by decide +kernel
set_option maxRecDepth 20000 in
theorem dL_law_919 : decode cL_law 919 = .ok (.iaload, 1) := by decide +kernel
set_option maxRecDepth 20000 in
theorem dL_law_920 : decode cL_law 920 = .ok (.invokevirtual 111, 3) := by decide +kernel
set_option maxRecDepth 20000 in
theorem dL_law_923 : decode cL_law 923 = .ok (.aload_n 2, 1) := by decide +kernel
set_option maxRecDepth 20000 in
theorem dL_law_924 : decode cL_law 924 = .ok (.aload_n 0, 1) := by decide +kernel
set_option maxRecDepth 20000 in
theorem dL_law_925 : decode cL_law 925 = .ok (.iload 4, 2) := by decide +kernel
set_option maxRecDepth 20000 in
theorem dL_law_927 : decode cL_law 927 = .ok (.iconst 1, 1) := by decide +kernel
set_option maxRecDepth 20000 in
theorem dL_law_928 : decode cL_law 928 = .ok (.iadd, 1) := by decide +kernel
set_option maxRecDepth 20000 in
theorem dL_law_929 : decode cL_law 929 = .ok (.iaload, 1) := by decide +kernel
set_option maxRecDepth 20000 in
theorem dL_law_930 : decode cL_law 930 = .ok (.aload_n 0, 1) := by decide +kernel
set_option maxRecDepth 20000 in
theorem dL_law_931 : decode cL_law 931 = .ok (.iload 4, 2) := by decide +kernel
set_option maxRecDepth 20000 in
theorem dL_law_933 : decode cL_law 933 = .ok (.iconst 2, 1) := by decide +kernel
set_option maxRecDepth 20000 in
theorem dL_law_934 : decode cL_law 934 = .ok (.iadd, 1) := by decide +kernel
set_option maxRecDepth 20000 in
theorem dL_law_935 : decode cL_law 935 = .ok (.iaload, 1) := by decide +kernel
set_option maxRecDepth 20000 in
theorem dL_law_936 : decode cL_law 936 = .ok (.invokevirtual 114, 3) := by decide +kernel
set_option maxRecDepth 20000 in
theorem dL_law_939 : decode cL_law 939 = .ok (.if_icmp .eq 690, 3) := by decide +kernel
set_option maxRecDepth 20000 in
theorem dL_law_944 : decode cL_law 944 = .ok (.aload_n 1, 1) := by decide +kernel
set_option maxRecDepth 20000 in
theorem dL_law_945 : decode cL_law 945 = .ok (.aload_n 0, 1) := by decide +kernel
set_option maxRecDepth 20000 in
theorem dL_law_946 : decode cL_law 946 = .ok (.iload 4, 2) := by decide +kernel
set_option maxRecDepth 20000 in
theorem dL_law_948 : decode cL_law 948 = .ok (.iconst 1, 1) := by decide +kernel
set_option maxRecDepth 20000 in
theorem dL_law_949 : decode cL_law 949 = .ok (.iadd, 1) := by decide +kernel
set_option maxRecDepth 20000 in
theorem dL_law_950 : decode cL_law 950 = .ok (.iaload, 1) := by decide +kernel
set_option maxRecDepth 20000 in
theorem dL_law_951 : decode cL_law 951 = .ok (.aload_n 0, 1) := by decide +kernel
set_option maxRecDepth 20000 in
theorem dL_law_952 : decode cL_law 952 = .ok (.iload 4, 2) := by decide +kernel
set_option maxRecDepth 20000 in
theorem dL_law_954 : decode cL_law 954 = .ok (.iconst 2, 1) := by decide +kernel
set_option maxRecDepth 20000 in
theorem dL_law_955 : decode cL_law 955 = .ok (.iadd, 1) := by decide +kernel
set_option maxRecDepth 20000 in
theorem dL_law_956 : decode cL_law 956 = .ok (.iaload, 1) := by decide +kernel
set_option maxRecDepth 20000 in
theorem dL_law_957 : decode cL_law 957 = .ok (.invokevirtual 115, 3) := by decide +kernel
set_option maxRecDepth 20000 in
theorem dL_law_960 : decode cL_law 960 = .ok (.aload_n 2, 1) := by decide +kernel
set_option maxRecDepth 20000 in
theorem dL_law_961 : decode cL_law 961 = .ok (.aload_n 0, 1) := by decide +kernel
set_option maxRecDepth 20000 in
theorem dL_law_962 : decode cL_law 962 = .ok (.iload 4, 2) := by decide +kernel
set_option maxRecDepth 20000 in
theorem dL_law_964 : decode cL_law 964 = .ok (.iconst 1, 1) := by decide +kernel
set_option maxRecDepth 20000 in
theorem dL_law_965 : decode cL_law 965 = .ok (.iadd, 1) := by decide +kernel
set_option maxRecDepth 20000 in
theorem dL_law_966 : decode cL_law 966 = .ok (.iaload, 1) := by decide +kernel
set_option maxRecDepth 20000 in
theorem dL_law_967 : decode cL_law 967 = .ok (.aload_n 0, 1) := by decide +kernel
set_option maxRecDepth 20000 in
theorem dL_law_968 : decode cL_law 968 = .ok (.iload 4, 2) := by decide +kernel
set_option maxRecDepth 20000 in
theorem dL_law_970 : decode cL_law 970 = .ok (.iconst 2, 1) := by decide +kernel
set_option maxRecDepth 20000 in
theorem dL_law_971 : decode cL_law 971 = .ok (.iadd, 1) := by decide +kernel
set_option maxRecDepth 20000 in
theorem dL_law_972 : decode cL_law 972 = .ok (.iaload, 1) := by decide +kernel
set_option maxRecDepth 20000 in
theorem dL_law_973 : decode cL_law 973 = .ok (.invokevirtual 118, 3) := by decide +kernel
set_option maxRecDepth 20000 in
theorem dL_law_976 : decode cL_law 976 = .ok (.if_icmp .eq 653, 3) := by decide +kernel
set_option maxHeartbeats 4000000 in
set_option maxRecDepth 100000 in
theorem lc_15 {p : Program} {l : Launch} {e : Env} {s : State} {m : MethodId} {below : List Frame} {meth : Method} {c : Code} {b : Nat} {xs : Nat → Int32} {H : Heap} {locs : List Loc} {ls : Array Slot} {dC : Nat → ClassId} {dI : Nat → Nat → Nat} {sk sv : Nat → Nat} {s2 tz s3 : Nat} (q r : Nat → Nat) (kB : ClassId) (kR : ClassId) (kT : ClassId) (kU : ClassId) (kL : ClassId) (kN : ClassId) (fB fT : Nat → Int32) (qo : Nat) (hlt : l.stackTraces = false) (C0 : lw_At p s m meth c b 6 xs) (hG : gxP s) (hE : exP sk sv s2 tz (fun q : Nat => s.heap.size ≤ q) s s.heap) (hT : tP s3 (fun q : Nat => s.heap.size ≤ q) s s.heap) (hK : va_K (dC, dI) vwCl [(kB, .int), (kR, .int), (kT, .byte), (kU, .int), (kL, .int), (kN, .int)] s) (hP : va_P (dC, dI) vwCl (fwL q r kB kR kT kU kL kN fB fT) H) (hD : va_D (fun q : Nat => s.heap.size ≤ q) (fwL q r kB kR kT kU kL kN fB fT)) (hS : va_S (fun q : Nat => s.heap.size ≤ q) s.heap H locs) (hl : lv_has ls 7 [(0, .ref b), (1, .ref (q 15)), (2, .ref (r 100)), (3, .ref qo), (4, .int 0)]) : W p l e room_1 s m #[Value.ref b] below meth c H locs 335 33214 (lw_Z below #[Value.ref b] s) (F0 m 714 ls []) := by
  obtain ⟨hx, hb, hr, hml, hown0, hts, hX, hbl, hlocks, hgv⟩ := id C0
  have hown : s.vm.findClass RL = some m.cls := hown0
  have hA : ∀ q : Nat, s.heap.size ≤ q → (fun q : Nat => s.heap.size ≤ q) q := fun _ h => h
  have hbA : ¬ (fun q : Nat => s.heap.size ≤ q) b := Nat.not_le.mpr hbl
  have hiX11 : ∀ w ∈ u_ws RX11 TX11 17, w ∈ lw_tbl := in_X11
  have hiX12 : ∀ w ∈ u_ws RX12 TX12 54, w ∈ lw_tbl := in_X12
  refine lv_aload_n hx hb dL_law_714 rfl (lv_at hl 1 rfl) ?_
  refine lv_aload_n hx hb dL_law_715 rfl (lv_at hl 0 rfl) ?_
  refine lv_iload hx hb dL_law_716 (lv_at hl 4 rfl) ?_
  refine lv_iconst (v := 1) hx hb dL_law_718 (by decide) ?_
  refine lv_iadd hx hb dL_law_719 ?_
  refine lv_topi (fun v_1 e_1 => ?_)
  obtain rfl : v_1 = 1 := by rw [e_1]; decide
  refine va_sld hx hb hX hbl hbA hS (i := 1) (vp_in_nI (n := 1) (by decide) (by decide)) dL_law_720 ?_
  refine lv_topi (fun v_2 e_2 => ?_)
  obtain rfl : v_2 = xs 1 := by rw [e_2]; exact congrArg xs (by decide)
  refine lv_aload_n hx hb dL_law_721 rfl (lv_at hl 0 rfl) ?_
  refine lv_iload hx hb dL_law_722 (lv_at hl 4 rfl) ?_
  refine lv_iconst (v := 2) hx hb dL_law_724 (by decide) ?_
  refine lv_iadd hx hb dL_law_725 ?_
  refine lv_topi (fun v_3 e_3 => ?_)
  obtain rfl : v_3 = 2 := by rw [e_3]; decide
  refine va_sld hx hb hX hbl hbA hS (i := 2) (vp_in_nI (n := 2) (by decide) (by decide)) dL_law_726 ?_
  refine lv_topi (fun v_4 e_4 => ?_)
  obtain rfl : v_4 = xs 2 := by rw [e_4]; exact congrArg xs (by decide)
  refine lv_i2l (v := (xs 2).toInt64) hx hb dL_law_727 rfl ?_
  refine lv_bipush (v := 32) hx hb dL_law_728 (by decide) ?_
  refine lv_lshl (v := ((xs 2).toInt64) <<< ((32 : Int32).toInt64 &&& 63)) hx hb dL_law_730 rfl ?_
  refine lv_topl (fun w_5 ew_5 => ?_)
  refine lv_aload_n hx hb dL_law_731 rfl (lv_at hl 0 rfl) ?_
  refine lv_iload hx hb dL_law_732 (lv_at hl 4 rfl) ?_
  refine lv_iconst (v := 3) hx hb dL_law_734 (by decide) ?_
  refine lv_iadd hx hb dL_law_735 ?_
  refine lv_topi (fun v_6 e_6 => ?_)
  obtain rfl : v_6 = 3 := by rw [e_6]; decide
  refine va_sld hx hb hX hbl hbA hS (i := 3) (vp_in_nI (n := 3) (by decide) (by decide)) dL_law_736 ?_
  refine lv_topi (fun v_7 e_7 => ?_)
  obtain rfl : v_7 = xs 3 := by rw [e_7]; exact congrArg xs (by decide)
  refine lv_i2l (v := (xs 3).toInt64) hx hb dL_law_737 rfl ?_
  refine lv_ldc2 hx hb hown (hts (.constantLong RL 88 (4294967295)) (List.mem_of_getElem? (i := 1966) (by decide +kernel))) dL_law_738 ?_
  refine lv_land hx hb dL_law_741 ?_
  refine lv_topl (fun w_8 ew_8 => ?_)
  refine lv_lor hx hb dL_law_742 ?_
  refine lv_topl (fun w_9 ew_9 => ?_)
  have hPc := hP.sub (ws' := [((q 15), .inr (11, xF q 0 1)), ((q 1), .inr (5, [.int 0, .int 0, .int 0, .int 0, .ref (q 20), .ref (q 21), .ref (q 22), .ref (q 23)]))]) [0, 3] rfl
  have hDc := hD.sub (ws' := [((q 15), .inr (11, xF q 0 1)), ((q 1), .inr (5, [.int 0, .int 0, .int 0, .int 0, .ref (q 20), .ref (q 21), .ref (q 22), .ref (q 23)]))]) [0, 3] (by decide) rfl
  have hKc := hK.sub (tys' := []) [] rfl
  have hFc := va_free (wc := [((q 15), .inr (11, xF q 0 1)), ((q 1), .inr (5, [.int 0, .int 0, .int 0, .int 0, .ref (q 20), .ref (q 21), .ref (q 22), .ref (q 23)]))]) hD hS hA [0, 3] rfl
  refine va_calli (va_runV (As := [.int (xs 1), .long w_9]) (rest := []) ⟨hx, hb, hml, hown, hts⟩ (f_X11_years l dC dI H.size q ((xs 1)) w_9) (cwV 2 hts g_f_L_law_f_X11_years rfl rfl rfl (by decide +kernel) ⟨Nat.le_of_ble_eq_true rfl, Nat.le_of_ble_eq_true rfl⟩) ⟨cW_blind, va_recv hKc hPc (ci := 11) (q0 := 0) rfl rfl, fun U hU hW => ⟨rfl, cW_use hU hW hPc hKc hDc hG⟩⟩ rfl rfl hl.1 rfl (lv_room (Nat.le_of_ble_eq_true rfl)) dL_law_743 ⟨Nat.le_of_ble_eq_true rfl, Nat.le_of_ble_eq_true rfl⟩) hS (fun q _ h => hFc q h) hFc (fun r_10 u t H1 locs ht hvm hw hB hz1 hk1 hS => ?_)
  obtain ⟨hP, hD⟩ := va_join (wr := [((r 100), .inr (12, mF r 0 0 0 0 0 0 0 0 0 0 0 0 0 (-1) 1)), ((r 1), .inl (kT, 240, .inl fT)), ((r 18), .inl (kU, 2, .inl (fun _ => 0))), ((r 24), .inl (kL, 5, .inl (fun _ => 0))), ((r 32), .inl (kN, 208, .inl (fun _ => 0)))]) (w1 := []) hP hD [0, 3] [12, 13, 14, 15, 16] rfl rfl (by decide) (by decide) hk1 hFc (va_P_nil H1) va_D_nil
  generalize H1 = H at hP hS ⊢
  have hP : va_P (dC, dI) vwCl [((r 100), .inr (12, mF r 0 0 0 0 0 0 0 0 0 0 0 0 0 (-1) 1)), ((r 1), .inl (kT, 240, .inl fT)), ((r 18), .inl (kU, 2, .inl (fun _ => 0))), ((r 24), .inl (kL, 5, .inl (fun _ => 0))), ((r 32), .inl (kN, 208, .inl (fun _ => 0)))] H := hP
  have hD : va_D (fun q : Nat => s.heap.size ≤ q) [((r 100), .inr (12, mF r 0 0 0 0 0 0 0 0 0 0 0 0 0 (-1) 1)), ((r 1), .inl (kT, 240, .inl fT)), ((r 18), .inl (kU, 2, .inl (fun _ => 0))), ((r 24), .inl (kL, 5, .inl (fun _ => 0))), ((r 32), .inl (kN, 208, .inl (fun _ => 0)))] := hD
  refine W.widen (k := 335) (n := 33214) (Nat.le_of_ble_eq_true rfl) (Nat.le_of_ble_eq_true rfl) ?_
  obtain rfl : r_10 = (-1) := hw
  refine lv_aload_n hx hb dL_law_746 rfl (lv_at hl 2 rfl) ?_
  refine lv_aload_n hx hb dL_law_747 rfl (lv_at hl 0 rfl) ?_
  refine lv_iload hx hb dL_law_748 (lv_at hl 4 rfl) ?_
  refine lv_iconst (v := 1) hx hb dL_law_750 (by decide) ?_
  refine lv_iadd hx hb dL_law_751 ?_
  refine lv_topi (fun v_11 e_11 => ?_)
  obtain rfl : v_11 = 1 := by rw [e_11]; decide
  refine va_sld hx hb hX hbl hbA hS (i := 1) (vp_in_nI (n := 1) (by decide) (by decide)) dL_law_752 ?_
  refine lv_topi (fun v_12 e_12 => ?_)
  obtain rfl : v_12 = xs 1 := by rw [e_12]; exact congrArg xs (by decide)
  refine lv_aload_n hx hb dL_law_753 rfl (lv_at hl 0 rfl) ?_
  refine lv_iload hx hb dL_law_754 (lv_at hl 4 rfl) ?_
  refine lv_iconst (v := 2) hx hb dL_law_756 (by decide) ?_
  refine lv_iadd hx hb dL_law_757 ?_
  refine lv_topi (fun v_13 e_13 => ?_)
  obtain rfl : v_13 = 2 := by rw [e_13]; decide
  refine va_sld hx hb hX hbl hbA hS (i := 2) (vp_in_nI (n := 2) (by decide) (by decide)) dL_law_758 ?_
  refine lv_topi (fun v_14 e_14 => ?_)
  obtain rfl : v_14 = xs 2 := by rw [e_14]; exact congrArg xs (by decide)
  refine lv_i2l (v := (xs 2).toInt64) hx hb dL_law_759 rfl ?_
  refine lv_bipush (v := 32) hx hb dL_law_760 (by decide) ?_
  refine lv_lshl (v := ((xs 2).toInt64) <<< ((32 : Int32).toInt64 &&& 63)) hx hb dL_law_762 rfl ?_
  refine lv_topl (fun w_15 ew_15 => ?_)
  refine lv_aload_n hx hb dL_law_763 rfl (lv_at hl 0 rfl) ?_
  refine lv_iload hx hb dL_law_764 (lv_at hl 4 rfl) ?_
  refine lv_iconst (v := 3) hx hb dL_law_766 (by decide) ?_
  refine lv_iadd hx hb dL_law_767 ?_
  refine lv_topi (fun v_16 e_16 => ?_)
  obtain rfl : v_16 = 3 := by rw [e_16]; decide
  refine va_sld hx hb hX hbl hbA hS (i := 3) (vp_in_nI (n := 3) (by decide) (by decide)) dL_law_768 ?_
  refine lv_topi (fun v_17 e_17 => ?_)
  obtain rfl : v_17 = xs 3 := by rw [e_17]; exact congrArg xs (by decide)
  refine lv_i2l (v := (xs 3).toInt64) hx hb dL_law_769 rfl ?_
  refine lv_ldc2 hx hb hown (hts (.constantLong RL 88 (4294967295)) (List.mem_of_getElem? (i := 1966) (by decide +kernel))) dL_law_770 ?_
  refine lv_land hx hb dL_law_773 ?_
  refine lv_topl (fun w_18 ew_18 => ?_)
  refine lv_lor hx hb dL_law_774 ?_
  refine lv_topl (fun w_19 ew_19 => ?_)
  have hPc := hP.sub (ws' := [((r 100), .inr (12, mF r 0 0 0 0 0 0 0 0 0 0 0 0 0 (-1) 1))]) [0] rfl
  have hDc := hD.sub (ws' := [((r 100), .inr (12, mF r 0 0 0 0 0 0 0 0 0 0 0 0 0 (-1) 1))]) [0] (by decide) rfl
  have hKc := hK.sub (tys' := []) [] rfl
  have hFc := va_free (wc := [((r 100), .inr (12, mF r 0 0 0 0 0 0 0 0 0 0 0 0 0 (-1) 1))]) hD hS hA [0] rfl
  refine va_calli (va_runV (As := [.int (xs 1), .long w_19]) (rest := [.int (-1)]) ⟨hx, hb, hml, hown, hts⟩ (f_X12_years l dC dI H.size r ((xs 1)) w_19) (cwV 2 hts g_f_L_law_f_X12_years rfl rfl rfl (by decide +kernel) ⟨Nat.le_of_ble_eq_true rfl, Nat.le_of_ble_eq_true rfl⟩) ⟨cW_blind, va_recv hKc hPc (ci := 12) (q0 := 0) rfl rfl, fun U hU hW => ⟨rfl, cW_use hU hW hPc hKc hDc hG⟩⟩ rfl rfl hl.1 rfl (lv_room (Nat.le_of_ble_eq_true rfl)) dL_law_775 ⟨Nat.le_of_ble_eq_true rfl, Nat.le_of_ble_eq_true rfl⟩) hS (fun q _ h => hFc q h) hFc (fun r_20 u t H1 locs ht hvm hw hB hz1 hk1 hS => ?_)
  obtain ⟨hP, hD⟩ := va_join (wr := [((r 1), .inl (kT, 240, .inl fT)), ((r 18), .inl (kU, 2, .inl (fun _ => 0))), ((r 24), .inl (kL, 5, .inl (fun _ => 0))), ((r 32), .inl (kN, 208, .inl (fun _ => 0)))]) (w1 := []) hP hD [0] [1, 2, 3, 4] rfl rfl (by decide) (by decide) hk1 hFc (va_P_nil H1) va_D_nil
  generalize H1 = H at hP hS ⊢
  have hP : va_P (dC, dI) vwCl [((r 1), .inl (kT, 240, .inl fT)), ((r 18), .inl (kU, 2, .inl (fun _ => 0))), ((r 24), .inl (kL, 5, .inl (fun _ => 0))), ((r 32), .inl (kN, 208, .inl (fun _ => 0)))] H := hP
  have hD : va_D (fun q : Nat => s.heap.size ≤ q) [((r 1), .inl (kT, 240, .inl fT)), ((r 18), .inl (kU, 2, .inl (fun _ => 0))), ((r 24), .inl (kL, 5, .inl (fun _ => 0))), ((r 32), .inl (kN, 208, .inl (fun _ => 0)))] := hD
  refine W.widen (k := 335) (n := 33214) (Nat.le_of_ble_eq_true rfl) (Nat.le_of_ble_eq_true rfl) ?_
  obtain rfl : r_20 = (-1) := hw
  refine lv_icmp_eq (tgt := 1629) hx hb dL_law_778 (by decide) (fun c_21 => ?_) (fun c_21 => absurd (by decide) c_21)
  exact lc_exit C0 hS (by decide) (by decide) ls (lv_sub hl [0, 4] rfl)
set_option maxHeartbeats 4000000 in
set_option maxRecDepth 100000 in
theorem lc_16 {p : Program} {l : Launch} {e : Env} {s : State} {m : MethodId} {below : List Frame} {meth : Method} {c : Code} {b : Nat} {xs : Nat → Int32} {H : Heap} {locs : List Loc} {ls : Array Slot} {dC : Nat → ClassId} {dI : Nat → Nat → Nat} {sk sv : Nat → Nat} {s2 tz s3 : Nat} (q r : Nat → Nat) (kB : ClassId) (kR : ClassId) (kT : ClassId) (kU : ClassId) (kL : ClassId) (kN : ClassId) (fB fT : Nat → Int32) (qo : Nat) (hlt : l.stackTraces = false) (C0 : lw_At p s m meth c b 6 xs) (hG : gxP s) (hE : exP sk sv s2 tz (fun q : Nat => s.heap.size ≤ q) s s.heap) (hT : tP s3 (fun q : Nat => s.heap.size ≤ q) s s.heap) (hK : va_K (dC, dI) vwCl [(kB, .int), (kR, .int), (kT, .byte), (kU, .int), (kL, .int), (kN, .int)] s) (hP : va_P (dC, dI) vwCl (fwL q r kB kR kT kU kL kN fB fT) H) (hD : va_D (fun q : Nat => s.heap.size ≤ q) (fwL q r kB kR kT kU kL kN fB fT)) (hS : va_S (fun q : Nat => s.heap.size ≤ q) s.heap H locs) (hl : lv_has ls 7 [(0, .ref b), (1, .ref (q 15)), (2, .ref (r 100)), (3, .ref qo), (4, .int 0)]) : W p l e room_1 s m #[Value.ref b] below meth c H locs 335 33214 (lw_Z below #[Value.ref b] s) (F0 m 783 ls []) := by
  obtain ⟨hx, hb, hr, hml, hown0, hts, hX, hbl, hlocks, hgv⟩ := id C0
  have hown : s.vm.findClass RL = some m.cls := hown0
  have hA : ∀ q : Nat, s.heap.size ≤ q → (fun q : Nat => s.heap.size ≤ q) q := fun _ h => h
  have hbA : ¬ (fun q : Nat => s.heap.size ≤ q) b := Nat.not_le.mpr hbl
  have hiX11 : ∀ w ∈ u_ws RX11 TX11 17, w ∈ lw_tbl := in_X11
  have hiX12 : ∀ w ∈ u_ws RX12 TX12 54, w ∈ lw_tbl := in_X12
  refine lv_aload_n hx hb dL_law_783 rfl (lv_at hl 1 rfl) ?_
  have hPc := hP.sub (ws' := [((q 15), .inr (11, xF q 0 1)), ((q 11), .inr (0, [.ref (q 44), .int 0, .int 0]))]) [0, 11] rfl
  have hDc := hD.sub (ws' := [((q 15), .inr (11, xF q 0 1)), ((q 11), .inr (0, [.ref (q 44), .int 0, .int 0]))]) [0, 11] (by decide) rfl
  have hKc := hK.sub (tys' := []) [] rfl
  have hFc := va_free (wc := [((q 15), .inr (11, xF q 0 1)), ((q 11), .inr (0, [.ref (q 44), .int 0, .int 0]))]) hD hS hA [0, 11] rfl
  refine va_calli (va_runV (As := []) (rest := []) ⟨hx, hb, hml, hown, hts⟩ (f_X11_undo l dC dI H.size q ) (cwV 0 hts g_f_L_law_f_X11_undo rfl rfl rfl (by decide +kernel) ⟨Nat.le_of_ble_eq_true rfl, Nat.le_of_ble_eq_true rfl⟩) ⟨cW_blind, va_recv hKc hPc (ci := 11) (q0 := 0) rfl rfl, fun U hU hW => ⟨rfl, cW_use hU hW hPc hKc hDc hG⟩⟩ rfl rfl hl.1 rfl (lv_room (Nat.le_of_ble_eq_true rfl)) dL_law_784 ⟨Nat.le_of_ble_eq_true rfl, Nat.le_of_ble_eq_true rfl⟩) hS (fun q _ h => hFc q h) hFc (fun r_1 u t H1 locs ht hvm hw hB hz1 hk1 hS => ?_)
  obtain ⟨hP, hD⟩ := va_join (wr := [((r 100), .inr (12, mF r 0 0 0 0 0 0 0 0 0 0 0 0 0 (-1) 1)), ((r 1), .inl (kT, 240, .inl fT)), ((r 18), .inl (kU, 2, .inl (fun _ => 0))), ((r 24), .inl (kL, 5, .inl (fun _ => 0))), ((r 32), .inl (kN, 208, .inl (fun _ => 0)))]) (w1 := []) hP hD [0, 11] [12, 13, 14, 15, 16] rfl rfl (by decide) (by decide) hk1 hFc (va_P_nil H1) va_D_nil
  generalize H1 = H at hP hS ⊢
  have hP : va_P (dC, dI) vwCl [((r 100), .inr (12, mF r 0 0 0 0 0 0 0 0 0 0 0 0 0 (-1) 1)), ((r 1), .inl (kT, 240, .inl fT)), ((r 18), .inl (kU, 2, .inl (fun _ => 0))), ((r 24), .inl (kL, 5, .inl (fun _ => 0))), ((r 32), .inl (kN, 208, .inl (fun _ => 0)))] H := hP
  have hD : va_D (fun q : Nat => s.heap.size ≤ q) [((r 100), .inr (12, mF r 0 0 0 0 0 0 0 0 0 0 0 0 0 (-1) 1)), ((r 1), .inl (kT, 240, .inl fT)), ((r 18), .inl (kU, 2, .inl (fun _ => 0))), ((r 24), .inl (kL, 5, .inl (fun _ => 0))), ((r 32), .inl (kN, 208, .inl (fun _ => 0)))] := hD
  refine W.widen (k := 335) (n := 33214) (Nat.le_of_ble_eq_true rfl) (Nat.le_of_ble_eq_true rfl) ?_
  obtain rfl : r_1 = (-1) := hw
  refine lv_aload_n hx hb dL_law_787 rfl (lv_at hl 2 rfl) ?_
  have hPc := hP.sub (ws' := [((r 100), .inr (12, mF r 0 0 0 0 0 0 0 0 0 0 0 0 0 (-1) 1))]) [0] rfl
  have hDc := hD.sub (ws' := [((r 100), .inr (12, mF r 0 0 0 0 0 0 0 0 0 0 0 0 0 (-1) 1))]) [0] (by decide) rfl
  have hKc := hK.sub (tys' := []) [] rfl
  have hFc := va_free (wc := [((r 100), .inr (12, mF r 0 0 0 0 0 0 0 0 0 0 0 0 0 (-1) 1))]) hD hS hA [0] rfl
  refine va_calli (va_runV (As := []) (rest := [.int (-1)]) ⟨hx, hb, hml, hown, hts⟩ (f_X12_undo l dC dI H.size r ) (cwV 0 hts g_f_L_law_f_X12_undo rfl rfl rfl (by decide +kernel) ⟨Nat.le_of_ble_eq_true rfl, Nat.le_of_ble_eq_true rfl⟩) ⟨cW_blind, va_recv hKc hPc (ci := 12) (q0 := 0) rfl rfl, fun U hU hW => ⟨rfl, cW_use hU hW hPc hKc hDc hG⟩⟩ rfl rfl hl.1 rfl (lv_room (Nat.le_of_ble_eq_true rfl)) dL_law_788 ⟨Nat.le_of_ble_eq_true rfl, Nat.le_of_ble_eq_true rfl⟩) hS (fun q _ h => hFc q h) hFc (fun r_2 u t H1 locs ht hvm hw hB hz1 hk1 hS => ?_)
  obtain ⟨hP, hD⟩ := va_join (wr := [((r 1), .inl (kT, 240, .inl fT)), ((r 18), .inl (kU, 2, .inl (fun _ => 0))), ((r 24), .inl (kL, 5, .inl (fun _ => 0))), ((r 32), .inl (kN, 208, .inl (fun _ => 0)))]) (w1 := []) hP hD [0] [1, 2, 3, 4] rfl rfl (by decide) (by decide) hk1 hFc (va_P_nil H1) va_D_nil
  generalize H1 = H at hP hS ⊢
  have hP : va_P (dC, dI) vwCl [((r 1), .inl (kT, 240, .inl fT)), ((r 18), .inl (kU, 2, .inl (fun _ => 0))), ((r 24), .inl (kL, 5, .inl (fun _ => 0))), ((r 32), .inl (kN, 208, .inl (fun _ => 0)))] H := hP
  have hD : va_D (fun q : Nat => s.heap.size ≤ q) [((r 1), .inl (kT, 240, .inl fT)), ((r 18), .inl (kU, 2, .inl (fun _ => 0))), ((r 24), .inl (kL, 5, .inl (fun _ => 0))), ((r 32), .inl (kN, 208, .inl (fun _ => 0)))] := hD
  refine W.widen (k := 335) (n := 33214) (Nat.le_of_ble_eq_true rfl) (Nat.le_of_ble_eq_true rfl) ?_
  obtain rfl : r_2 = (-1) := hw
  refine lv_icmp_eq (tgt := 1629) hx hb dL_law_791 (by decide) (fun c_3 => ?_) (fun c_3 => absurd (by decide) c_3)
  exact lc_exit C0 hS (by decide) (by decide) ls (lv_sub hl [0, 4] rfl)
set_option maxHeartbeats 4000000 in
set_option maxRecDepth 100000 in
theorem lc_17 {p : Program} {l : Launch} {e : Env} {s : State} {m : MethodId} {below : List Frame} {meth : Method} {c : Code} {b : Nat} {xs : Nat → Int32} {H : Heap} {locs : List Loc} {ls : Array Slot} {dC : Nat → ClassId} {dI : Nat → Nat → Nat} {sk sv : Nat → Nat} {s2 tz s3 : Nat} (q r : Nat → Nat) (kB : ClassId) (kR : ClassId) (kT : ClassId) (kU : ClassId) (kL : ClassId) (kN : ClassId) (fB fT : Nat → Int32) (qo : Nat) (hlt : l.stackTraces = false) (C0 : lw_At p s m meth c b 6 xs) (hG : gxP s) (hE : exP sk sv s2 tz (fun q : Nat => s.heap.size ≤ q) s s.heap) (hT : tP s3 (fun q : Nat => s.heap.size ≤ q) s s.heap) (hK : va_K (dC, dI) vwCl [(kB, .int), (kR, .int), (kT, .byte), (kU, .int), (kL, .int), (kN, .int)] s) (hP : va_P (dC, dI) vwCl (fwL q r kB kR kT kU kL kN fB fT) H) (hD : va_D (fun q : Nat => s.heap.size ≤ q) (fwL q r kB kR kT kU kL kN fB fT)) (hS : va_S (fun q : Nat => s.heap.size ≤ q) s.heap H locs) (hl : lv_has ls 7 [(0, .ref b), (1, .ref (q 15)), (2, .ref (r 100)), (3, .ref qo), (4, .int 0)]) : W p l e room_1 s m #[Value.ref b] below meth c H locs 335 33214 (lw_Z below #[Value.ref b] s) (F0 m 796 ls []) := by
  obtain ⟨hx, hb, hr, hml, hown0, hts, hX, hbl, hlocks, hgv⟩ := id C0
  have hown : s.vm.findClass RL = some m.cls := hown0
  have hA : ∀ q : Nat, s.heap.size ≤ q → (fun q : Nat => s.heap.size ≤ q) q := fun _ h => h
  have hbA : ¬ (fun q : Nat => s.heap.size ≤ q) b := Nat.not_le.mpr hbl
  have hiX11 : ∀ w ∈ u_ws RX11 TX11 17, w ∈ lw_tbl := in_X11
  have hiX12 : ∀ w ∈ u_ws RX12 TX12 54, w ∈ lw_tbl := in_X12
  refine lv_aload_n hx hb dL_law_796 rfl (lv_at hl 1 rfl) ?_
  refine lv_aload_n hx hb dL_law_797 rfl (lv_at hl 0 rfl) ?_
  refine lv_iload hx hb dL_law_798 (lv_at hl 4 rfl) ?_
  refine lv_iconst (v := 1) hx hb dL_law_800 (by decide) ?_
  refine lv_iadd hx hb dL_law_801 ?_
  refine lv_topi (fun v_1 e_1 => ?_)
  obtain rfl : v_1 = 1 := by rw [e_1]; decide
  refine va_sld hx hb hX hbl hbA hS (i := 1) (vp_in_nI (n := 1) (by decide) (by decide)) dL_law_802 ?_
  refine lv_topi (fun v_2 e_2 => ?_)
  obtain rfl : v_2 = xs 1 := by rw [e_2]; exact congrArg xs (by decide)
  refine lv_aload_n hx hb dL_law_803 rfl (lv_at hl 0 rfl) ?_
  refine lv_iload hx hb dL_law_804 (lv_at hl 4 rfl) ?_
  refine lv_iconst (v := 2) hx hb dL_law_806 (by decide) ?_
  refine lv_iadd hx hb dL_law_807 ?_
  refine lv_topi (fun v_3 e_3 => ?_)
  obtain rfl : v_3 = 2 := by rw [e_3]; decide
  refine va_sld hx hb hX hbl hbA hS (i := 2) (vp_in_nI (n := 2) (by decide) (by decide)) dL_law_808 ?_
  refine lv_topi (fun v_4 e_4 => ?_)
  obtain rfl : v_4 = xs 2 := by rw [e_4]; exact congrArg xs (by decide)
  have hPc := hP.sub (ws' := [((q 15), .inr (11, xF q 0 1)), ((q 9), .inr (6, [.int 0, .int 0, .int 0, .ref (q 40), .ref (q 41), .ref (q 42), .ref (q 43)]))]) [0, 10] rfl
  have hDc := hD.sub (ws' := [((q 15), .inr (11, xF q 0 1)), ((q 9), .inr (6, [.int 0, .int 0, .int 0, .ref (q 40), .ref (q 41), .ref (q 42), .ref (q 43)]))]) [0, 10] (by decide) rfl
  have hKc := hK.sub (tys' := []) [] rfl
  have hFc := va_free (wc := [((q 15), .inr (11, xF q 0 1)), ((q 9), .inr (6, [.int 0, .int 0, .int 0, .ref (q 40), .ref (q 41), .ref (q 42), .ref (q 43)]))]) hD hS hA [0, 10] rfl
  refine va_calli (va_runV (As := [.int (xs 1), .int (xs 2)]) (rest := []) ⟨hx, hb, hml, hown, hts⟩ (f_X11_log l dC dI H.size q ((xs 1)) ((xs 2))) (cwV 2 hts g_f_L_law_f_X11_log rfl rfl rfl (by decide +kernel) ⟨Nat.le_of_ble_eq_true rfl, Nat.le_of_ble_eq_true rfl⟩) ⟨cW_blind, va_recv hKc hPc (ci := 11) (q0 := 0) rfl rfl, fun U hU hW => ⟨rfl, cW_use hU hW hPc hKc hDc hG⟩⟩ rfl rfl hl.1 rfl (lv_room (Nat.le_of_ble_eq_true rfl)) dL_law_809 ⟨Nat.le_of_ble_eq_true rfl, Nat.le_of_ble_eq_true rfl⟩) hS (fun q _ h => hFc q h) hFc (fun r_5 u t H1 locs ht hvm hw hB hz1 hk1 hS => ?_)
  obtain ⟨hP, hD⟩ := va_join (wr := [((r 100), .inr (12, mF r 0 0 0 0 0 0 0 0 0 0 0 0 0 (-1) 1)), ((r 1), .inl (kT, 240, .inl fT)), ((r 18), .inl (kU, 2, .inl (fun _ => 0))), ((r 24), .inl (kL, 5, .inl (fun _ => 0))), ((r 32), .inl (kN, 208, .inl (fun _ => 0)))]) (w1 := []) hP hD [0, 10] [12, 13, 14, 15, 16] rfl rfl (by decide) (by decide) hk1 hFc (va_P_nil H1) va_D_nil
  generalize H1 = H at hP hS ⊢
  have hP : va_P (dC, dI) vwCl [((r 100), .inr (12, mF r 0 0 0 0 0 0 0 0 0 0 0 0 0 (-1) 1)), ((r 1), .inl (kT, 240, .inl fT)), ((r 18), .inl (kU, 2, .inl (fun _ => 0))), ((r 24), .inl (kL, 5, .inl (fun _ => 0))), ((r 32), .inl (kN, 208, .inl (fun _ => 0)))] H := hP
  have hD : va_D (fun q : Nat => s.heap.size ≤ q) [((r 100), .inr (12, mF r 0 0 0 0 0 0 0 0 0 0 0 0 0 (-1) 1)), ((r 1), .inl (kT, 240, .inl fT)), ((r 18), .inl (kU, 2, .inl (fun _ => 0))), ((r 24), .inl (kL, 5, .inl (fun _ => 0))), ((r 32), .inl (kN, 208, .inl (fun _ => 0)))] := hD
  refine W.widen (k := 335) (n := 33214) (Nat.le_of_ble_eq_true rfl) (Nat.le_of_ble_eq_true rfl) ?_
  obtain rfl : r_5 = (-1) := hw
  refine lv_aload_n hx hb dL_law_812 rfl (lv_at hl 2 rfl) ?_
  refine lv_aload_n hx hb dL_law_813 rfl (lv_at hl 0 rfl) ?_
  refine lv_iload hx hb dL_law_814 (lv_at hl 4 rfl) ?_
  refine lv_iconst (v := 1) hx hb dL_law_816 (by decide) ?_
  refine lv_iadd hx hb dL_law_817 ?_
  refine lv_topi (fun v_6 e_6 => ?_)
  obtain rfl : v_6 = 1 := by rw [e_6]; decide
  refine va_sld hx hb hX hbl hbA hS (i := 1) (vp_in_nI (n := 1) (by decide) (by decide)) dL_law_818 ?_
  refine lv_topi (fun v_7 e_7 => ?_)
  obtain rfl : v_7 = xs 1 := by rw [e_7]; exact congrArg xs (by decide)
  refine lv_aload_n hx hb dL_law_819 rfl (lv_at hl 0 rfl) ?_
  refine lv_iload hx hb dL_law_820 (lv_at hl 4 rfl) ?_
  refine lv_iconst (v := 2) hx hb dL_law_822 (by decide) ?_
  refine lv_iadd hx hb dL_law_823 ?_
  refine lv_topi (fun v_8 e_8 => ?_)
  obtain rfl : v_8 = 2 := by rw [e_8]; decide
  refine va_sld hx hb hX hbl hbA hS (i := 2) (vp_in_nI (n := 2) (by decide) (by decide)) dL_law_824 ?_
  refine lv_topi (fun v_9 e_9 => ?_)
  obtain rfl : v_9 = xs 2 := by rw [e_9]; exact congrArg xs (by decide)
  have hPc := hP.sub (ws' := [((r 100), .inr (12, mF r 0 0 0 0 0 0 0 0 0 0 0 0 0 (-1) 1)), ((r 32), .inl (kN, 208, .inl (fun _ => 0)))]) [0, 4] rfl
  have hDc := hD.sub (ws' := [((r 100), .inr (12, mF r 0 0 0 0 0 0 0 0 0 0 0 0 0 (-1) 1)), ((r 32), .inl (kN, 208, .inl (fun _ => 0)))]) [0, 4] (by decide) rfl
  have hKc := hK.sub (tys' := [(kN, .int)]) [5] rfl
  have hFc := va_free (wc := [((r 100), .inr (12, mF r 0 0 0 0 0 0 0 0 0 0 0 0 0 (-1) 1)), ((r 32), .inl (kN, 208, .inl (fun _ => 0)))]) hD hS hA [0, 4] rfl
  refine va_calli (va_runV (As := [.int (xs 1), .int (xs 2)]) (rest := [.int (-1)]) ⟨hx, hb, hml, hown, hts⟩ (f_X12_log l dC dI H.size r kN ((xs 1)) ((xs 2))) (cwV 2 hts g_f_L_law_f_X12_log rfl rfl rfl (by decide +kernel) ⟨Nat.le_of_ble_eq_true rfl, Nat.le_of_ble_eq_true rfl⟩) ⟨cW_blind, va_recv hKc hPc (ci := 12) (q0 := 0) rfl rfl, fun U hU hW => ⟨rfl, cW_use hU hW hPc hKc hDc hG⟩⟩ rfl rfl hl.1 rfl (lv_room (Nat.le_of_ble_eq_true rfl)) dL_law_825 ⟨Nat.le_of_ble_eq_true rfl, Nat.le_of_ble_eq_true rfl⟩) hS (fun q _ h => hFc q h) hFc (fun r_10 u t H1 locs ht hvm hw hB hz1 hk1 hS => ?_)
  obtain ⟨hP, hD⟩ := va_join (wr := [((r 1), .inl (kT, 240, .inl fT)), ((r 18), .inl (kU, 2, .inl (fun _ => 0))), ((r 24), .inl (kL, 5, .inl (fun _ => 0)))]) (w1 := []) hP hD [0, 4] [1, 2, 3] rfl rfl (by decide) (by decide) hk1 hFc (va_P_nil H1) va_D_nil
  generalize H1 = H at hP hS ⊢
  have hP : va_P (dC, dI) vwCl [((r 1), .inl (kT, 240, .inl fT)), ((r 18), .inl (kU, 2, .inl (fun _ => 0))), ((r 24), .inl (kL, 5, .inl (fun _ => 0)))] H := hP
  have hD : va_D (fun q : Nat => s.heap.size ≤ q) [((r 1), .inl (kT, 240, .inl fT)), ((r 18), .inl (kU, 2, .inl (fun _ => 0))), ((r 24), .inl (kL, 5, .inl (fun _ => 0)))] := hD
  refine W.widen (k := 335) (n := 33214) (Nat.le_of_ble_eq_true rfl) (Nat.le_of_ble_eq_true rfl) ?_
  obtain rfl : r_10 = (-1) := hw
  refine lv_icmp_eq (tgt := 1629) hx hb dL_law_828 (by decide) (fun c_11 => ?_) (fun c_11 => absurd (by decide) c_11)
  exact lc_exit C0 hS (by decide) (by decide) ls (lv_sub hl [0, 4] rfl)
set_option maxHeartbeats 4000000 in
set_option maxRecDepth 100000 in
theorem lc_18 {p : Program} {l : Launch} {e : Env} {s : State} {m : MethodId} {below : List Frame} {meth : Method} {c : Code} {b : Nat} {xs : Nat → Int32} {H : Heap} {locs : List Loc} {ls : Array Slot} {dC : Nat → ClassId} {dI : Nat → Nat → Nat} {sk sv : Nat → Nat} {s2 tz s3 : Nat} (q r : Nat → Nat) (kB : ClassId) (kR : ClassId) (kT : ClassId) (kU : ClassId) (kL : ClassId) (kN : ClassId) (fB fT : Nat → Int32) (qo : Nat) (hlt : l.stackTraces = false) (C0 : lw_At p s m meth c b 6 xs) (hG : gxP s) (hE : exP sk sv s2 tz (fun q : Nat => s.heap.size ≤ q) s s.heap) (hT : tP s3 (fun q : Nat => s.heap.size ≤ q) s s.heap) (hK : va_K (dC, dI) vwCl [(kB, .int), (kR, .int), (kT, .byte), (kU, .int), (kL, .int), (kN, .int)] s) (hP : va_P (dC, dI) vwCl (fwL q r kB kR kT kU kL kN fB fT) H) (hD : va_D (fun q : Nat => s.heap.size ≤ q) (fwL q r kB kR kT kU kL kN fB fT)) (hS : va_S (fun q : Nat => s.heap.size ≤ q) s.heap H locs) (hl : lv_has ls 7 [(0, .ref b), (1, .ref (q 15)), (2, .ref (r 100)), (3, .ref qo), (4, .int 0)]) : W p l e room_1 s m #[Value.ref b] below meth c H locs 335 33214 (lw_Z below #[Value.ref b] s) (F0 m 833 ls []) := by
  obtain ⟨hx, hb, hr, hml, hown0, hts, hX, hbl, hlocks, hgv⟩ := id C0
  have hown : s.vm.findClass RL = some m.cls := hown0
  have hA : ∀ q : Nat, s.heap.size ≤ q → (fun q : Nat => s.heap.size ≤ q) q := fun _ h => h
  have hbA : ¬ (fun q : Nat => s.heap.size ≤ q) b := Nat.not_le.mpr hbl
  have hiX11 : ∀ w ∈ u_ws RX11 TX11 17, w ∈ lw_tbl := in_X11
  have hiX12 : ∀ w ∈ u_ws RX12 TX12 54, w ∈ lw_tbl := in_X12
  refine lv_aload_n hx hb dL_law_833 rfl (lv_at hl 1 rfl) ?_
  refine lv_aload_n hx hb dL_law_834 rfl (lv_at hl 0 rfl) ?_
  refine lv_iload hx hb dL_law_835 (lv_at hl 4 rfl) ?_
  refine lv_iconst (v := 1) hx hb dL_law_837 (by decide) ?_
  refine lv_iadd hx hb dL_law_838 ?_
  refine lv_topi (fun v_1 e_1 => ?_)
  obtain rfl : v_1 = 1 := by rw [e_1]; decide
  refine va_sld hx hb hX hbl hbA hS (i := 1) (vp_in_nI (n := 1) (by decide) (by decide)) dL_law_839 ?_
  refine lv_topi (fun v_2 e_2 => ?_)
  obtain rfl : v_2 = xs 1 := by rw [e_2]; exact congrArg xs (by decide)
  refine lv_aload_n hx hb dL_law_840 rfl (lv_at hl 0 rfl) ?_
  refine lv_iload hx hb dL_law_841 (lv_at hl 4 rfl) ?_
  refine lv_iconst (v := 2) hx hb dL_law_843 (by decide) ?_
  refine lv_iadd hx hb dL_law_844 ?_
  refine lv_topi (fun v_3 e_3 => ?_)
  obtain rfl : v_3 = 2 := by rw [e_3]; decide
  refine va_sld hx hb hX hbl hbA hS (i := 2) (vp_in_nI (n := 2) (by decide) (by decide)) dL_law_845 ?_
  refine lv_topi (fun v_4 e_4 => ?_)
  obtain rfl : v_4 = xs 2 := by rw [e_4]; exact congrArg xs (by decide)
  have hPc := hP.sub (ws' := [((q 15), .inr (11, xF q 0 1)), ((q 5), .inr (9, [.ref (q 33), .ref (q 34), .ref (q 35), .int 0, .int 0]))]) [0, 8] rfl
  have hDc := hD.sub (ws' := [((q 15), .inr (11, xF q 0 1)), ((q 5), .inr (9, [.ref (q 33), .ref (q 34), .ref (q 35), .int 0, .int 0]))]) [0, 8] (by decide) rfl
  have hKc := hK.sub (tys' := []) [] rfl
  have hFc := va_free (wc := [((q 15), .inr (11, xF q 0 1)), ((q 5), .inr (9, [.ref (q 33), .ref (q 34), .ref (q 35), .int 0, .int 0]))]) hD hS hA [0, 8] rfl
  refine va_calli (va_runV (As := [.int (xs 1), .int (xs 2)]) (rest := []) ⟨hx, hb, hml, hown, hts⟩ (f_X11_walk l dC dI H.size q ((xs 1)) ((xs 2))) (cwV 2 hts g_f_L_law_f_X11_walk rfl rfl rfl (by decide +kernel) ⟨Nat.le_of_ble_eq_true rfl, Nat.le_of_ble_eq_true rfl⟩) ⟨cW_blind, va_recv hKc hPc (ci := 11) (q0 := 0) rfl rfl, fun U hU hW => ⟨rfl, cW_use hU hW hPc hKc hDc hG⟩⟩ rfl rfl hl.1 rfl (lv_room (Nat.le_of_ble_eq_true rfl)) dL_law_846 ⟨Nat.le_of_ble_eq_true rfl, Nat.le_of_ble_eq_true rfl⟩) hS (fun q _ h => hFc q h) hFc (fun r_5 u t H1 locs ht hvm hw hB hz1 hk1 hS => ?_)
  obtain ⟨hP, hD⟩ := va_join (wr := [((r 100), .inr (12, mF r 0 0 0 0 0 0 0 0 0 0 0 0 0 (-1) 1)), ((r 1), .inl (kT, 240, .inl fT)), ((r 18), .inl (kU, 2, .inl (fun _ => 0))), ((r 24), .inl (kL, 5, .inl (fun _ => 0))), ((r 32), .inl (kN, 208, .inl (fun _ => 0)))]) (w1 := []) hP hD [0, 8] [12, 13, 14, 15, 16] rfl rfl (by decide) (by decide) hk1 hFc (va_P_nil H1) va_D_nil
  generalize H1 = H at hP hS ⊢
  have hP : va_P (dC, dI) vwCl [((r 100), .inr (12, mF r 0 0 0 0 0 0 0 0 0 0 0 0 0 (-1) 1)), ((r 1), .inl (kT, 240, .inl fT)), ((r 18), .inl (kU, 2, .inl (fun _ => 0))), ((r 24), .inl (kL, 5, .inl (fun _ => 0))), ((r 32), .inl (kN, 208, .inl (fun _ => 0)))] H := hP
  have hD : va_D (fun q : Nat => s.heap.size ≤ q) [((r 100), .inr (12, mF r 0 0 0 0 0 0 0 0 0 0 0 0 0 (-1) 1)), ((r 1), .inl (kT, 240, .inl fT)), ((r 18), .inl (kU, 2, .inl (fun _ => 0))), ((r 24), .inl (kL, 5, .inl (fun _ => 0))), ((r 32), .inl (kN, 208, .inl (fun _ => 0)))] := hD
  refine W.widen (k := 335) (n := 33214) (Nat.le_of_ble_eq_true rfl) (Nat.le_of_ble_eq_true rfl) ?_
  obtain rfl : r_5 = (-1) := hw
  refine lv_aload_n hx hb dL_law_849 rfl (lv_at hl 2 rfl) ?_
  refine lv_aload_n hx hb dL_law_850 rfl (lv_at hl 0 rfl) ?_
  refine lv_iload hx hb dL_law_851 (lv_at hl 4 rfl) ?_
  refine lv_iconst (v := 1) hx hb dL_law_853 (by decide) ?_
  refine lv_iadd hx hb dL_law_854 ?_
  refine lv_topi (fun v_6 e_6 => ?_)
  obtain rfl : v_6 = 1 := by rw [e_6]; decide
  refine va_sld hx hb hX hbl hbA hS (i := 1) (vp_in_nI (n := 1) (by decide) (by decide)) dL_law_855 ?_
  refine lv_topi (fun v_7 e_7 => ?_)
  obtain rfl : v_7 = xs 1 := by rw [e_7]; exact congrArg xs (by decide)
  refine lv_aload_n hx hb dL_law_856 rfl (lv_at hl 0 rfl) ?_
  refine lv_iload hx hb dL_law_857 (lv_at hl 4 rfl) ?_
  refine lv_iconst (v := 2) hx hb dL_law_859 (by decide) ?_
  refine lv_iadd hx hb dL_law_860 ?_
  refine lv_topi (fun v_8 e_8 => ?_)
  obtain rfl : v_8 = 2 := by rw [e_8]; decide
  refine va_sld hx hb hX hbl hbA hS (i := 2) (vp_in_nI (n := 2) (by decide) (by decide)) dL_law_861 ?_
  refine lv_topi (fun v_9 e_9 => ?_)
  obtain rfl : v_9 = xs 2 := by rw [e_9]; exact congrArg xs (by decide)
  have hPc := hP.sub (ws' := [((r 100), .inr (12, mF r 0 0 0 0 0 0 0 0 0 0 0 0 0 (-1) 1))]) [0] rfl
  have hDc := hD.sub (ws' := [((r 100), .inr (12, mF r 0 0 0 0 0 0 0 0 0 0 0 0 0 (-1) 1))]) [0] (by decide) rfl
  have hKc := hK.sub (tys' := []) [] rfl
  have hFc := va_free (wc := [((r 100), .inr (12, mF r 0 0 0 0 0 0 0 0 0 0 0 0 0 (-1) 1))]) hD hS hA [0] rfl
  refine va_calli (va_runV (As := [.int (xs 1), .int (xs 2)]) (rest := [.int (-1)]) ⟨hx, hb, hml, hown, hts⟩ (f_X12_walk l dC dI H.size r ((xs 1)) ((xs 2))) (cwV 2 hts g_f_L_law_f_X12_walk rfl rfl rfl (by decide +kernel) ⟨Nat.le_of_ble_eq_true rfl, Nat.le_of_ble_eq_true rfl⟩) ⟨cW_blind, va_recv hKc hPc (ci := 12) (q0 := 0) rfl rfl, fun U hU hW => ⟨rfl, cW_use hU hW hPc hKc hDc hG⟩⟩ rfl rfl hl.1 rfl (lv_room (Nat.le_of_ble_eq_true rfl)) dL_law_862 ⟨Nat.le_of_ble_eq_true rfl, Nat.le_of_ble_eq_true rfl⟩) hS (fun q _ h => hFc q h) hFc (fun r_10 u t H1 locs ht hvm hw hB hz1 hk1 hS => ?_)
  obtain ⟨hP, hD⟩ := va_join (wr := [((r 1), .inl (kT, 240, .inl fT)), ((r 18), .inl (kU, 2, .inl (fun _ => 0))), ((r 24), .inl (kL, 5, .inl (fun _ => 0))), ((r 32), .inl (kN, 208, .inl (fun _ => 0)))]) (w1 := []) hP hD [0] [1, 2, 3, 4] rfl rfl (by decide) (by decide) hk1 hFc (va_P_nil H1) va_D_nil
  generalize H1 = H at hP hS ⊢
  have hP : va_P (dC, dI) vwCl [((r 1), .inl (kT, 240, .inl fT)), ((r 18), .inl (kU, 2, .inl (fun _ => 0))), ((r 24), .inl (kL, 5, .inl (fun _ => 0))), ((r 32), .inl (kN, 208, .inl (fun _ => 0)))] H := hP
  have hD : va_D (fun q : Nat => s.heap.size ≤ q) [((r 1), .inl (kT, 240, .inl fT)), ((r 18), .inl (kU, 2, .inl (fun _ => 0))), ((r 24), .inl (kL, 5, .inl (fun _ => 0))), ((r 32), .inl (kN, 208, .inl (fun _ => 0)))] := hD
  refine W.widen (k := 335) (n := 33214) (Nat.le_of_ble_eq_true rfl) (Nat.le_of_ble_eq_true rfl) ?_
  obtain rfl : r_10 = (-1) := hw
  refine lv_icmp_eq (tgt := 1629) hx hb dL_law_865 (by decide) (fun c_11 => ?_) (fun c_11 => absurd (by decide) c_11)
  exact lc_exit C0 hS (by decide) (by decide) ls (lv_sub hl [0, 4] rfl)
set_option maxHeartbeats 4000000 in
set_option maxRecDepth 100000 in
theorem lc_19 {p : Program} {l : Launch} {e : Env} {s : State} {m : MethodId} {below : List Frame} {meth : Method} {c : Code} {b : Nat} {xs : Nat → Int32} {H : Heap} {locs : List Loc} {ls : Array Slot} {dC : Nat → ClassId} {dI : Nat → Nat → Nat} {sk sv : Nat → Nat} {s2 tz s3 : Nat} (q r : Nat → Nat) (kB : ClassId) (kR : ClassId) (kT : ClassId) (kU : ClassId) (kL : ClassId) (kN : ClassId) (fB fT : Nat → Int32) (qo : Nat) (hlt : l.stackTraces = false) (C0 : lw_At p s m meth c b 6 xs) (hG : gxP s) (hE : exP sk sv s2 tz (fun q : Nat => s.heap.size ≤ q) s s.heap) (hT : tP s3 (fun q : Nat => s.heap.size ≤ q) s s.heap) (hK : va_K (dC, dI) vwCl [(kB, .int), (kR, .int), (kT, .byte), (kU, .int), (kL, .int), (kN, .int)] s) (hP : va_P (dC, dI) vwCl (fwL q r kB kR kT kU kL kN fB fT) H) (hD : va_D (fun q : Nat => s.heap.size ≤ q) (fwL q r kB kR kT kU kL kN fB fT)) (hS : va_S (fun q : Nat => s.heap.size ≤ q) s.heap H locs) (hl : lv_has ls 7 [(0, .ref b), (1, .ref (q 15)), (2, .ref (r 100)), (3, .ref qo), (4, .int 0)]) : W p l e room_1 s m #[Value.ref b] below meth c H locs 335 33214 (lw_Z below #[Value.ref b] s) (F0 m 870 ls []) := by
  obtain ⟨hx, hb, hr, hml, hown0, hts, hX, hbl, hlocks, hgv⟩ := id C0
  have hown : s.vm.findClass RL = some m.cls := hown0
  have hA : ∀ q : Nat, s.heap.size ≤ q → (fun q : Nat => s.heap.size ≤ q) q := fun _ h => h
  have hbA : ¬ (fun q : Nat => s.heap.size ≤ q) b := Nat.not_le.mpr hbl
  have hiX11 : ∀ w ∈ u_ws RX11 TX11 17, w ∈ lw_tbl := in_X11
  have hiX12 : ∀ w ∈ u_ws RX12 TX12 54, w ∈ lw_tbl := in_X12
  refine lv_aload_n hx hb dL_law_870 rfl (lv_at hl 1 rfl) ?_
  refine lv_aload_n hx hb dL_law_871 rfl (lv_at hl 0 rfl) ?_
  refine lv_iload hx hb dL_law_872 (lv_at hl 4 rfl) ?_
  refine lv_iconst (v := 1) hx hb dL_law_874 (by decide) ?_
  refine lv_iadd hx hb dL_law_875 ?_
  refine lv_topi (fun v_1 e_1 => ?_)
  obtain rfl : v_1 = 1 := by rw [e_1]; decide
  refine va_sld hx hb hX hbl hbA hS (i := 1) (vp_in_nI (n := 1) (by decide) (by decide)) dL_law_876 ?_
  refine lv_topi (fun v_2 e_2 => ?_)
  obtain rfl : v_2 = xs 1 := by rw [e_2]; exact congrArg xs (by decide)
  refine lv_aload_n hx hb dL_law_877 rfl (lv_at hl 0 rfl) ?_
  refine lv_iload hx hb dL_law_878 (lv_at hl 4 rfl) ?_
  refine lv_iconst (v := 2) hx hb dL_law_880 (by decide) ?_
  refine lv_iadd hx hb dL_law_881 ?_
  refine lv_topi (fun v_3 e_3 => ?_)
  obtain rfl : v_3 = 2 := by rw [e_3]; decide
  refine va_sld hx hb hX hbl hbA hS (i := 2) (vp_in_nI (n := 2) (by decide) (by decide)) dL_law_882 ?_
  refine lv_topi (fun v_4 e_4 => ?_)
  obtain rfl : v_4 = xs 2 := by rw [e_4]; exact congrArg xs (by decide)
  have hPc := hP.sub (ws' := [((q 15), .inr (11, xF q 0 1)), ((q 1), .inr (5, [.int 0, .int 0, .int 0, .int 0, .ref (q 20), .ref (q 21), .ref (q 22), .ref (q 23)]))]) [0, 3] rfl
  have hDc := hD.sub (ws' := [((q 15), .inr (11, xF q 0 1)), ((q 1), .inr (5, [.int 0, .int 0, .int 0, .int 0, .ref (q 20), .ref (q 21), .ref (q 22), .ref (q 23)]))]) [0, 3] (by decide) rfl
  have hKc := hK.sub (tys' := []) [] rfl
  have hFc := va_free (wc := [((q 15), .inr (11, xF q 0 1)), ((q 1), .inr (5, [.int 0, .int 0, .int 0, .int 0, .ref (q 20), .ref (q 21), .ref (q 22), .ref (q 23)]))]) hD hS hA [0, 3] rfl
  refine va_calli (va_runV (As := [.int (xs 1), .int (xs 2)]) (rest := []) ⟨hx, hb, hml, hown, hts⟩ (f_X11_check l dC dI H.size q ((xs 1)) ((xs 2))) (cwV 2 hts g_f_L_law_f_X11_check rfl rfl rfl (by decide +kernel) ⟨Nat.le_of_ble_eq_true rfl, Nat.le_of_ble_eq_true rfl⟩) ⟨cW_blind, va_recv hKc hPc (ci := 11) (q0 := 0) rfl rfl, fun U hU hW => ⟨rfl, cW_use hU hW hPc hKc hDc hG⟩⟩ rfl rfl hl.1 rfl (lv_room (Nat.le_of_ble_eq_true rfl)) dL_law_883 ⟨Nat.le_of_ble_eq_true rfl, Nat.le_of_ble_eq_true rfl⟩) hS (fun q _ h => hFc q h) hFc (fun r_5 u t H1 locs ht hvm hw hB hz1 hk1 hS => ?_)
  obtain ⟨hP, hD⟩ := va_join (wr := [((r 100), .inr (12, mF r 0 0 0 0 0 0 0 0 0 0 0 0 0 (-1) 1)), ((r 1), .inl (kT, 240, .inl fT)), ((r 18), .inl (kU, 2, .inl (fun _ => 0))), ((r 24), .inl (kL, 5, .inl (fun _ => 0))), ((r 32), .inl (kN, 208, .inl (fun _ => 0)))]) (w1 := []) hP hD [0, 3] [12, 13, 14, 15, 16] rfl rfl (by decide) (by decide) hk1 hFc (va_P_nil H1) va_D_nil
  generalize H1 = H at hP hS ⊢
  have hP : va_P (dC, dI) vwCl [((r 100), .inr (12, mF r 0 0 0 0 0 0 0 0 0 0 0 0 0 (-1) 1)), ((r 1), .inl (kT, 240, .inl fT)), ((r 18), .inl (kU, 2, .inl (fun _ => 0))), ((r 24), .inl (kL, 5, .inl (fun _ => 0))), ((r 32), .inl (kN, 208, .inl (fun _ => 0)))] H := hP
  have hD : va_D (fun q : Nat => s.heap.size ≤ q) [((r 100), .inr (12, mF r 0 0 0 0 0 0 0 0 0 0 0 0 0 (-1) 1)), ((r 1), .inl (kT, 240, .inl fT)), ((r 18), .inl (kU, 2, .inl (fun _ => 0))), ((r 24), .inl (kL, 5, .inl (fun _ => 0))), ((r 32), .inl (kN, 208, .inl (fun _ => 0)))] := hD
  refine W.widen (k := 335) (n := 33214) (Nat.le_of_ble_eq_true rfl) (Nat.le_of_ble_eq_true rfl) ?_
  obtain rfl : r_5 = (-1000000) := hw
  refine lv_aload_n hx hb dL_law_886 rfl (lv_at hl 2 rfl) ?_
  refine lv_aload_n hx hb dL_law_887 rfl (lv_at hl 0 rfl) ?_
  refine lv_iload hx hb dL_law_888 (lv_at hl 4 rfl) ?_
  refine lv_iconst (v := 1) hx hb dL_law_890 (by decide) ?_
  refine lv_iadd hx hb dL_law_891 ?_
  refine lv_topi (fun v_6 e_6 => ?_)
  obtain rfl : v_6 = 1 := by rw [e_6]; decide
  refine va_sld hx hb hX hbl hbA hS (i := 1) (vp_in_nI (n := 1) (by decide) (by decide)) dL_law_892 ?_
  refine lv_topi (fun v_7 e_7 => ?_)
  obtain rfl : v_7 = xs 1 := by rw [e_7]; exact congrArg xs (by decide)
  refine lv_aload_n hx hb dL_law_893 rfl (lv_at hl 0 rfl) ?_
  refine lv_iload hx hb dL_law_894 (lv_at hl 4 rfl) ?_
  refine lv_iconst (v := 2) hx hb dL_law_896 (by decide) ?_
  refine lv_iadd hx hb dL_law_897 ?_
  refine lv_topi (fun v_8 e_8 => ?_)
  obtain rfl : v_8 = 2 := by rw [e_8]; decide
  refine va_sld hx hb hX hbl hbA hS (i := 2) (vp_in_nI (n := 2) (by decide) (by decide)) dL_law_898 ?_
  refine lv_topi (fun v_9 e_9 => ?_)
  obtain rfl : v_9 = xs 2 := by rw [e_9]; exact congrArg xs (by decide)
  have hPc := hP.sub (ws' := [((r 100), .inr (12, mF r 0 0 0 0 0 0 0 0 0 0 0 0 0 (-1) 1))]) [0] rfl
  have hDc := hD.sub (ws' := [((r 100), .inr (12, mF r 0 0 0 0 0 0 0 0 0 0 0 0 0 (-1) 1))]) [0] (by decide) rfl
  have hKc := hK.sub (tys' := []) [] rfl
  have hFc := va_free (wc := [((r 100), .inr (12, mF r 0 0 0 0 0 0 0 0 0 0 0 0 0 (-1) 1))]) hD hS hA [0] rfl
  refine va_calli (va_runV (As := [.int (xs 1), .int (xs 2)]) (rest := [.int (-1000000)]) ⟨hx, hb, hml, hown, hts⟩ (f_X12_check l dC dI H.size r ((xs 1)) ((xs 2))) (cwV 2 hts g_f_L_law_f_X12_check rfl rfl rfl (by decide +kernel) ⟨Nat.le_of_ble_eq_true rfl, Nat.le_of_ble_eq_true rfl⟩) ⟨cW_blind, va_recv hKc hPc (ci := 12) (q0 := 0) rfl rfl, fun U hU hW => ⟨rfl, cW_use hU hW hPc hKc hDc hG⟩⟩ rfl rfl hl.1 rfl (lv_room (Nat.le_of_ble_eq_true rfl)) dL_law_899 ⟨Nat.le_of_ble_eq_true rfl, Nat.le_of_ble_eq_true rfl⟩) hS (fun q _ h => hFc q h) hFc (fun r_10 u t H1 locs ht hvm hw hB hz1 hk1 hS => ?_)
  obtain ⟨hP, hD⟩ := va_join (wr := [((r 1), .inl (kT, 240, .inl fT)), ((r 18), .inl (kU, 2, .inl (fun _ => 0))), ((r 24), .inl (kL, 5, .inl (fun _ => 0))), ((r 32), .inl (kN, 208, .inl (fun _ => 0)))]) (w1 := []) hP hD [0] [1, 2, 3, 4] rfl rfl (by decide) (by decide) hk1 hFc (va_P_nil H1) va_D_nil
  generalize H1 = H at hP hS ⊢
  have hP : va_P (dC, dI) vwCl [((r 1), .inl (kT, 240, .inl fT)), ((r 18), .inl (kU, 2, .inl (fun _ => 0))), ((r 24), .inl (kL, 5, .inl (fun _ => 0))), ((r 32), .inl (kN, 208, .inl (fun _ => 0)))] H := hP
  have hD : va_D (fun q : Nat => s.heap.size ≤ q) [((r 1), .inl (kT, 240, .inl fT)), ((r 18), .inl (kU, 2, .inl (fun _ => 0))), ((r 24), .inl (kL, 5, .inl (fun _ => 0))), ((r 32), .inl (kN, 208, .inl (fun _ => 0)))] := hD
  refine W.widen (k := 335) (n := 33214) (Nat.le_of_ble_eq_true rfl) (Nat.le_of_ble_eq_true rfl) ?_
  obtain rfl : r_10 = (-1000000) := hw
  refine lv_icmp_eq (tgt := 1629) hx hb dL_law_902 (by decide) (fun c_11 => ?_) (fun c_11 => absurd (by decide) c_11)
  exact lc_exit C0 hS (by decide) (by decide) ls (lv_sub hl [0, 4] rfl)
set_option maxHeartbeats 4000000 in
set_option maxRecDepth 100000 in
theorem lc_20 {p : Program} {l : Launch} {e : Env} {s : State} {m : MethodId} {below : List Frame} {meth : Method} {c : Code} {b : Nat} {xs : Nat → Int32} {H : Heap} {locs : List Loc} {ls : Array Slot} {dC : Nat → ClassId} {dI : Nat → Nat → Nat} {sk sv : Nat → Nat} {s2 tz s3 : Nat} (q r : Nat → Nat) (kB : ClassId) (kR : ClassId) (kT : ClassId) (kU : ClassId) (kL : ClassId) (kN : ClassId) (fB fT : Nat → Int32) (qo : Nat) (hlt : l.stackTraces = false) (C0 : lw_At p s m meth c b 6 xs) (hG : gxP s) (hE : exP sk sv s2 tz (fun q : Nat => s.heap.size ≤ q) s s.heap) (hT : tP s3 (fun q : Nat => s.heap.size ≤ q) s s.heap) (hK : va_K (dC, dI) vwCl [(kB, .int), (kR, .int), (kT, .byte), (kU, .int), (kL, .int), (kN, .int)] s) (hP : va_P (dC, dI) vwCl (fwL q r kB kR kT kU kL kN fB fT) H) (hD : va_D (fun q : Nat => s.heap.size ≤ q) (fwL q r kB kR kT kU kL kN fB fT)) (hS : va_S (fun q : Nat => s.heap.size ≤ q) s.heap H locs) (hl : lv_has ls 7 [(0, .ref b), (1, .ref (q 15)), (2, .ref (r 100)), (3, .ref qo), (4, .int 0)]) : W p l e room_1 s m #[Value.ref b] below meth c H locs 335 33214 (lw_Z below #[Value.ref b] s) (F0 m 907 ls []) := by
  obtain ⟨hx, hb, hr, hml, hown0, hts, hX, hbl, hlocks, hgv⟩ := id C0
  have hown : s.vm.findClass RL = some m.cls := hown0
  have hA : ∀ q : Nat, s.heap.size ≤ q → (fun q : Nat => s.heap.size ≤ q) q := fun _ h => h
  have hbA : ¬ (fun q : Nat => s.heap.size ≤ q) b := Nat.not_le.mpr hbl
  have hiX11 : ∀ w ∈ u_ws RX11 TX11 17, w ∈ lw_tbl := in_X11
  have hiX12 : ∀ w ∈ u_ws RX12 TX12 54, w ∈ lw_tbl := in_X12
  refine lv_aload_n hx hb dL_law_907 rfl (lv_at hl 1 rfl) ?_
  refine lv_aload_n hx hb dL_law_908 rfl (lv_at hl 0 rfl) ?_
  refine lv_iload hx hb dL_law_909 (lv_at hl 4 rfl) ?_
  refine lv_iconst (v := 1) hx hb dL_law_911 (by decide) ?_
  refine lv_iadd hx hb dL_law_912 ?_
  refine lv_topi (fun v_1 e_1 => ?_)
  obtain rfl : v_1 = 1 := by rw [e_1]; decide
  refine va_sld hx hb hX hbl hbA hS (i := 1) (vp_in_nI (n := 1) (by decide) (by decide)) dL_law_913 ?_
  refine lv_topi (fun v_2 e_2 => ?_)
  obtain rfl : v_2 = xs 1 := by rw [e_2]; exact congrArg xs (by decide)
  refine lv_aload_n hx hb dL_law_914 rfl (lv_at hl 0 rfl) ?_
  refine lv_iload hx hb dL_law_915 (lv_at hl 4 rfl) ?_
  refine lv_iconst (v := 2) hx hb dL_law_917 (by decide) ?_
  refine lv_iadd hx hb dL_law_918 ?_
  refine lv_topi (fun v_3 e_3 => ?_)
  obtain rfl : v_3 = 2 := by rw [e_3]; decide
  refine va_sld hx hb hX hbl hbA hS (i := 2) (vp_in_nI (n := 2) (by decide) (by decide)) dL_law_919 ?_
  refine lv_topi (fun v_4 e_4 => ?_)
  obtain rfl : v_4 = xs 2 := by rw [e_4]; exact congrArg xs (by decide)
  have hPc := hP.sub (ws' := [((q 15), .inr (11, xF q 0 1)), ((q 1), .inr (5, [.int 0, .int 0, .int 0, .int 0, .ref (q 20), .ref (q 21), .ref (q 22), .ref (q 23)]))]) [0, 3] rfl
  have hDc := hD.sub (ws' := [((q 15), .inr (11, xF q 0 1)), ((q 1), .inr (5, [.int 0, .int 0, .int 0, .int 0, .ref (q 20), .ref (q 21), .ref (q 22), .ref (q 23)]))]) [0, 3] (by decide) rfl
  have hKc := hK.sub (tys' := []) [] rfl
  have hFc := va_free (wc := [((q 15), .inr (11, xF q 0 1)), ((q 1), .inr (5, [.int 0, .int 0, .int 0, .int 0, .ref (q 20), .ref (q 21), .ref (q 22), .ref (q 23)]))]) hD hS hA [0, 3] rfl
  refine va_calli (va_runV (As := [.int (xs 1), .int (xs 2)]) (rest := []) ⟨hx, hb, hml, hown, hts⟩ (f_X11_far l dC dI H.size q ((xs 1)) ((xs 2))) (cwV 2 hts g_f_L_law_f_X11_far rfl rfl rfl (by decide +kernel) ⟨Nat.le_of_ble_eq_true rfl, Nat.le_of_ble_eq_true rfl⟩) ⟨cW_blind, va_recv hKc hPc (ci := 11) (q0 := 0) rfl rfl, fun U hU hW => ⟨rfl, cW_use hU hW hPc hKc hDc hG⟩⟩ rfl rfl hl.1 rfl (lv_room (Nat.le_of_ble_eq_true rfl)) dL_law_920 ⟨Nat.le_of_ble_eq_true rfl, Nat.le_of_ble_eq_true rfl⟩) hS (fun q _ h => hFc q h) hFc (fun r_5 u t H1 locs ht hvm hw hB hz1 hk1 hS => ?_)
  obtain ⟨hP, hD⟩ := va_join (wr := [((r 100), .inr (12, mF r 0 0 0 0 0 0 0 0 0 0 0 0 0 (-1) 1)), ((r 1), .inl (kT, 240, .inl fT)), ((r 18), .inl (kU, 2, .inl (fun _ => 0))), ((r 24), .inl (kL, 5, .inl (fun _ => 0))), ((r 32), .inl (kN, 208, .inl (fun _ => 0)))]) (w1 := []) hP hD [0, 3] [12, 13, 14, 15, 16] rfl rfl (by decide) (by decide) hk1 hFc (va_P_nil H1) va_D_nil
  generalize H1 = H at hP hS ⊢
  have hP : va_P (dC, dI) vwCl [((r 100), .inr (12, mF r 0 0 0 0 0 0 0 0 0 0 0 0 0 (-1) 1)), ((r 1), .inl (kT, 240, .inl fT)), ((r 18), .inl (kU, 2, .inl (fun _ => 0))), ((r 24), .inl (kL, 5, .inl (fun _ => 0))), ((r 32), .inl (kN, 208, .inl (fun _ => 0)))] H := hP
  have hD : va_D (fun q : Nat => s.heap.size ≤ q) [((r 100), .inr (12, mF r 0 0 0 0 0 0 0 0 0 0 0 0 0 (-1) 1)), ((r 1), .inl (kT, 240, .inl fT)), ((r 18), .inl (kU, 2, .inl (fun _ => 0))), ((r 24), .inl (kL, 5, .inl (fun _ => 0))), ((r 32), .inl (kN, 208, .inl (fun _ => 0)))] := hD
  refine W.widen (k := 335) (n := 33214) (Nat.le_of_ble_eq_true rfl) (Nat.le_of_ble_eq_true rfl) ?_
  obtain rfl : r_5 = (-1) := hw
  refine lv_aload_n hx hb dL_law_923 rfl (lv_at hl 2 rfl) ?_
  refine lv_aload_n hx hb dL_law_924 rfl (lv_at hl 0 rfl) ?_
  refine lv_iload hx hb dL_law_925 (lv_at hl 4 rfl) ?_
  refine lv_iconst (v := 1) hx hb dL_law_927 (by decide) ?_
  refine lv_iadd hx hb dL_law_928 ?_
  refine lv_topi (fun v_6 e_6 => ?_)
  obtain rfl : v_6 = 1 := by rw [e_6]; decide
  refine va_sld hx hb hX hbl hbA hS (i := 1) (vp_in_nI (n := 1) (by decide) (by decide)) dL_law_929 ?_
  refine lv_topi (fun v_7 e_7 => ?_)
  obtain rfl : v_7 = xs 1 := by rw [e_7]; exact congrArg xs (by decide)
  refine lv_aload_n hx hb dL_law_930 rfl (lv_at hl 0 rfl) ?_
  refine lv_iload hx hb dL_law_931 (lv_at hl 4 rfl) ?_
  refine lv_iconst (v := 2) hx hb dL_law_933 (by decide) ?_
  refine lv_iadd hx hb dL_law_934 ?_
  refine lv_topi (fun v_8 e_8 => ?_)
  obtain rfl : v_8 = 2 := by rw [e_8]; decide
  refine va_sld hx hb hX hbl hbA hS (i := 2) (vp_in_nI (n := 2) (by decide) (by decide)) dL_law_935 ?_
  refine lv_topi (fun v_9 e_9 => ?_)
  obtain rfl : v_9 = xs 2 := by rw [e_9]; exact congrArg xs (by decide)
  have hPc := hP.sub (ws' := [((r 100), .inr (12, mF r 0 0 0 0 0 0 0 0 0 0 0 0 0 (-1) 1))]) [0] rfl
  have hDc := hD.sub (ws' := [((r 100), .inr (12, mF r 0 0 0 0 0 0 0 0 0 0 0 0 0 (-1) 1))]) [0] (by decide) rfl
  have hKc := hK.sub (tys' := []) [] rfl
  have hFc := va_free (wc := [((r 100), .inr (12, mF r 0 0 0 0 0 0 0 0 0 0 0 0 0 (-1) 1))]) hD hS hA [0] rfl
  refine va_calli (va_runV (As := [.int (xs 1), .int (xs 2)]) (rest := [.int (-1)]) ⟨hx, hb, hml, hown, hts⟩ (f_X12_far l dC dI H.size r ((xs 1)) ((xs 2))) (cwV 2 hts g_f_L_law_f_X12_far rfl rfl rfl (by decide +kernel) ⟨Nat.le_of_ble_eq_true rfl, Nat.le_of_ble_eq_true rfl⟩) ⟨cW_blind, va_recv hKc hPc (ci := 12) (q0 := 0) rfl rfl, fun U hU hW => ⟨rfl, cW_use hU hW hPc hKc hDc hG⟩⟩ rfl rfl hl.1 rfl (lv_room (Nat.le_of_ble_eq_true rfl)) dL_law_936 ⟨Nat.le_of_ble_eq_true rfl, Nat.le_of_ble_eq_true rfl⟩) hS (fun q _ h => hFc q h) hFc (fun r_10 u t H1 locs ht hvm hw hB hz1 hk1 hS => ?_)
  obtain ⟨hP, hD⟩ := va_join (wr := [((r 1), .inl (kT, 240, .inl fT)), ((r 18), .inl (kU, 2, .inl (fun _ => 0))), ((r 24), .inl (kL, 5, .inl (fun _ => 0))), ((r 32), .inl (kN, 208, .inl (fun _ => 0)))]) (w1 := []) hP hD [0] [1, 2, 3, 4] rfl rfl (by decide) (by decide) hk1 hFc (va_P_nil H1) va_D_nil
  generalize H1 = H at hP hS ⊢
  have hP : va_P (dC, dI) vwCl [((r 1), .inl (kT, 240, .inl fT)), ((r 18), .inl (kU, 2, .inl (fun _ => 0))), ((r 24), .inl (kL, 5, .inl (fun _ => 0))), ((r 32), .inl (kN, 208, .inl (fun _ => 0)))] H := hP
  have hD : va_D (fun q : Nat => s.heap.size ≤ q) [((r 1), .inl (kT, 240, .inl fT)), ((r 18), .inl (kU, 2, .inl (fun _ => 0))), ((r 24), .inl (kL, 5, .inl (fun _ => 0))), ((r 32), .inl (kN, 208, .inl (fun _ => 0)))] := hD
  refine W.widen (k := 335) (n := 33214) (Nat.le_of_ble_eq_true rfl) (Nat.le_of_ble_eq_true rfl) ?_
  obtain rfl : r_10 = (-1) := hw
  refine lv_icmp_eq (tgt := 1629) hx hb dL_law_939 (by decide) (fun c_11 => ?_) (fun c_11 => absurd (by decide) c_11)
  exact lc_exit C0 hS (by decide) (by decide) ls (lv_sub hl [0, 4] rfl)
set_option maxHeartbeats 4000000 in
set_option maxRecDepth 100000 in
theorem lc_21 {p : Program} {l : Launch} {e : Env} {s : State} {m : MethodId} {below : List Frame} {meth : Method} {c : Code} {b : Nat} {xs : Nat → Int32} {H : Heap} {locs : List Loc} {ls : Array Slot} {dC : Nat → ClassId} {dI : Nat → Nat → Nat} {sk sv : Nat → Nat} {s2 tz s3 : Nat} (q r : Nat → Nat) (kB : ClassId) (kR : ClassId) (kT : ClassId) (kU : ClassId) (kL : ClassId) (kN : ClassId) (fB fT : Nat → Int32) (qo : Nat) (hlt : l.stackTraces = false) (C0 : lw_At p s m meth c b 6 xs) (hG : gxP s) (hE : exP sk sv s2 tz (fun q : Nat => s.heap.size ≤ q) s s.heap) (hT : tP s3 (fun q : Nat => s.heap.size ≤ q) s s.heap) (hK : va_K (dC, dI) vwCl [(kB, .int), (kR, .int), (kT, .byte), (kU, .int), (kL, .int), (kN, .int)] s) (hP : va_P (dC, dI) vwCl (fwL q r kB kR kT kU kL kN fB fT) H) (hD : va_D (fun q : Nat => s.heap.size ≤ q) (fwL q r kB kR kT kU kL kN fB fT)) (hS : va_S (fun q : Nat => s.heap.size ≤ q) s.heap H locs) (hl : lv_has ls 7 [(0, .ref b), (1, .ref (q 15)), (2, .ref (r 100)), (3, .ref qo), (4, .int 0)]) : W p l e room_1 s m #[Value.ref b] below meth c H locs 335 33214 (lw_Z below #[Value.ref b] s) (F0 m 944 ls []) := by
  obtain ⟨hx, hb, hr, hml, hown0, hts, hX, hbl, hlocks, hgv⟩ := id C0
  have hown : s.vm.findClass RL = some m.cls := hown0
  have hA : ∀ q : Nat, s.heap.size ≤ q → (fun q : Nat => s.heap.size ≤ q) q := fun _ h => h
  have hbA : ¬ (fun q : Nat => s.heap.size ≤ q) b := Nat.not_le.mpr hbl
  have hiX11 : ∀ w ∈ u_ws RX11 TX11 17, w ∈ lw_tbl := in_X11
  have hiX12 : ∀ w ∈ u_ws RX12 TX12 54, w ∈ lw_tbl := in_X12
  refine lv_aload_n hx hb dL_law_944 rfl (lv_at hl 1 rfl) ?_
  refine lv_aload_n hx hb dL_law_945 rfl (lv_at hl 0 rfl) ?_
  refine lv_iload hx hb dL_law_946 (lv_at hl 4 rfl) ?_
  refine lv_iconst (v := 1) hx hb dL_law_948 (by decide) ?_
  refine lv_iadd hx hb dL_law_949 ?_
  refine lv_topi (fun v_1 e_1 => ?_)
  obtain rfl : v_1 = 1 := by rw [e_1]; decide
  refine va_sld hx hb hX hbl hbA hS (i := 1) (vp_in_nI (n := 1) (by decide) (by decide)) dL_law_950 ?_
  refine lv_topi (fun v_2 e_2 => ?_)
  obtain rfl : v_2 = xs 1 := by rw [e_2]; exact congrArg xs (by decide)
  refine lv_aload_n hx hb dL_law_951 rfl (lv_at hl 0 rfl) ?_
  refine lv_iload hx hb dL_law_952 (lv_at hl 4 rfl) ?_
  refine lv_iconst (v := 2) hx hb dL_law_954 (by decide) ?_
  refine lv_iadd hx hb dL_law_955 ?_
  refine lv_topi (fun v_3 e_3 => ?_)
  obtain rfl : v_3 = 2 := by rw [e_3]; decide
  refine va_sld hx hb hX hbl hbA hS (i := 2) (vp_in_nI (n := 2) (by decide) (by decide)) dL_law_956 ?_
  refine lv_topi (fun v_4 e_4 => ?_)
  obtain rfl : v_4 = xs 2 := by rw [e_4]; exact congrArg xs (by decide)
  have hPc := hP.sub (ws' := [((q 15), .inr (11, xF q 0 1)), ((q 1), .inr (5, [.int 0, .int 0, .int 0, .int 0, .ref (q 20), .ref (q 21), .ref (q 22), .ref (q 23)]))]) [0, 3] rfl
  have hDc := hD.sub (ws' := [((q 15), .inr (11, xF q 0 1)), ((q 1), .inr (5, [.int 0, .int 0, .int 0, .int 0, .ref (q 20), .ref (q 21), .ref (q 22), .ref (q 23)]))]) [0, 3] (by decide) rfl
  have hKc := hK.sub (tys' := []) [] rfl
  have hFc := va_free (wc := [((q 15), .inr (11, xF q 0 1)), ((q 1), .inr (5, [.int 0, .int 0, .int 0, .int 0, .ref (q 20), .ref (q 21), .ref (q 22), .ref (q 23)]))]) hD hS hA [0, 3] rfl
  refine va_calli (va_runV (As := [.int (xs 1), .int (xs 2)]) (rest := []) ⟨hx, hb, hml, hown, hts⟩ (f_X11_way l dC dI H.size q ((xs 1)) ((xs 2))) (cwV 2 hts g_f_L_law_f_X11_way rfl rfl rfl (by decide +kernel) ⟨Nat.le_of_ble_eq_true rfl, Nat.le_of_ble_eq_true rfl⟩) ⟨cW_blind, va_recv hKc hPc (ci := 11) (q0 := 0) rfl rfl, fun U hU hW => ⟨rfl, cW_use hU hW hPc hKc hDc hG⟩⟩ rfl rfl hl.1 rfl (lv_room (Nat.le_of_ble_eq_true rfl)) dL_law_957 ⟨Nat.le_of_ble_eq_true rfl, Nat.le_of_ble_eq_true rfl⟩) hS (fun q _ h => hFc q h) hFc (fun r_5 u t H1 locs ht hvm hw hB hz1 hk1 hS => ?_)
  obtain ⟨hP, hD⟩ := va_join (wr := [((r 100), .inr (12, mF r 0 0 0 0 0 0 0 0 0 0 0 0 0 (-1) 1)), ((r 1), .inl (kT, 240, .inl fT)), ((r 18), .inl (kU, 2, .inl (fun _ => 0))), ((r 24), .inl (kL, 5, .inl (fun _ => 0))), ((r 32), .inl (kN, 208, .inl (fun _ => 0)))]) (w1 := []) hP hD [0, 3] [12, 13, 14, 15, 16] rfl rfl (by decide) (by decide) hk1 hFc (va_P_nil H1) va_D_nil
  generalize H1 = H at hP hS ⊢
  have hP : va_P (dC, dI) vwCl [((r 100), .inr (12, mF r 0 0 0 0 0 0 0 0 0 0 0 0 0 (-1) 1)), ((r 1), .inl (kT, 240, .inl fT)), ((r 18), .inl (kU, 2, .inl (fun _ => 0))), ((r 24), .inl (kL, 5, .inl (fun _ => 0))), ((r 32), .inl (kN, 208, .inl (fun _ => 0)))] H := hP
  have hD : va_D (fun q : Nat => s.heap.size ≤ q) [((r 100), .inr (12, mF r 0 0 0 0 0 0 0 0 0 0 0 0 0 (-1) 1)), ((r 1), .inl (kT, 240, .inl fT)), ((r 18), .inl (kU, 2, .inl (fun _ => 0))), ((r 24), .inl (kL, 5, .inl (fun _ => 0))), ((r 32), .inl (kN, 208, .inl (fun _ => 0)))] := hD
  refine W.widen (k := 335) (n := 33214) (Nat.le_of_ble_eq_true rfl) (Nat.le_of_ble_eq_true rfl) ?_
  obtain rfl : r_5 = (-1) := hw
  refine lv_aload_n hx hb dL_law_960 rfl (lv_at hl 2 rfl) ?_
  refine lv_aload_n hx hb dL_law_961 rfl (lv_at hl 0 rfl) ?_
  refine lv_iload hx hb dL_law_962 (lv_at hl 4 rfl) ?_
  refine lv_iconst (v := 1) hx hb dL_law_964 (by decide) ?_
  refine lv_iadd hx hb dL_law_965 ?_
  refine lv_topi (fun v_6 e_6 => ?_)
  obtain rfl : v_6 = 1 := by rw [e_6]; decide
  refine va_sld hx hb hX hbl hbA hS (i := 1) (vp_in_nI (n := 1) (by decide) (by decide)) dL_law_966 ?_
  refine lv_topi (fun v_7 e_7 => ?_)
  obtain rfl : v_7 = xs 1 := by rw [e_7]; exact congrArg xs (by decide)
  refine lv_aload_n hx hb dL_law_967 rfl (lv_at hl 0 rfl) ?_
  refine lv_iload hx hb dL_law_968 (lv_at hl 4 rfl) ?_
  refine lv_iconst (v := 2) hx hb dL_law_970 (by decide) ?_
  refine lv_iadd hx hb dL_law_971 ?_
  refine lv_topi (fun v_8 e_8 => ?_)
  obtain rfl : v_8 = 2 := by rw [e_8]; decide
  refine va_sld hx hb hX hbl hbA hS (i := 2) (vp_in_nI (n := 2) (by decide) (by decide)) dL_law_972 ?_
  refine lv_topi (fun v_9 e_9 => ?_)
  obtain rfl : v_9 = xs 2 := by rw [e_9]; exact congrArg xs (by decide)
  have hPc := hP.sub (ws' := [((r 100), .inr (12, mF r 0 0 0 0 0 0 0 0 0 0 0 0 0 (-1) 1))]) [0] rfl
  have hDc := hD.sub (ws' := [((r 100), .inr (12, mF r 0 0 0 0 0 0 0 0 0 0 0 0 0 (-1) 1))]) [0] (by decide) rfl
  have hKc := hK.sub (tys' := []) [] rfl
  have hFc := va_free (wc := [((r 100), .inr (12, mF r 0 0 0 0 0 0 0 0 0 0 0 0 0 (-1) 1))]) hD hS hA [0] rfl
  refine va_calli (va_runV (As := [.int (xs 1), .int (xs 2)]) (rest := [.int (-1)]) ⟨hx, hb, hml, hown, hts⟩ (f_X12_way l dC dI H.size r ((xs 1)) ((xs 2))) (cwV 2 hts g_f_L_law_f_X12_way rfl rfl rfl (by decide +kernel) ⟨Nat.le_of_ble_eq_true rfl, Nat.le_of_ble_eq_true rfl⟩) ⟨cW_blind, va_recv hKc hPc (ci := 12) (q0 := 0) rfl rfl, fun U hU hW => ⟨rfl, cW_use hU hW hPc hKc hDc hG⟩⟩ rfl rfl hl.1 rfl (lv_room (Nat.le_of_ble_eq_true rfl)) dL_law_973 ⟨Nat.le_of_ble_eq_true rfl, Nat.le_of_ble_eq_true rfl⟩) hS (fun q _ h => hFc q h) hFc (fun r_10 u t H1 locs ht hvm hw hB hz1 hk1 hS => ?_)
  obtain ⟨hP, hD⟩ := va_join (wr := [((r 1), .inl (kT, 240, .inl fT)), ((r 18), .inl (kU, 2, .inl (fun _ => 0))), ((r 24), .inl (kL, 5, .inl (fun _ => 0))), ((r 32), .inl (kN, 208, .inl (fun _ => 0)))]) (w1 := []) hP hD [0] [1, 2, 3, 4] rfl rfl (by decide) (by decide) hk1 hFc (va_P_nil H1) va_D_nil
  generalize H1 = H at hP hS ⊢
  have hP : va_P (dC, dI) vwCl [((r 1), .inl (kT, 240, .inl fT)), ((r 18), .inl (kU, 2, .inl (fun _ => 0))), ((r 24), .inl (kL, 5, .inl (fun _ => 0))), ((r 32), .inl (kN, 208, .inl (fun _ => 0)))] H := hP
  have hD : va_D (fun q : Nat => s.heap.size ≤ q) [((r 1), .inl (kT, 240, .inl fT)), ((r 18), .inl (kU, 2, .inl (fun _ => 0))), ((r 24), .inl (kL, 5, .inl (fun _ => 0))), ((r 32), .inl (kN, 208, .inl (fun _ => 0)))] := hD
  refine W.widen (k := 335) (n := 33214) (Nat.le_of_ble_eq_true rfl) (Nat.le_of_ble_eq_true rfl) ?_
  obtain rfl : r_10 = (-1) := hw
  refine lv_icmp_eq (tgt := 1629) hx hb dL_law_976 (by decide) (fun c_11 => ?_) (fun c_11 => absurd (by decide) c_11)
  exact lc_exit C0 hS (by decide) (by decide) ls (lv_sub hl [0, 4] rfl)
