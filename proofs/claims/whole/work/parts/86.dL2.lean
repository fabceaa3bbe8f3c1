theorem d_L_law_713 : decode code 713 = .ok (.i2l, 1) := by decide +kernel
theorem d_L_law_714 : decode code 714 = .ok (.bipush 32, 2) := by decide +kernel
theorem d_L_law_716 : decode code 716 = .ok (.lshl, 1) := by decide +kernel
theorem d_L_law_717 : decode code 717 = .ok (.aload_n 0, 1) := by decide +kernel
theorem d_L_law_718 : decode code 718 = .ok (.iload_n 3, 1) := by decide +kernel
theorem d_L_law_719 : decode code 719 = .ok (.iconst 3, 1) := by decide +kernel
theorem d_L_law_720 : decode code 720 = .ok (.iadd, 1) := by decide +kernel
theorem d_L_law_721 : decode code 721 = .ok (.iaload, 1) := by decide +kernel
theorem d_L_law_722 : decode code 722 = .ok (.i2l, 1) := by decide +kernel
theorem d_L_law_723 : decode code 723 = .ok (.ldc2_w 18, 3) := by decide +kernel
theorem d_L_law_726 : decode code 726 = .ok (.land, 1) := by decide +kernel
theorem d_L_law_727 : decode code 727 = .ok (.lor, 1) := by decide +kernel
theorem d_L_law_728 : decode code 728 = .ok (.aload_n 0, 1) := by decide +kernel
theorem d_L_law_729 : decode code 729 = .ok (.iload_n 3, 1) := by decide +kernel
theorem d_L_law_730 : decode code 730 = .ok (.iconst 4, 1) := by decide +kernel
theorem d_L_law_731 : decode code 731 = .ok (.iadd, 1) := by decide +kernel
theorem d_L_law_732 : decode code 732 = .ok (.iaload, 1) := by decide +kernel
theorem d_L_law_733 : decode code 733 = .ok (.aload_n 0, 1) := by decide +kernel
theorem d_L_law_734 : decode code 734 = .ok (.iload_n 3, 1) := by decide +kernel
theorem d_L_law_735 : decode code 735 = .ok (.iconst 5, 1) := by decide +kernel
theorem d_L_law_736 : decode code 736 = .ok (.iadd, 1) := by decide +kernel
theorem d_L_law_737 : decode code 737 = .ok (.iaload, 1) := by decide +kernel
theorem d_L_law_738 : decode code 738 = .ok (.invokevirtual 69, 3) := by decide +kernel
theorem d_L_law_741 : decode code 741 = .ok (.if_icmp .eq 236, 3) := by decide +kernel
theorem d_L_law_744 : decode code 744 = .ok (.iconst 0, 1) := by decide +kernel
theorem d_L_law_745 : decode code 745 = .ok (.ireturn, 1) := by decide +kernel
theorem d_L_law_746 : decode code 746 = .ok (.aload_n 1, 1) := by decide +kernel
theorem d_L_law_747 : decode code 747 = .ok (.aload_n 0, 1) := by decide +kernel
theorem d_L_law_748 : decode code 748 = .ok (.iload_n 3, 1) := by decide +kernel
theorem d_L_law_749 : decode code 749 = .ok (.iconst 1, 1) := by decide +kernel
theorem d_L_law_750 : decode code 750 = .ok (.iadd, 1) := by decide +kernel
theorem d_L_law_751 : decode code 751 = .ok (.iaload, 1) := by decide +kernel
theorem d_L_law_752 : decode code 752 = .ok (.aload_n 0, 1) := by decide +kernel
theorem d_L_law_753 : decode code 753 = .ok (.iload_n 3, 1) := by decide +kernel
theorem d_L_law_754 : decode code 754 = .ok (.iconst 2, 1) := by decide +kernel
theorem d_L_law_755 : decode code 755 = .ok (.iadd, 1) := by decide +kernel
theorem d_L_law_756 : decode code 756 = .ok (.iaload, 1) := by decide +kernel
theorem d_L_law_757 : decode code 757 = .ok (.aload_n 0, 1) := by decide +kernel
theorem d_L_law_758 : decode code 758 = .ok (.iload_n 3, 1) := by decide +kernel
theorem d_L_law_759 : decode code 759 = .ok (.iconst 3, 1) := by decide +kernel
theorem d_L_law_760 : decode code 760 = .ok (.iadd, 1) := by decide +kernel
theorem d_L_law_761 : decode code 761 = .ok (.iaload, 1) := by decide +kernel
theorem d_L_law_762 : decode code 762 = .ok (.aload_n 0, 1) := by decide +kernel
theorem d_L_law_763 : decode code 763 = .ok (.iload_n 3, 1) := by decide +kernel
theorem d_L_law_764 : decode code 764 = .ok (.iconst 4, 1) := by decide +kernel
theorem d_L_law_765 : decode code 765 = .ok (.iadd, 1) := by decide +kernel
theorem d_L_law_766 : decode code 766 = .ok (.iaload, 1) := by decide +kernel
theorem d_L_law_767 : decode code 767 = .ok (.i2l, 1) := by decide +kernel
theorem d_L_law_768 : decode code 768 = .ok (.bipush 32, 2) := by decide +kernel
theorem d_L_law_770 : decode code 770 = .ok (.lshl, 1) := by decide +kernel
theorem d_L_law_771 : decode code 771 = .ok (.aload_n 0, 1) := by decide +kernel
theorem d_L_law_772 : decode code 772 = .ok (.iload_n 3, 1) := by decide +kernel
theorem d_L_law_773 : decode code 773 = .ok (.iconst 5, 1) := by decide +kernel
theorem d_L_law_774 : decode code 774 = .ok (.iadd, 1) := by decide +kernel
theorem d_L_law_775 : decode code 775 = .ok (.iaload, 1) := by decide +kernel
theorem d_L_law_776 : decode code 776 = .ok (.i2l, 1) := by decide +kernel
theorem d_L_law_777 : decode code 777 = .ok (.ldc2_w 18, 3) := by decide +kernel
theorem d_L_law_780 : decode code 780 = .ok (.land, 1) := by decide +kernel
theorem d_L_law_781 : decode code 781 = .ok (.lor, 1) := by decide +kernel
theorem d_L_law_782 : decode code 782 = .ok (.invokevirtual 70, 3) := by decide +kernel
theorem d_L_law_785 : decode code 785 = .ok (.aload_n 2, 1) := by decide +kernel
theorem d_L_law_786 : decode code 786 = .ok (.aload_n 0, 1) := by decide +kernel
theorem d_L_law_787 : decode code 787 = .ok (.iload_n 3, 1) := by decide +kernel
theorem d_L_law_788 : decode code 788 = .ok (.iconst 1, 1) := by decide +kernel
theorem d_L_law_789 : decode code 789 = .ok (.iadd, 1) := by decide +kernel
theorem d_L_law_790 : decode code 790 = .ok (.iaload, 1) := by decide +kernel
theorem d_L_law_791 : decode code 791 = .ok (.aload_n 0, 1) := by decide +kernel
theorem d_L_law_792 : decode code 792 = .ok (.iload_n 3, 1) := by decide +kernel
theorem d_L_law_793 : decode code 793 = .ok (.iconst 2, 1) := by decide +kernel
theorem d_L_law_794 : decode code 794 = .ok (.iadd, 1) := by decide +kernel
theorem d_L_law_795 : decode code 795 = .ok (.iaload, 1) := by decide +kernel
theorem d_L_law_796 : decode code 796 = .ok (.aload_n 0, 1) := by decide +kernel
theorem d_L_law_797 : decode code 797 = .ok (.iload_n 3, 1) := by decide +kernel
theorem d_L_law_798 : decode code 798 = .ok (.iconst 3, 1) := by decide +kernel
theorem d_L_law_799 : decode code 799 = .ok (.iadd, 1) := by decide +kernel
theorem d_L_law_800 : decode code 800 = .ok (.iaload, 1) := by decide +kernel
theorem d_L_law_801 : decode code 801 = .ok (.aload_n 0, 1) := by decide +kernel
theorem d_L_law_802 : decode code 802 = .ok (.iload_n 3, 1) := by decide +kernel
theorem d_L_law_803 : decode code 803 = .ok (.iconst 4, 1) := by decide +kernel
theorem d_L_law_804 : decode code 804 = .ok (.iadd, 1) := by decide +kernel
theorem d_L_law_805 : decode code 805 = .ok (.iaload, 1) := by decide +kernel
theorem d_L_law_806 : decode code 806 = .ok (.i2l, 1) := by decide +kernel
theorem d_L_law_807 : decode code 807 = .ok (.bipush 32, 2) := by decide +kernel
theorem d_L_law_809 : decode code 809 = .ok (.lshl, 1) := by decide +kernel
theorem d_L_law_810 : decode code 810 = .ok (.aload_n 0, 1) := by decide +kernel
theorem d_L_law_811 : decode code 811 = .ok (.iload_n 3, 1) := by decide +kernel
theorem d_L_law_812 : decode code 812 = .ok (.iconst 5, 1) := by decide +kernel
theorem d_L_law_813 : decode code 813 = .ok (.iadd, 1) := by decide +kernel
theorem d_L_law_814 : decode code 814 = .ok (.iaload, 1) := by decide +kernel
theorem d_L_law_815 : decode code 815 = .ok (.i2l, 1) := by decide +kernel
theorem d_L_law_816 : decode code 816 = .ok (.ldc2_w 18, 3) := by decide +kernel
theorem d_L_law_819 : decode code 819 = .ok (.land, 1) := by decide +kernel
theorem d_L_law_820 : decode code 820 = .ok (.lor, 1) := by decide +kernel
theorem d_L_law_821 : decode code 821 = .ok (.invokevirtual 74, 3) := by decide +kernel
theorem d_L_law_824 : decode code 824 = .ok (.if_icmp .eq 153, 3) := by decide +kernel
theorem d_L_law_827 : decode code 827 = .ok (.iconst 0, 1) := by decide +kernel
theorem d_L_law_828 : decode code 828 = .ok (.ireturn, 1) := by decide +kernel
theorem d_L_law_829 : decode code 829 = .ok (.aload_n 1, 1) := by decide +kernel
theorem d_L_law_830 : decode code 830 = .ok (.aload_n 0, 1) := by decide +kernel
theorem d_L_law_831 : decode code 831 = .ok (.iload_n 3, 1) := by decide +kernel
theorem d_L_law_832 : decode code 832 = .ok (.iconst 1, 1) := by decide +kernel
theorem d_L_law_833 : decode code 833 = .ok (.iadd, 1) := by decide +kernel
theorem d_L_law_834 : decode code 834 = .ok (.iaload, 1) := by decide +kernel
theorem d_L_law_835 : decode code 835 = .ok (.aload_n 0, 1) := by decide +kernel
theorem d_L_law_836 : decode code 836 = .ok (.iload_n 3, 1) := by decide +kernel
theorem d_L_law_837 : decode code 837 = .ok (.iconst 2, 1) := by decide +kernel
theorem d_L_law_838 : decode code 838 = .ok (.iadd, 1) := by decide +kernel
theorem d_L_law_839 : decode code 839 = .ok (.iaload, 1) := by decide +kernel
theorem d_L_law_840 : decode code 840 = .ok (.invokevirtual 75, 3) := by decide +kernel
theorem d_L_law_843 : decode code 843 = .ok (.aload_n 2, 1) := by decide +kernel
theorem d_L_law_844 : decode code 844 = .ok (.aload_n 0, 1) := by decide +kernel
theorem d_L_law_845 : decode code 845 = .ok (.iload_n 3, 1) := by decide +kernel
theorem d_L_law_846 : decode code 846 = .ok (.iconst 1, 1) := by decide +kernel
theorem d_L_law_847 : decode code 847 = .ok (.iadd, 1) := by decide +kernel
theorem d_L_law_848 : decode code 848 = .ok (.iaload, 1) := by decide +kernel
theorem d_L_law_849 : decode code 849 = .ok (.aload_n 0, 1) := by decide +kernel
theorem d_L_law_850 : decode code 850 = .ok (.iload_n 3, 1) := by decide +kernel
theorem d_L_law_851 : decode code 851 = .ok (.iconst 2, 1) := by decide +kernel
theorem d_L_law_852 : decode code 852 = .ok (.iadd, 1) := by decide +kernel
theorem d_L_law_853 : decode code 853 = .ok (.iaload, 1) := by decide +kernel
theorem d_L_law_854 : decode code 854 = .ok (.invokevirtual 79, 3) := by decide +kernel
theorem d_L_law_857 : decode code 857 = .ok (.if_icmp .eq 120, 3) := by decide +kernel
theorem d_L_law_860 : decode code 860 = .ok (.iconst 0, 1) := by decide +kernel
theorem d_L_law_861 : decode code 861 = .ok (.ireturn, 1) := by decide +kernel
theorem d_L_law_862 : decode code 862 = .ok (.aload_n 1, 1) := by decide +kernel
theorem d_L_law_863 : decode code 863 = .ok (.aload_n 0, 1) := by decide +kernel
theorem d_L_law_864 : decode code 864 = .ok (.iload_n 3, 1) := by decide +kernel
theorem d_L_law_865 : decode code 865 = .ok (.iconst 1, 1) := by decide +kernel
theorem d_L_law_866 : decode code 866 = .ok (.iadd, 1) := by decide +kernel
theorem d_L_law_867 : decode code 867 = .ok (.iaload, 1) := by decide +kernel
theorem d_L_law_868 : decode code 868 = .ok (.invokevirtual 80, 3) := by decide +kernel
theorem d_L_law_871 : decode code 871 = .ok (.aload_n 2, 1) := by decide +kernel
theorem d_L_law_872 : decode code 872 = .ok (.aload_n 0, 1) := by decide +kernel
theorem d_L_law_873 : decode code 873 = .ok (.iload_n 3, 1) := by decide +kernel
theorem d_L_law_874 : decode code 874 = .ok (.iconst 1, 1) := by decide +kernel
theorem d_L_law_875 : decode code 875 = .ok (.iadd, 1) := by decide +kernel
theorem d_L_law_876 : decode code 876 = .ok (.iaload, 1) := by decide +kernel
theorem d_L_law_877 : decode code 877 = .ok (.invokevirtual 83, 3) := by decide +kernel
theorem d_L_law_880 : decode code 880 = .ok (.if_icmp .eq 97, 3) := by decide +kernel
theorem d_L_law_883 : decode code 883 = .ok (.iconst 0, 1) := by decide +kernel
theorem d_L_law_884 : decode code 884 = .ok (.ireturn, 1) := by decide +kernel
theorem d_L_law_885 : decode code 885 = .ok (.aload_n 1, 1) := by decide +kernel
theorem d_L_law_886 : decode code 886 = .ok (.aload_n 0, 1) := by decide +kernel
theorem d_L_law_887 : decode code 887 = .ok (.iload_n 3, 1) := by decide +kernel
theorem d_L_law_888 : decode code 888 = .ok (.iconst 1, 1) := by decide +kernel
theorem d_L_law_889 : decode code 889 = .ok (.iadd, 1) := by decide +kernel
theorem d_L_law_890 : decode code 890 = .ok (.iaload, 1) := by decide +kernel
theorem d_L_law_891 : decode code 891 = .ok (.aload_n 0, 1) := by decide +kernel
theorem d_L_law_892 : decode code 892 = .ok (.iload_n 3, 1) := by decide +kernel
theorem d_L_law_893 : decode code 893 = .ok (.iconst 2, 1) := by decide +kernel
theorem d_L_law_894 : decode code 894 = .ok (.iadd, 1) := by decide +kernel
theorem d_L_law_895 : decode code 895 = .ok (.iaload, 1) := by decide +kernel
theorem d_L_law_896 : decode code 896 = .ok (.invokevirtual 84, 3) := by decide +kernel
theorem d_L_law_899 : decode code 899 = .ok (.aload_n 2, 1) := by decide +kernel
theorem d_L_law_900 : decode code 900 = .ok (.aload_n 0, 1) := by decide +kernel
theorem d_L_law_901 : decode code 901 = .ok (.iload_n 3, 1) := by decide +kernel
theorem d_L_law_902 : decode code 902 = .ok (.iconst 1, 1) := by decide +kernel
theorem d_L_law_903 : decode code 903 = .ok (.iadd, 1) := by decide +kernel
theorem d_L_law_904 : decode code 904 = .ok (.iaload, 1) := by decide +kernel
theorem d_L_law_905 : decode code 905 = .ok (.aload_n 0, 1) := by decide +kernel
theorem d_L_law_906 : decode code 906 = .ok (.iload_n 3, 1) := by decide +kernel
theorem d_L_law_907 : decode code 907 = .ok (.iconst 2, 1) := by decide +kernel
theorem d_L_law_908 : decode code 908 = .ok (.iadd, 1) := by decide +kernel
theorem d_L_law_909 : decode code 909 = .ok (.iaload, 1) := by decide +kernel
theorem d_L_law_910 : decode code 910 = .ok (.invokevirtual 87, 3) := by decide +kernel
theorem d_L_law_913 : decode code 913 = .ok (.if_icmp .eq 64, 3) := by decide +kernel
theorem d_L_law_916 : decode code 916 = .ok (.iconst 0, 1) := by decide +kernel
theorem d_L_law_917 : decode code 917 = .ok (.ireturn, 1) := by decide +kernel
theorem d_L_law_918 : decode code 918 = .ok (.aload_n 1, 1) := by decide +kernel
theorem d_L_law_919 : decode code 919 = .ok (.aload_n 0, 1) := by decide +kernel
theorem d_L_law_920 : decode code 920 = .ok (.iload_n 3, 1) := by decide +kernel
theorem d_L_law_921 : decode code 921 = .ok (.iconst 1, 1) := by decide +kernel
theorem d_L_law_922 : decode code 922 = .ok (.iadd, 1) := by decide +kernel
theorem d_L_law_923 : decode code 923 = .ok (.iaload, 1) := by decide +kernel
theorem d_L_law_924 : decode code 924 = .ok (.aload_n 0, 1) := by decide +kernel
theorem d_L_law_925 : decode code 925 = .ok (.iload_n 3, 1) := by decide +kernel
theorem d_L_law_926 : decode code 926 = .ok (.iconst 2, 1) := by decide +kernel
theorem d_L_law_927 : decode code 927 = .ok (.iadd, 1) := by decide +kernel
theorem d_L_law_928 : decode code 928 = .ok (.iaload, 1) := by decide +kernel
theorem d_L_law_929 : decode code 929 = .ok (.invokevirtual 88, 3) := by decide +kernel
theorem d_L_law_932 : decode code 932 = .ok (.aload_n 2, 1) := by decide +kernel
theorem d_L_law_933 : decode code 933 = .ok (.aload_n 0, 1) := by decide +kernel
theorem d_L_law_934 : decode code 934 = .ok (.iload_n 3, 1) := by decide +kernel
theorem d_L_law_935 : decode code 935 = .ok (.iconst 1, 1) := by decide +kernel
theorem d_L_law_936 : decode code 936 = .ok (.iadd, 1) := by decide +kernel
theorem d_L_law_937 : decode code 937 = .ok (.iaload, 1) := by decide +kernel
theorem d_L_law_938 : decode code 938 = .ok (.aload_n 0, 1) := by decide +kernel
theorem d_L_law_939 : decode code 939 = .ok (.iload_n 3, 1) := by decide +kernel
theorem d_L_law_940 : decode code 940 = .ok (.iconst 2, 1) := by decide +kernel
theorem d_L_law_941 : decode code 941 = .ok (.iadd, 1) := by decide +kernel
theorem d_L_law_942 : decode code 942 = .ok (.iaload, 1) := by decide +kernel
theorem d_L_law_943 : decode code 943 = .ok (.invokevirtual 91, 3) := by decide +kernel
theorem d_L_law_946 : decode code 946 = .ok (.if_icmp .eq 31, 3) := by decide +kernel
theorem d_L_law_949 : decode code 949 = .ok (.iconst 0, 1) := by decide +kernel
theorem d_L_law_950 : decode code 950 = .ok (.ireturn, 1) := by decide +kernel
theorem d_L_law_951 : decode code 951 = .ok (.aload_n 1, 1) := by decide +kernel
theorem d_L_law_952 : decode code 952 = .ok (.invokevirtual 92, 3) := by decide +kernel
theorem d_L_law_955 : decode code 955 = .ok (.aload_n 2, 1) := by decide +kernel
theorem d_L_law_956 : decode code 956 = .ok (.invokevirtual 95, 3) := by decide +kernel
theorem d_L_law_959 : decode code 959 = .ok (.if_icmp .eq 18, 3) := by decide +kernel
theorem d_L_law_962 : decode code 962 = .ok (.iconst 0, 1) := by decide +kernel
theorem d_L_law_963 : decode code 963 = .ok (.ireturn, 1) := by decide +kernel
theorem d_L_law_964 : decode code 964 = .ok (.aload_n 1, 1) := by decide +kernel
theorem d_L_law_965 : decode code 965 = .ok (.invokevirtual 96, 3) := by decide +kernel
theorem d_L_law_968 : decode code 968 = .ok (.aload_n 2, 1) := by decide +kernel
theorem d_L_law_969 : decode code 969 = .ok (.invokevirtual 99, 3) := by decide +kernel
theorem d_L_law_972 : decode code 972 = .ok (.if_icmp .eq 5, 3) := by decide +kernel
theorem d_L_law_975 : decode code 975 = .ok (.iconst 0, 1) := by decide +kernel
theorem d_L_law_976 : decode code 976 = .ok (.ireturn, 1) := by decide +kernel
theorem d_L_law_977 : decode code 977 = .ok (.iinc 3 8, 3) := by decide +kernel
theorem d_L_law_980 : decode code 980 = .ok (.goto (-962), 3) := by decide +kernel
theorem d_L_law_983 : decode code 983 = .ok (.iconst 1, 1) := by decide +kernel
theorem d_L_law_984 : decode code 984 = .ok (.ireturn, 1) := by decide +kernel
