/-! instructions of the law, by program -/
theorem dl_702 : decode code 702 = .ok (.aload_n 1, 1) := by decide +kernel
theorem dl_703 : decode code 703 = .ok (.aload_n 0, 1) := by decide +kernel
theorem dl_704 : decode code 704 = .ok (.iload_n 3, 1) := by decide +kernel
theorem dl_705 : decode code 705 = .ok (.iconst 1, 1) := by decide +kernel
theorem dl_706 : decode code 706 = .ok (.iadd, 1) := by decide +kernel
theorem dl_707 : decode code 707 = .ok (.iaload, 1) := by decide +kernel
theorem dl_708 : decode code 708 = .ok (.aload_n 0, 1) := by decide +kernel
theorem dl_709 : decode code 709 = .ok (.iload_n 3, 1) := by decide +kernel
theorem dl_710 : decode code 710 = .ok (.iconst 2, 1) := by decide +kernel
theorem dl_711 : decode code 711 = .ok (.iadd, 1) := by decide +kernel
theorem dl_712 : decode code 712 = .ok (.iaload, 1) := by decide +kernel
theorem dl_713 : decode code 713 = .ok (.aload_n 0, 1) := by decide +kernel
theorem dl_714 : decode code 714 = .ok (.iload_n 3, 1) := by decide +kernel
theorem dl_715 : decode code 715 = .ok (.iconst 3, 1) := by decide +kernel
theorem dl_716 : decode code 716 = .ok (.iadd, 1) := by decide +kernel
theorem dl_717 : decode code 717 = .ok (.iaload, 1) := by decide +kernel
theorem dl_718 : decode code 718 = .ok (.invokevirtual 83, 3) := by decide +kernel
theorem dl_721 : decode code 721 = .ok (.pop, 1) := by decide +kernel
theorem dl_722 : decode code 722 = .ok (.aload_n 2, 1) := by decide +kernel
theorem dl_723 : decode code 723 = .ok (.aload_n 0, 1) := by decide +kernel
theorem dl_724 : decode code 724 = .ok (.iload_n 3, 1) := by decide +kernel
theorem dl_725 : decode code 725 = .ok (.iconst 1, 1) := by decide +kernel
theorem dl_726 : decode code 726 = .ok (.iadd, 1) := by decide +kernel
theorem dl_727 : decode code 727 = .ok (.iaload, 1) := by decide +kernel
theorem dl_728 : decode code 728 = .ok (.aload_n 0, 1) := by decide +kernel
theorem dl_729 : decode code 729 = .ok (.iload_n 3, 1) := by decide +kernel
theorem dl_730 : decode code 730 = .ok (.iconst 2, 1) := by decide +kernel
theorem dl_731 : decode code 731 = .ok (.iadd, 1) := by decide +kernel
theorem dl_732 : decode code 732 = .ok (.iaload, 1) := by decide +kernel
theorem dl_733 : decode code 733 = .ok (.aload_n 0, 1) := by decide +kernel
theorem dl_734 : decode code 734 = .ok (.iload_n 3, 1) := by decide +kernel
theorem dl_735 : decode code 735 = .ok (.iconst 3, 1) := by decide +kernel
theorem dl_736 : decode code 736 = .ok (.iadd, 1) := by decide +kernel
theorem dl_737 : decode code 737 = .ok (.iaload, 1) := by decide +kernel
theorem dl_738 : decode code 738 = .ok (.invokevirtual 86, 3) := by decide +kernel
theorem dl_741 : decode code 741 = .ok (.pop, 1) := by decide +kernel
theorem dl_742 : decode code 742 = .ok (.goto 244, 3) := by decide +kernel
theorem dl_745 : decode code 745 = .ok (.aload_n 1, 1) := by decide +kernel
theorem dl_746 : decode code 746 = .ok (.aload_n 0, 1) := by decide +kernel
theorem dl_747 : decode code 747 = .ok (.iload_n 3, 1) := by decide +kernel
theorem dl_748 : decode code 748 = .ok (.iconst 1, 1) := by decide +kernel
theorem dl_749 : decode code 749 = .ok (.iadd, 1) := by decide +kernel
theorem dl_750 : decode code 750 = .ok (.iaload, 1) := by decide +kernel
theorem dl_751 : decode code 751 = .ok (.aload_n 0, 1) := by decide +kernel
theorem dl_752 : decode code 752 = .ok (.iload_n 3, 1) := by decide +kernel
theorem dl_753 : decode code 753 = .ok (.iconst 2, 1) := by decide +kernel
theorem dl_754 : decode code 754 = .ok (.iadd, 1) := by decide +kernel
theorem dl_755 : decode code 755 = .ok (.iaload, 1) := by decide +kernel
theorem dl_756 : decode code 756 = .ok (.invokevirtual 87, 3) := by decide +kernel
theorem dl_759 : decode code 759 = .ok (.pop, 1) := by decide +kernel
theorem dl_760 : decode code 760 = .ok (.aload_n 2, 1) := by decide +kernel
theorem dl_761 : decode code 761 = .ok (.aload_n 0, 1) := by decide +kernel
theorem dl_762 : decode code 762 = .ok (.iload_n 3, 1) := by decide +kernel
theorem dl_763 : decode code 763 = .ok (.iconst 1, 1) := by decide +kernel
theorem dl_764 : decode code 764 = .ok (.iadd, 1) := by decide +kernel
theorem dl_765 : decode code 765 = .ok (.iaload, 1) := by decide +kernel
theorem dl_766 : decode code 766 = .ok (.aload_n 0, 1) := by decide +kernel
theorem dl_767 : decode code 767 = .ok (.iload_n 3, 1) := by decide +kernel
theorem dl_768 : decode code 768 = .ok (.iconst 2, 1) := by decide +kernel
theorem dl_769 : decode code 769 = .ok (.iadd, 1) := by decide +kernel
theorem dl_770 : decode code 770 = .ok (.iaload, 1) := by decide +kernel
theorem dl_771 : decode code 771 = .ok (.invokevirtual 90, 3) := by decide +kernel
theorem dl_774 : decode code 774 = .ok (.pop, 1) := by decide +kernel
theorem dl_775 : decode code 775 = .ok (.goto 211, 3) := by decide +kernel
theorem dl_778 : decode code 778 = .ok (.aload_n 1, 1) := by decide +kernel
theorem dl_779 : decode code 779 = .ok (.aload_n 0, 1) := by decide +kernel
theorem dl_780 : decode code 780 = .ok (.iload_n 3, 1) := by decide +kernel
theorem dl_781 : decode code 781 = .ok (.iconst 1, 1) := by decide +kernel
theorem dl_782 : decode code 782 = .ok (.iadd, 1) := by decide +kernel
theorem dl_783 : decode code 783 = .ok (.iaload, 1) := by decide +kernel
theorem dl_784 : decode code 784 = .ok (.aload_n 0, 1) := by decide +kernel
theorem dl_785 : decode code 785 = .ok (.iload_n 3, 1) := by decide +kernel
theorem dl_786 : decode code 786 = .ok (.iconst 2, 1) := by decide +kernel
theorem dl_787 : decode code 787 = .ok (.iadd, 1) := by decide +kernel
theorem dl_788 : decode code 788 = .ok (.iaload, 1) := by decide +kernel
theorem dl_789 : decode code 789 = .ok (.invokevirtual 91, 3) := by decide +kernel
theorem dl_792 : decode code 792 = .ok (.pop2, 1) := by decide +kernel
theorem dl_793 : decode code 793 = .ok (.aload_n 2, 1) := by decide +kernel
theorem dl_794 : decode code 794 = .ok (.aload_n 0, 1) := by decide +kernel
theorem dl_795 : decode code 795 = .ok (.iload_n 3, 1) := by decide +kernel
theorem dl_796 : decode code 796 = .ok (.iconst 1, 1) := by decide +kernel
theorem dl_797 : decode code 797 = .ok (.iadd, 1) := by decide +kernel
theorem dl_798 : decode code 798 = .ok (.iaload, 1) := by decide +kernel
theorem dl_799 : decode code 799 = .ok (.aload_n 0, 1) := by decide +kernel
theorem dl_800 : decode code 800 = .ok (.iload_n 3, 1) := by decide +kernel
theorem dl_801 : decode code 801 = .ok (.iconst 2, 1) := by decide +kernel
theorem dl_802 : decode code 802 = .ok (.iadd, 1) := by decide +kernel
theorem dl_803 : decode code 803 = .ok (.iaload, 1) := by decide +kernel
theorem dl_804 : decode code 804 = .ok (.invokevirtual 95, 3) := by decide +kernel
theorem dl_807 : decode code 807 = .ok (.pop2, 1) := by decide +kernel
theorem dl_808 : decode code 808 = .ok (.goto 178, 3) := by decide +kernel
theorem dl_811 : decode code 811 = .ok (.aload_n 1, 1) := by decide +kernel
theorem dl_812 : decode code 812 = .ok (.aload_n 0, 1) := by decide +kernel
theorem dl_813 : decode code 813 = .ok (.iload_n 3, 1) := by decide +kernel
theorem dl_814 : decode code 814 = .ok (.iconst 1, 1) := by decide +kernel
theorem dl_815 : decode code 815 = .ok (.iadd, 1) := by decide +kernel
theorem dl_816 : decode code 816 = .ok (.iaload, 1) := by decide +kernel
theorem dl_817 : decode code 817 = .ok (.aload_n 0, 1) := by decide +kernel
theorem dl_818 : decode code 818 = .ok (.iload_n 3, 1) := by decide +kernel
theorem dl_819 : decode code 819 = .ok (.iconst 2, 1) := by decide +kernel
theorem dl_820 : decode code 820 = .ok (.iadd, 1) := by decide +kernel
theorem dl_821 : decode code 821 = .ok (.iaload, 1) := by decide +kernel
theorem dl_822 : decode code 822 = .ok (.aload_n 0, 1) := by decide +kernel
theorem dl_823 : decode code 823 = .ok (.iload_n 3, 1) := by decide +kernel
theorem dl_824 : decode code 824 = .ok (.iconst 3, 1) := by decide +kernel
theorem dl_825 : decode code 825 = .ok (.iadd, 1) := by decide +kernel
theorem dl_826 : decode code 826 = .ok (.iaload, 1) := by decide +kernel
theorem dl_827 : decode code 827 = .ok (.invokevirtual 96, 3) := by decide +kernel
theorem dl_830 : decode code 830 = .ok (.pop2, 1) := by decide +kernel
theorem dl_831 : decode code 831 = .ok (.aload_n 2, 1) := by decide +kernel
theorem dl_832 : decode code 832 = .ok (.aload_n 0, 1) := by decide +kernel
theorem dl_833 : decode code 833 = .ok (.iload_n 3, 1) := by decide +kernel
theorem dl_834 : decode code 834 = .ok (.iconst 1, 1) := by decide +kernel
theorem dl_835 : decode code 835 = .ok (.iadd, 1) := by decide +kernel
theorem dl_836 : decode code 836 = .ok (.iaload, 1) := by decide +kernel
theorem dl_837 : decode code 837 = .ok (.aload_n 0, 1) := by decide +kernel
theorem dl_838 : decode code 838 = .ok (.iload_n 3, 1) := by decide +kernel
theorem dl_839 : decode code 839 = .ok (.iconst 2, 1) := by decide +kernel
theorem dl_840 : decode code 840 = .ok (.iadd, 1) := by decide +kernel
theorem dl_841 : decode code 841 = .ok (.iaload, 1) := by decide +kernel
theorem dl_842 : decode code 842 = .ok (.aload_n 0, 1) := by decide +kernel
theorem dl_843 : decode code 843 = .ok (.iload_n 3, 1) := by decide +kernel
theorem dl_844 : decode code 844 = .ok (.iconst 3, 1) := by decide +kernel
theorem dl_845 : decode code 845 = .ok (.iadd, 1) := by decide +kernel
theorem dl_846 : decode code 846 = .ok (.iaload, 1) := by decide +kernel
theorem dl_847 : decode code 847 = .ok (.invokevirtual 100, 3) := by decide +kernel
theorem dl_850 : decode code 850 = .ok (.pop2, 1) := by decide +kernel
theorem dl_851 : decode code 851 = .ok (.goto 135, 3) := by decide +kernel
theorem dl_854 : decode code 854 = .ok (.aload_n 1, 1) := by decide +kernel
theorem dl_855 : decode code 855 = .ok (.aload_n 0, 1) := by decide +kernel
theorem dl_856 : decode code 856 = .ok (.iload_n 3, 1) := by decide +kernel
theorem dl_857 : decode code 857 = .ok (.iconst 1, 1) := by decide +kernel
theorem dl_858 : decode code 858 = .ok (.iadd, 1) := by decide +kernel
theorem dl_859 : decode code 859 = .ok (.iaload, 1) := by decide +kernel
theorem dl_860 : decode code 860 = .ok (.aload_n 0, 1) := by decide +kernel
theorem dl_861 : decode code 861 = .ok (.iload_n 3, 1) := by decide +kernel
theorem dl_862 : decode code 862 = .ok (.iconst 2, 1) := by decide +kernel
theorem dl_863 : decode code 863 = .ok (.iadd, 1) := by decide +kernel
theorem dl_864 : decode code 864 = .ok (.iaload, 1) := by decide +kernel
theorem dl_865 : decode code 865 = .ok (.invokevirtual 101, 3) := by decide +kernel
theorem dl_868 : decode code 868 = .ok (.pop2, 1) := by decide +kernel
theorem dl_869 : decode code 869 = .ok (.aload_n 2, 1) := by decide +kernel
theorem dl_870 : decode code 870 = .ok (.aload_n 0, 1) := by decide +kernel
theorem dl_871 : decode code 871 = .ok (.iload_n 3, 1) := by decide +kernel
theorem dl_872 : decode code 872 = .ok (.iconst 1, 1) := by decide +kernel
theorem dl_873 : decode code 873 = .ok (.iadd, 1) := by decide +kernel
theorem dl_874 : decode code 874 = .ok (.iaload, 1) := by decide +kernel
theorem dl_875 : decode code 875 = .ok (.aload_n 0, 1) := by decide +kernel
theorem dl_876 : decode code 876 = .ok (.iload_n 3, 1) := by decide +kernel
theorem dl_877 : decode code 877 = .ok (.iconst 2, 1) := by decide +kernel
theorem dl_878 : decode code 878 = .ok (.iadd, 1) := by decide +kernel
theorem dl_879 : decode code 879 = .ok (.iaload, 1) := by decide +kernel
theorem dl_880 : decode code 880 = .ok (.invokevirtual 104, 3) := by decide +kernel
theorem dl_883 : decode code 883 = .ok (.pop2, 1) := by decide +kernel
theorem dl_884 : decode code 884 = .ok (.goto 102, 3) := by decide +kernel
theorem dl_887 : decode code 887 = .ok (.aload_n 1, 1) := by decide +kernel
theorem dl_888 : decode code 888 = .ok (.aload_n 0, 1) := by decide +kernel
theorem dl_889 : decode code 889 = .ok (.iload_n 3, 1) := by decide +kernel
theorem dl_890 : decode code 890 = .ok (.iconst 1, 1) := by decide +kernel
theorem dl_891 : decode code 891 = .ok (.iadd, 1) := by decide +kernel
theorem dl_892 : decode code 892 = .ok (.iaload, 1) := by decide +kernel
theorem dl_893 : decode code 893 = .ok (.aload_n 0, 1) := by decide +kernel
theorem dl_894 : decode code 894 = .ok (.iload_n 3, 1) := by decide +kernel
theorem dl_895 : decode code 895 = .ok (.iconst 2, 1) := by decide +kernel
theorem dl_896 : decode code 896 = .ok (.iadd, 1) := by decide +kernel
theorem dl_897 : decode code 897 = .ok (.iaload, 1) := by decide +kernel
theorem dl_898 : decode code 898 = .ok (.invokevirtual 105, 3) := by decide +kernel
theorem dl_901 : decode code 901 = .ok (.pop, 1) := by decide +kernel
theorem dl_902 : decode code 902 = .ok (.aload_n 2, 1) := by decide +kernel
theorem dl_903 : decode code 903 = .ok (.aload_n 0, 1) := by decide +kernel
theorem dl_904 : decode code 904 = .ok (.iload_n 3, 1) := by decide +kernel
theorem dl_905 : decode code 905 = .ok (.iconst 1, 1) := by decide +kernel
theorem dl_906 : decode code 906 = .ok (.iadd, 1) := by decide +kernel
theorem dl_907 : decode code 907 = .ok (.iaload, 1) := by decide +kernel
theorem dl_908 : decode code 908 = .ok (.aload_n 0, 1) := by decide +kernel
theorem dl_909 : decode code 909 = .ok (.iload_n 3, 1) := by decide +kernel
theorem dl_910 : decode code 910 = .ok (.iconst 2, 1) := by decide +kernel
theorem dl_911 : decode code 911 = .ok (.iadd, 1) := by decide +kernel
theorem dl_912 : decode code 912 = .ok (.iaload, 1) := by decide +kernel
theorem dl_913 : decode code 913 = .ok (.invokevirtual 108, 3) := by decide +kernel
theorem dl_916 : decode code 916 = .ok (.pop, 1) := by decide +kernel
theorem dl_917 : decode code 917 = .ok (.goto 69, 3) := by decide +kernel
theorem dl_920 : decode code 920 = .ok (.aload_n 1, 1) := by decide +kernel
theorem dl_921 : decode code 921 = .ok (.aload_n 0, 1) := by decide +kernel
theorem dl_922 : decode code 922 = .ok (.iload_n 3, 1) := by decide +kernel
theorem dl_923 : decode code 923 = .ok (.iconst 1, 1) := by decide +kernel
theorem dl_924 : decode code 924 = .ok (.iadd, 1) := by decide +kernel
theorem dl_925 : decode code 925 = .ok (.iaload, 1) := by decide +kernel
theorem dl_926 : decode code 926 = .ok (.aload_n 0, 1) := by decide +kernel
theorem dl_927 : decode code 927 = .ok (.iload_n 3, 1) := by decide +kernel
theorem dl_928 : decode code 928 = .ok (.iconst 2, 1) := by decide +kernel
theorem dl_929 : decode code 929 = .ok (.iadd, 1) := by decide +kernel
theorem dl_930 : decode code 930 = .ok (.iaload, 1) := by decide +kernel
theorem dl_931 : decode code 931 = .ok (.aload_n 0, 1) := by decide +kernel
theorem dl_932 : decode code 932 = .ok (.iload_n 3, 1) := by decide +kernel
theorem dl_933 : decode code 933 = .ok (.iconst 3, 1) := by decide +kernel
theorem dl_934 : decode code 934 = .ok (.iadd, 1) := by decide +kernel
theorem dl_935 : decode code 935 = .ok (.iaload, 1) := by decide +kernel
theorem dl_936 : decode code 936 = .ok (.invokevirtual 109, 3) := by decide +kernel
theorem dl_939 : decode code 939 = .ok (.pop, 1) := by decide +kernel
theorem dl_940 : decode code 940 = .ok (.aload_n 2, 1) := by decide +kernel
theorem dl_941 : decode code 941 = .ok (.aload_n 0, 1) := by decide +kernel
theorem dl_942 : decode code 942 = .ok (.iload_n 3, 1) := by decide +kernel
theorem dl_943 : decode code 943 = .ok (.iconst 1, 1) := by decide +kernel
theorem dl_944 : decode code 944 = .ok (.iadd, 1) := by decide +kernel
theorem dl_945 : decode code 945 = .ok (.iaload, 1) := by decide +kernel
theorem dl_946 : decode code 946 = .ok (.aload_n 0, 1) := by decide +kernel
theorem dl_947 : decode code 947 = .ok (.iload_n 3, 1) := by decide +kernel
theorem dl_948 : decode code 948 = .ok (.iconst 2, 1) := by decide +kernel
theorem dl_949 : decode code 949 = .ok (.iadd, 1) := by decide +kernel
theorem dl_950 : decode code 950 = .ok (.iaload, 1) := by decide +kernel
theorem dl_951 : decode code 951 = .ok (.aload_n 0, 1) := by decide +kernel
theorem dl_952 : decode code 952 = .ok (.iload_n 3, 1) := by decide +kernel
theorem dl_953 : decode code 953 = .ok (.iconst 3, 1) := by decide +kernel
theorem dl_954 : decode code 954 = .ok (.iadd, 1) := by decide +kernel
theorem dl_955 : decode code 955 = .ok (.iaload, 1) := by decide +kernel
theorem dl_956 : decode code 956 = .ok (.invokevirtual 112, 3) := by decide +kernel
theorem dl_959 : decode code 959 = .ok (.pop, 1) := by decide +kernel
theorem dl_960 : decode code 960 = .ok (.goto 26, 3) := by decide +kernel
theorem dl_963 : decode code 963 = .ok (.aload_n 1, 1) := by decide +kernel
theorem dl_964 : decode code 964 = .ok (.aload_n 0, 1) := by decide +kernel
theorem dl_965 : decode code 965 = .ok (.iload_n 3, 1) := by decide +kernel
theorem dl_966 : decode code 966 = .ok (.iconst 1, 1) := by decide +kernel
theorem dl_967 : decode code 967 = .ok (.iadd, 1) := by decide +kernel
theorem dl_968 : decode code 968 = .ok (.iaload, 1) := by decide +kernel
theorem dl_969 : decode code 969 = .ok (.invokevirtual 113, 3) := by decide +kernel
theorem dl_972 : decode code 972 = .ok (.pop, 1) := by decide +kernel
theorem dl_973 : decode code 973 = .ok (.aload_n 2, 1) := by decide +kernel
theorem dl_974 : decode code 974 = .ok (.aload_n 0, 1) := by decide +kernel
theorem dl_975 : decode code 975 = .ok (.iload_n 3, 1) := by decide +kernel
theorem dl_976 : decode code 976 = .ok (.iconst 1, 1) := by decide +kernel
theorem dl_977 : decode code 977 = .ok (.iadd, 1) := by decide +kernel
theorem dl_978 : decode code 978 = .ok (.iaload, 1) := by decide +kernel
theorem dl_979 : decode code 979 = .ok (.invokevirtual 116, 3) := by decide +kernel
theorem dl_982 : decode code 982 = .ok (.pop, 1) := by decide +kernel
theorem dl_983 : decode code 983 = .ok (.goto 3, 3) := by decide +kernel
theorem dl_986 : decode code 986 = .ok (.iinc 3 6, 3) := by decide +kernel
theorem dl_989 : decode code 989 = .ok (.goto (-971), 3) := by decide +kernel
theorem dl_992 : decode code 992 = .ok (.iconst 1, 1) := by decide +kernel
theorem dl_993 : decode code 993 = .ok (.ireturn, 1) := by decide +kernel
