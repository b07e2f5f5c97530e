theorem dL_acts_603 : decode cL_acts 603 = .ok (.iload 5, 2) := by decide +kernel
theorem dL_acts_605 : decode cL_acts 605 = .ok (.bipush 8, 2) := by decide +kernel
theorem dL_acts_607 : decode cL_acts 607 = .ok (.invokevirtual 19, 3) := by decide +kernel
theorem dL_acts_610 : decode cL_acts 610 = .ok (.goto 4, 3) := by decide +kernel
theorem dL_acts_613 : decode cL_acts 613 = .ok (.iconst 0, 1) := by decide +kernel
theorem dL_acts_614 : decode cL_acts 614 = .ok (.istore 8, 2) := by decide +kernel
theorem dL_acts_616 : decode cL_acts 616 = .ok (.aload_n 0, 1) := by decide +kernel
theorem dL_acts_617 : decode cL_acts 617 = .ok (.iload 5, 2) := by decide +kernel
theorem dL_acts_619 : decode cL_acts 619 = .ok (.invokevirtual 78, 3) := by decide +kernel
theorem dL_acts_622 : decode cL_acts 622 = .ok (.istore 9, 2) := by decide +kernel
theorem dL_acts_624 : decode cL_acts 624 = .ok (.iload 6, 2) := by decide +kernel
theorem dL_acts_626 : decode cL_acts 626 = .ok (.ifCond .ne 18, 3) := by decide +kernel
theorem dL_acts_629 : decode cL_acts 629 = .ok (.iload 9, 2) := by decide +kernel
theorem dL_acts_631 : decode cL_acts 631 = .ok (.ldc 62, 2) := by decide +kernel
theorem dL_acts_633 : decode cL_acts 633 = .ok (.if_icmp .ne 7, 3) := by decide +kernel
theorem dL_acts_636 : decode cL_acts 636 = .ok (.iconst 1, 1) := by decide +kernel
theorem dL_acts_637 : decode cL_acts 637 = .ok (.goto 60, 3) := by decide +kernel
theorem dL_acts_640 : decode cL_acts 640 = .ok (.iconst 0, 1) := by decide +kernel
theorem dL_acts_641 : decode cL_acts 641 = .ok (.goto 56, 3) := by decide +kernel
theorem dL_acts_644 : decode cL_acts 644 = .ok (.iload 7, 2) := by decide +kernel
theorem dL_acts_646 : decode cL_acts 646 = .ok (.iconst 2, 1) := by decide +kernel
theorem dL_acts_647 : decode cL_acts 647 = .ok (.irem, 1) := by decide +kernel
theorem dL_acts_648 : decode cL_acts 648 = .ok (.ifCond .ne 18, 3) := by decide +kernel
theorem dL_acts_651 : decode cL_acts 651 = .ok (.iload 9, 2) := by decide +kernel
theorem dL_acts_653 : decode cL_acts 653 = .ok (.ldc 61, 2) := by decide +kernel
theorem dL_acts_655 : decode cL_acts 655 = .ok (.if_icmp .ne 7, 3) := by decide +kernel
theorem dL_acts_658 : decode cL_acts 658 = .ok (.iconst 1, 1) := by decide +kernel
theorem dL_acts_659 : decode cL_acts 659 = .ok (.goto 38, 3) := by decide +kernel
theorem dL_acts_662 : decode cL_acts 662 = .ok (.iconst 0, 1) := by decide +kernel
theorem dL_acts_663 : decode cL_acts 663 = .ok (.goto 34, 3) := by decide +kernel
theorem dL_acts_666 : decode cL_acts 666 = .ok (.iload 9, 2) := by decide +kernel
theorem dL_acts_668 : decode cL_acts 668 = .ok (.ifCond .le 28, 3) := by decide +kernel
theorem dL_acts_671 : decode cL_acts 671 = .ok (.iload 9, 2) := by decide +kernel
theorem dL_acts_673 : decode cL_acts 673 = .ok (.iload 8, 2) := by decide +kernel
theorem dL_acts_675 : decode cL_acts 675 = .ok (.iconst 1, 1) := by decide +kernel
theorem dL_acts_676 : decode cL_acts 676 = .ok (.iadd, 1) := by decide +kernel
theorem dL_acts_677 : decode cL_acts 677 = .ok (.if_icmp .gt 19, 3) := by decide +kernel
theorem dL_acts_680 : decode cL_acts 680 = .ok (.aload_n 0, 1) := by decide +kernel
theorem dL_acts_681 : decode cL_acts 681 = .ok (.iload 5, 2) := by decide +kernel
theorem dL_acts_683 : decode cL_acts 683 = .ok (.bipush 6, 2) := by decide +kernel
theorem dL_acts_685 : decode cL_acts 685 = .ok (.invokevirtual 19, 3) := by decide +kernel
theorem dL_acts_688 : decode cL_acts 688 = .ok (.iconst 2, 1) := by decide +kernel
theorem dL_acts_689 : decode cL_acts 689 = .ok (.if_icmp .ne 7, 3) := by decide +kernel
theorem dL_acts_692 : decode cL_acts 692 = .ok (.iconst 1, 1) := by decide +kernel
theorem dL_acts_693 : decode cL_acts 693 = .ok (.goto 4, 3) := by decide +kernel
theorem dL_acts_696 : decode cL_acts 696 = .ok (.iconst 0, 1) := by decide +kernel
theorem dL_acts_697 : decode cL_acts 697 = .ok (.ireturn, 1) := by decide +kernel
theorem dL_acts_698 : decode cL_acts 698 = .ok (.iload_n 3, 1) := by decide +kernel
theorem dL_acts_699 : decode cL_acts 699 = .ok (.bipush 13, 2) := by decide +kernel
theorem dL_acts_701 : decode cL_acts 701 = .ok (.if_icmp .ne 106, 3) := by decide +kernel
theorem dL_acts_704 : decode cL_acts 704 = .ok (.iload_n 2, 1) := by decide +kernel
theorem dL_acts_705 : decode cL_acts 705 = .ok (.iconst 4, 1) := by decide +kernel
theorem dL_acts_706 : decode cL_acts 706 = .ok (.invokestatic 32, 3) := by decide +kernel
theorem dL_acts_709 : decode cL_acts 709 = .ok (.istore 8, 2) := by decide +kernel
theorem dL_acts_711 : decode cL_acts 711 = .ok (.iload_n 2, 1) := by decide +kernel
theorem dL_acts_712 : decode cL_acts 712 = .ok (.iconst 2, 1) := by decide +kernel
theorem dL_acts_713 : decode cL_acts 713 = .ok (.ishr, 1) := by decide +kernel
theorem dL_acts_714 : decode cL_acts 714 = .ok (.bipush 12, 2) := by decide +kernel
theorem dL_acts_716 : decode cL_acts 716 = .ok (.invokestatic 32, 3) := by decide +kernel
theorem dL_acts_719 : decode cL_acts 719 = .ok (.istore 9, 2) := by decide +kernel
theorem dL_acts_721 : decode cL_acts 721 = .ok (.iload 8, 2) := by decide +kernel
theorem dL_acts_723 : decode cL_acts 723 = .ok (.iconst 3, 1) := by decide +kernel
theorem dL_acts_724 : decode cL_acts 724 = .ok (.if_icmp .ne 7, 3) := by decide +kernel
theorem dL_acts_727 : decode cL_acts 727 = .ok (.iconst 0, 1) := by decide +kernel
theorem dL_acts_728 : decode cL_acts 728 = .ok (.goto 12, 3) := by decide +kernel
theorem dL_acts_731 : decode cL_acts 731 = .ok (.aload_n 0, 1) := by decide +kernel
theorem dL_acts_732 : decode cL_acts 732 = .ok (.bipush 20, 2) := by decide +kernel
theorem dL_acts_734 : decode cL_acts 734 = .ok (.iload 8, 2) := by decide +kernel
theorem dL_acts_736 : decode cL_acts 736 = .ok (.iadd, 1) := by decide +kernel
theorem dL_acts_737 : decode cL_acts 737 = .ok (.invokevirtual 13, 3) := by decide +kernel
theorem dL_acts_740 : decode cL_acts 740 = .ok (.istore 10, 2) := by decide +kernel
theorem dL_acts_742 : decode cL_acts 742 = .ok (.iload 8, 2) := by decide +kernel
theorem dL_acts_744 : decode cL_acts 744 = .ok (.iconst 3, 1) := by decide +kernel
theorem dL_acts_745 : decode cL_acts 745 = .ok (.if_icmp .eq 26, 3) := by decide +kernel
theorem dL_acts_748 : decode cL_acts 748 = .ok (.iload 9, 2) := by decide +kernel
theorem dL_acts_750 : decode cL_acts 750 = .ok (.ifCond .ne 8, 3) := by decide +kernel
theorem dL_acts_753 : decode cL_acts 753 = .ok (.iload 8, 2) := by decide +kernel
theorem dL_acts_755 : decode cL_acts 755 = .ok (.ifCond .gt 16, 3) := by decide +kernel
theorem dL_acts_758 : decode cL_acts 758 = .ok (.iload 9, 2) := by decide +kernel
theorem dL_acts_760 : decode cL_acts 760 = .ok (.bipush 9, 2) := by decide +kernel
theorem dL_acts_762 : decode cL_acts 762 = .ok (.if_icmp .le 13, 3) := by decide +kernel
theorem dL_acts_765 : decode cL_acts 765 = .ok (.iload 8, 2) := by decide +kernel
theorem dL_acts_767 : decode cL_acts 767 = .ok (.iconst 2, 1) := by decide +kernel
theorem dL_acts_768 : decode cL_acts 768 = .ok (.if_icmp .ge 7, 3) := by decide +kernel
theorem dL_acts_771 : decode cL_acts 771 = .ok (.iconst 1, 1) := by decide +kernel
theorem dL_acts_772 : decode cL_acts 772 = .ok (.goto 4, 3) := by decide +kernel
theorem dL_acts_775 : decode cL_acts 775 = .ok (.iconst 0, 1) := by decide +kernel
theorem dL_acts_776 : decode cL_acts 776 = .ok (.istore 11, 2) := by decide +kernel
theorem dL_acts_778 : decode cL_acts 778 = .ok (.aload_n 0, 1) := by decide +kernel
theorem dL_acts_779 : decode cL_acts 779 = .ok (.iload 8, 2) := by decide +kernel
theorem dL_acts_781 : decode cL_acts 781 = .ok (.iload 9, 2) := by decide +kernel
theorem dL_acts_783 : decode cL_acts 783 = .ok (.invokevirtual 81, 3) := by decide +kernel
theorem dL_acts_786 : decode cL_acts 786 = .ok (.iload 11, 2) := by decide +kernel
theorem dL_acts_788 : decode cL_acts 788 = .ok (.ifCond .eq 8, 3) := by decide +kernel
theorem dL_acts_791 : decode cL_acts 791 = .ok (.ldc 62, 2) := by decide +kernel
theorem dL_acts_793 : decode cL_acts 793 = .ok (.goto 5, 3) := by decide +kernel
theorem dL_acts_796 : decode cL_acts 796 = .ok (.iload 10, 2) := by decide +kernel
theorem dL_acts_798 : decode cL_acts 798 = .ok (.if_icmp .ne 7, 3) := by decide +kernel
theorem dL_acts_801 : decode cL_acts 801 = .ok (.iconst 1, 1) := by decide +kernel
theorem dL_acts_802 : decode cL_acts 802 = .ok (.goto 4, 3) := by decide +kernel
theorem dL_acts_805 : decode cL_acts 805 = .ok (.iconst 0, 1) := by decide +kernel
theorem dL_acts_806 : decode cL_acts 806 = .ok (.ireturn, 1) := by decide +kernel
theorem dL_acts_807 : decode cL_acts 807 = .ok (.iload_n 3, 1) := by decide +kernel
theorem dL_acts_808 : decode cL_acts 808 = .ok (.bipush 17, 2) := by decide +kernel
theorem dL_acts_810 : decode cL_acts 810 = .ok (.if_icmp .ge 152, 3) := by decide +kernel
theorem dL_acts_813 : decode cL_acts 813 = .ok (.iload_n 2, 1) := by decide +kernel
theorem dL_acts_814 : decode cL_acts 814 = .ok (.bipush 6, 2) := by decide +kernel
theorem dL_acts_816 : decode cL_acts 816 = .ok (.invokestatic 32, 3) := by decide +kernel
theorem dL_acts_819 : decode cL_acts 819 = .ok (.ifCond .ne 14, 3) := by decide +kernel
theorem dL_acts_822 : decode cL_acts 822 = .ok (.iload_n 2, 1) := by decide +kernel
theorem dL_acts_823 : decode cL_acts 823 = .ok (.iconst 3, 1) := by decide +kernel
theorem dL_acts_824 : decode cL_acts 824 = .ok (.ishr, 1) := by decide +kernel
theorem dL_acts_825 : decode cL_acts 825 = .ok (.bipush 101, 2) := by decide +kernel
theorem dL_acts_827 : decode cL_acts 827 = .ok (.invokestatic 32, 3) := by decide +kernel
theorem dL_acts_830 : decode cL_acts 830 = .ok (.goto 12, 3) := by decide +kernel
theorem dL_acts_833 : decode cL_acts 833 = .ok (.iconst 1, 1) := by decide +kernel
theorem dL_acts_834 : decode cL_acts 834 = .ok (.iload_n 2, 1) := by decide +kernel
theorem dL_acts_835 : decode cL_acts 835 = .ok (.iconst 3, 1) := by decide +kernel
theorem dL_acts_836 : decode cL_acts 836 = .ok (.ishr, 1) := by decide +kernel
theorem dL_acts_837 : decode cL_acts 837 = .ok (.iconst 3, 1) := by decide +kernel
theorem dL_acts_838 : decode cL_acts 838 = .ok (.invokestatic 32, 3) := by decide +kernel
theorem dL_acts_841 : decode cL_acts 841 = .ok (.iadd, 1) := by decide +kernel
theorem dL_acts_842 : decode cL_acts 842 = .ok (.istore 8, 2) := by decide +kernel
theorem dL_acts_844 : decode cL_acts 844 = .ok (.aload_n 0, 1) := by decide +kernel
theorem dL_acts_845 : decode cL_acts 845 = .ok (.iconst 1, 1) := by decide +kernel
theorem dL_acts_846 : decode cL_acts 846 = .ok (.invokevirtual 13, 3) := by decide +kernel
theorem dL_acts_849 : decode cL_acts 849 = .ok (.istore 9, 2) := by decide +kernel
theorem dL_acts_851 : decode cL_acts 851 = .ok (.aload_n 0, 1) := by decide +kernel
theorem dL_acts_852 : decode cL_acts 852 = .ok (.iconst 4, 1) := by decide +kernel
theorem dL_acts_853 : decode cL_acts 853 = .ok (.invokevirtual 13, 3) := by decide +kernel
theorem dL_acts_856 : decode cL_acts 856 = .ok (.istore 10, 2) := by decide +kernel
theorem dL_acts_858 : decode cL_acts 858 = .ok (.aload_n 0, 1) := by decide +kernel
theorem dL_acts_859 : decode cL_acts 859 = .ok (.iload 8, 2) := by decide +kernel
theorem dL_acts_861 : decode cL_acts 861 = .ok (.invokevirtual 84, 3) := by decide +kernel
theorem dL_acts_864 : decode cL_acts 864 = .ok (.istore 11, 2) := by decide +kernel
theorem dL_acts_866 : decode cL_acts 866 = .ok (.iload 8, 2) := by decide +kernel
theorem dL_acts_868 : decode cL_acts 868 = .ok (.ifCond .eq 10, 3) := by decide +kernel
theorem dL_acts_871 : decode cL_acts 871 = .ok (.iload 8, 2) := by decide +kernel
theorem dL_acts_873 : decode cL_acts 873 = .ok (.bipush 100, 2) := by decide +kernel
theorem dL_acts_875 : decode cL_acts 875 = .ok (.if_icmp .ne 18, 3) := by decide +kernel
theorem dL_acts_878 : decode cL_acts 878 = .ok (.iload 11, 2) := by decide +kernel
theorem dL_acts_880 : decode cL_acts 880 = .ok (.ldc 62, 2) := by decide +kernel
theorem dL_acts_882 : decode cL_acts 882 = .ok (.if_icmp .ne 7, 3) := by decide +kernel
theorem dL_acts_885 : decode cL_acts 885 = .ok (.iconst 1, 1) := by decide +kernel
theorem dL_acts_886 : decode cL_acts 886 = .ok (.goto 75, 3) := by decide +kernel
theorem dL_acts_889 : decode cL_acts 889 = .ok (.iconst 0, 1) := by decide +kernel
theorem dL_acts_890 : decode cL_acts 890 = .ok (.goto 71, 3) := by decide +kernel
theorem dL_acts_893 : decode cL_acts 893 = .ok (.iload 11, 2) := by decide +kernel
theorem dL_acts_895 : decode cL_acts 895 = .ok (.ldc 67, 2) := by decide +kernel
theorem dL_acts_897 : decode cL_acts 897 = .ok (.if_icmp .ne 22, 3) := by decide +kernel
theorem dL_acts_900 : decode cL_acts 900 = .ok (.iload 9, 2) := by decide +kernel
theorem dL_acts_902 : decode cL_acts 902 = .ok (.iload 8, 2) := by decide +kernel
theorem dL_acts_904 : decode cL_acts 904 = .ok (.iadd, 1) := by decide +kernel
theorem dL_acts_905 : decode cL_acts 905 = .ok (.sipush 999, 3) := by decide +kernel
theorem dL_acts_908 : decode cL_acts 908 = .ok (.if_icmp .le 7, 3) := by decide +kernel
theorem dL_acts_911 : decode cL_acts 911 = .ok (.iconst 1, 1) := by decide +kernel
theorem dL_acts_912 : decode cL_acts 912 = .ok (.goto 49, 3) := by decide +kernel
theorem dL_acts_915 : decode cL_acts 915 = .ok (.iconst 0, 1) := by decide +kernel
theorem dL_acts_916 : decode cL_acts 916 = .ok (.goto 45, 3) := by decide +kernel
theorem dL_acts_919 : decode cL_acts 919 = .ok (.iload 11, 2) := by decide +kernel
theorem dL_acts_921 : decode cL_acts 921 = .ok (.iload 9, 2) := by decide +kernel
theorem dL_acts_923 : decode cL_acts 923 = .ok (.iload 8, 2) := by decide +kernel
theorem dL_acts_925 : decode cL_acts 925 = .ok (.iadd, 1) := by decide +kernel
theorem dL_acts_926 : decode cL_acts 926 = .ok (.if_icmp .ne 34, 3) := by decide +kernel
theorem dL_acts_929 : decode cL_acts 929 = .ok (.aload_n 0, 1) := by decide +kernel
theorem dL_acts_930 : decode cL_acts 930 = .ok (.iconst 4, 1) := by decide +kernel
theorem dL_acts_931 : decode cL_acts 931 = .ok (.invokevirtual 13, 3) := by decide +kernel
theorem dL_acts_934 : decode cL_acts 934 = .ok (.iload 11, 2) := by decide +kernel
theorem dL_acts_936 : decode cL_acts 936 = .ok (.bipush 7, 2) := by decide +kernel
theorem dL_acts_938 : decode cL_acts 938 = .ok (.idiv, 1) := by decide +kernel
theorem dL_acts_939 : decode cL_acts 939 = .ok (.iload 9, 2) := by decide +kernel
theorem dL_acts_941 : decode cL_acts 941 = .ok (.bipush 7, 2) := by decide +kernel
theorem dL_acts_943 : decode cL_acts 943 = .ok (.idiv, 1) := by decide +kernel
theorem dL_acts_944 : decode cL_acts 944 = .ok (.if_icmp .ne 8, 3) := by decide +kernel
theorem dL_acts_947 : decode cL_acts 947 = .ok (.iload 10, 2) := by decide +kernel
theorem dL_acts_949 : decode cL_acts 949 = .ok (.goto 4, 3) := by decide +kernel
theorem dL_acts_952 : decode cL_acts 952 = .ok (.iconst 0, 1) := by decide +kernel
theorem dL_acts_953 : decode cL_acts 953 = .ok (.if_icmp .ne 7, 3) := by decide +kernel
theorem dL_acts_956 : decode cL_acts 956 = .ok (.iconst 1, 1) := by decide +kernel
theorem dL_acts_957 : decode cL_acts 957 = .ok (.goto 4, 3) := by decide +kernel
theorem dL_acts_960 : decode cL_acts 960 = .ok (.iconst 0, 1) := by decide +kernel
theorem dL_acts_961 : decode cL_acts 961 = .ok (.ireturn, 1) := by decide +kernel
theorem dL_acts_962 : decode cL_acts 962 = .ok (.aload_n 0, 1) := by decide +kernel
theorem dL_acts_963 : decode cL_acts 963 = .ok (.iload_n 2, 1) := by decide +kernel
theorem dL_acts_964 : decode cL_acts 964 = .ok (.invokestatic 87, 3) := by decide +kernel
theorem dL_acts_967 : decode cL_acts 967 = .ok (.ifCond .eq 14, 3) := by decide +kernel
theorem dL_acts_970 : decode cL_acts 970 = .ok (.aload_n 0, 1) := by decide +kernel
theorem dL_acts_971 : decode cL_acts 971 = .ok (.invokestatic 90, 3) := by decide +kernel
theorem dL_acts_974 : decode cL_acts 974 = .ok (.ifCond .eq 7, 3) := by decide +kernel
theorem dL_acts_977 : decode cL_acts 977 = .ok (.iconst 1, 1) := by decide +kernel
theorem dL_acts_978 : decode cL_acts 978 = .ok (.goto 4, 3) := by decide +kernel
theorem dL_acts_981 : decode cL_acts 981 = .ok (.iconst 0, 1) := by decide +kernel
theorem dL_acts_982 : decode cL_acts 982 = .ok (.ireturn, 1) := by decide +kernel
theorem dL_law_0 : decode cL_law 0 = .ok (.new 14, 3) := by decide +kernel
theorem dL_law_3 : decode cL_law 3 = .ok (.dup, 1) := by decide +kernel
theorem dL_law_4 : decode cL_law 4 = .ok (.invokespecial 94, 3) := by decide +kernel
theorem dL_law_7 : decode cL_law 7 = .ok (.astore_n 1, 1) := by decide +kernel
theorem dL_law_8 : decode cL_law 8 = .ok (.aload_n 1, 1) := by decide +kernel
theorem dL_law_9 : decode cL_law 9 = .ok (.iconst 0, 1) := by decide +kernel
theorem dL_law_10 : decode cL_law 10 = .ok (.invokestatic 95, 3) := by decide +kernel
theorem dL_law_13 : decode cL_law 13 = .ok (.ifCond .eq 16, 3) := by decide +kernel
theorem dL_law_16 : decode cL_law 16 = .ok (.aload_n 1, 1) := by decide +kernel
theorem dL_law_17 : decode cL_law 17 = .ok (.invokevirtual 98, 3) := by decide +kernel
theorem dL_law_20 : decode cL_law 20 = .ok (.ldc 61, 2) := by decide +kernel
theorem dL_law_22 : decode cL_law 22 = .ok (.if_icmp .ne 7, 3) := by decide +kernel
theorem dL_law_25 : decode cL_law 25 = .ok (.iconst 1, 1) := by decide +kernel
theorem dL_law_26 : decode cL_law 26 = .ok (.goto 4, 3) := by decide +kernel
theorem dL_law_29 : decode cL_law 29 = .ok (.iconst 0, 1) := by decide +kernel
theorem dL_law_30 : decode cL_law 30 = .ok (.istore_n 2, 1) := by decide +kernel
theorem dL_law_31 : decode cL_law 31 = .ok (.iconst 0, 1) := by decide +kernel
theorem dL_law_32 : decode cL_law 32 = .ok (.istore_n 3, 1) := by decide +kernel
theorem dL_law_33 : decode cL_law 33 = .ok (.iload_n 3, 1) := by decide +kernel
theorem dL_law_34 : decode cL_law 34 = .ok (.bipush 34, 2) := by decide +kernel
theorem dL_law_36 : decode cL_law 36 = .ok (.if_icmp .ge 229, 3) := by decide +kernel
theorem dL_law_39 : decode cL_law 39 = .ok (.iload_n 2, 1) := by decide +kernel
theorem dL_law_40 : decode cL_law 40 = .ok (.ifCond .eq 225, 3) := by decide +kernel
theorem dL_law_43 : decode cL_law 43 = .ok (.aload_n 0, 1) := by decide +kernel
theorem dL_law_44 : decode cL_law 44 = .ok (.iconst 2, 1) := by decide +kernel
theorem dL_law_45 : decode cL_law 45 = .ok (.iload_n 3, 1) := by decide +kernel
theorem dL_law_46 : decode cL_law 46 = .ok (.imul, 1) := by decide +kernel
theorem dL_law_47 : decode cL_law 47 = .ok (.invokestatic 101, 3) := by decide +kernel
theorem dL_law_50 : decode cL_law 50 = .ok (.istore 4, 2) := by decide +kernel
theorem dL_law_52 : decode cL_law 52 = .ok (.aload_n 0, 1) := by decide +kernel
theorem dL_law_53 : decode cL_law 53 = .ok (.iconst 2, 1) := by decide +kernel
theorem dL_law_54 : decode cL_law 54 = .ok (.iload_n 3, 1) := by decide +kernel
theorem dL_law_55 : decode cL_law 55 = .ok (.imul, 1) := by decide +kernel
theorem dL_law_56 : decode cL_law 56 = .ok (.iconst 1, 1) := by decide +kernel
theorem dL_law_57 : decode cL_law 57 = .ok (.iadd, 1) := by decide +kernel
theorem dL_law_58 : decode cL_law 58 = .ok (.invokestatic 101, 3) := by decide +kernel
theorem dL_law_61 : decode cL_law 61 = .ok (.istore 5, 2) := by decide +kernel
theorem dL_law_63 : decode cL_law 63 = .ok (.aload_n 1, 1) := by decide +kernel
theorem dL_law_64 : decode cL_law 64 = .ok (.invokestatic 105, 3) := by decide +kernel
theorem dL_law_67 : decode cL_law 67 = .ok (.lstore 6, 2) := by decide +kernel
theorem dL_law_69 : decode cL_law 69 = .ok (.aload_n 1, 1) := by decide +kernel
theorem dL_law_70 : decode cL_law 70 = .ok (.bipush 8, 2) := by decide +kernel
theorem dL_law_72 : decode cL_law 72 = .ok (.invokevirtual 13, 3) := by decide +kernel
theorem dL_law_75 : decode cL_law 75 = .ok (.istore 8, 2) := by decide +kernel
theorem dL_law_77 : decode cL_law 77 = .ok (.aload_n 1, 1) := by decide +kernel
theorem dL_law_78 : decode cL_law 78 = .ok (.iload_n 3, 1) := by decide +kernel
theorem dL_law_79 : decode cL_law 79 = .ok (.iconst 3, 1) := by decide +kernel
theorem dL_law_80 : decode cL_law 80 = .ok (.if_icmp .ge 7, 3) := by decide +kernel
theorem dL_law_83 : decode cL_law 83 = .ok (.iconst 0, 1) := by decide +kernel
theorem dL_law_84 : decode cL_law 84 = .ok (.goto 5, 3) := by decide +kernel
