theorem d_LW_law_630 : decode b_LW_law 630 = .ok (.i2l, 1) := by decide +kernel
theorem d_LW_law_631 : decode b_LW_law 631 = .ok (.lcmp, 1) := by decide +kernel
theorem d_LW_law_632 : decode b_LW_law 632 = .ok (.ifCond .eq 5, 3) := by decide +kernel
theorem d_LW_law_637 : decode b_LW_law 637 = .ok (.goto 262, 3) := by decide +kernel
theorem d_LW_law_640 : decode b_LW_law 640 = .ok (.aload_n 1, 1) := by decide +kernel
theorem d_LW_law_641 : decode b_LW_law 641 = .ok (.aload_n 0, 1) := by decide +kernel
theorem d_LW_law_642 : decode b_LW_law 642 = .ok (.iload 4, 2) := by decide +kernel
theorem d_LW_law_644 : decode b_LW_law 644 = .ok (.iconst 1, 1) := by decide +kernel
theorem d_LW_law_645 : decode b_LW_law 645 = .ok (.iadd, 1) := by decide +kernel
theorem d_LW_law_646 : decode b_LW_law 646 = .ok (.iaload, 1) := by decide +kernel
theorem d_LW_law_647 : decode b_LW_law 647 = .ok (.aload_n 0, 1) := by decide +kernel
theorem d_LW_law_648 : decode b_LW_law 648 = .ok (.iload 4, 2) := by decide +kernel
theorem d_LW_law_650 : decode b_LW_law 650 = .ok (.iconst 2, 1) := by decide +kernel
theorem d_LW_law_651 : decode b_LW_law 651 = .ok (.iadd, 1) := by decide +kernel
theorem d_LW_law_652 : decode b_LW_law 652 = .ok (.iaload, 1) := by decide +kernel
theorem d_LW_law_653 : decode b_LW_law 653 = .ok (.invokestatic 106, 3) := by decide +kernel
theorem d_LW_law_656 : decode b_LW_law 656 = .ok (.istore 5, 2) := by decide +kernel
theorem d_LW_law_658 : decode b_LW_law 658 = .ok (.aload_n 2, 1) := by decide +kernel
theorem d_LW_law_659 : decode b_LW_law 659 = .ok (.aload_n 0, 1) := by decide +kernel
theorem d_LW_law_660 : decode b_LW_law 660 = .ok (.iload 4, 2) := by decide +kernel
theorem d_LW_law_662 : decode b_LW_law 662 = .ok (.iconst 1, 1) := by decide +kernel
theorem d_LW_law_663 : decode b_LW_law 663 = .ok (.iadd, 1) := by decide +kernel
theorem d_LW_law_664 : decode b_LW_law 664 = .ok (.iaload, 1) := by decide +kernel
theorem d_LW_law_665 : decode b_LW_law 665 = .ok (.aload_n 0, 1) := by decide +kernel
theorem d_LW_law_666 : decode b_LW_law 666 = .ok (.iload 4, 2) := by decide +kernel
theorem d_LW_law_668 : decode b_LW_law 668 = .ok (.iconst 2, 1) := by decide +kernel
theorem d_LW_law_669 : decode b_LW_law 669 = .ok (.iadd, 1) := by decide +kernel
theorem d_LW_law_670 : decode b_LW_law 670 = .ok (.iaload, 1) := by decide +kernel
theorem d_LW_law_671 : decode b_LW_law 671 = .ok (.invokevirtual 109, 3) := by decide +kernel
theorem d_LW_law_674 : decode b_LW_law 674 = .ok (.aload_n 2, 1) := by decide +kernel
theorem d_LW_law_675 : decode b_LW_law 675 = .ok (.invokevirtual 86, 3) := by decide +kernel
theorem d_LW_law_678 : decode b_LW_law 678 = .ok (.iload 5, 2) := by decide +kernel
theorem d_LW_law_680 : decode b_LW_law 680 = .ok (.if_icmp .eq 5, 3) := by decide +kernel
theorem d_LW_law_685 : decode b_LW_law 685 = .ok (.goto 214, 3) := by decide +kernel
theorem d_LW_law_688 : decode b_LW_law 688 = .ok (.aload_n 1, 1) := by decide +kernel
theorem d_LW_law_689 : decode b_LW_law 689 = .ok (.aload_n 3, 1) := by decide +kernel
theorem d_LW_law_690 : decode b_LW_law 690 = .ok (.invokestatic 110, 3) := by decide +kernel
theorem d_LW_law_693 : decode b_LW_law 693 = .ok (.istore 5, 2) := by decide +kernel
theorem d_LW_law_695 : decode b_LW_law 695 = .ok (.aload_n 2, 1) := by decide +kernel
theorem d_LW_law_696 : decode b_LW_law 696 = .ok (.invokevirtual 112, 3) := by decide +kernel
theorem d_LW_law_699 : decode b_LW_law 699 = .ok (.istore 6, 2) := by decide +kernel
theorem d_LW_law_701 : decode b_LW_law 701 = .ok (.aload_n 2, 1) := by decide +kernel
theorem d_LW_law_702 : decode b_LW_law 702 = .ok (.invokevirtual 86, 3) := by decide +kernel
theorem d_LW_law_705 : decode b_LW_law 705 = .ok (.iload 5, 2) := by decide +kernel
theorem d_LW_law_707 : decode b_LW_law 707 = .ok (.if_icmp .eq 5, 3) := by decide +kernel
theorem d_LW_law_712 : decode b_LW_law 712 = .ok (.iload 5, 2) := by decide +kernel
theorem d_LW_law_714 : decode b_LW_law 714 = .ok (.ifCond .ne 15, 3) := by decide +kernel
theorem d_LW_law_717 : decode b_LW_law 717 = .ok (.aload_n 3, 1) := by decide +kernel
theorem d_LW_law_718 : decode b_LW_law 718 = .ok (.iconst 0, 1) := by decide +kernel
theorem d_LW_law_719 : decode b_LW_law 719 = .ok (.laload, 1) := by decide +kernel
theorem d_LW_law_720 : decode b_LW_law 720 = .ok (.iload 6, 2) := by decide +kernel
theorem d_LW_law_722 : decode b_LW_law 722 = .ok (.i2l, 1) := by decide +kernel
theorem d_LW_law_723 : decode b_LW_law 723 = .ok (.lcmp, 1) := by decide +kernel
theorem d_LW_law_724 : decode b_LW_law 724 = .ok (.ifCond .eq 5, 3) := by decide +kernel
theorem d_LW_law_729 : decode b_LW_law 729 = .ok (.goto 170, 3) := by decide +kernel
theorem d_LW_law_732 : decode b_LW_law 732 = .ok (.aload_n 1, 1) := by decide +kernel
theorem d_LW_law_733 : decode b_LW_law 733 = .ok (.invokevirtual 113, 3) := by decide +kernel
theorem d_LW_law_736 : decode b_LW_law 736 = .ok (.aload_n 2, 1) := by decide +kernel
theorem d_LW_law_737 : decode b_LW_law 737 = .ok (.invokevirtual 116, 3) := by decide +kernel
theorem d_LW_law_740 : decode b_LW_law 740 = .ok (.if_icmp .eq 159, 3) := by decide +kernel
theorem d_LW_law_745 : decode b_LW_law 745 = .ok (.aload_n 1, 1) := by decide +kernel
theorem d_LW_law_746 : decode b_LW_law 746 = .ok (.aload_n 0, 1) := by decide +kernel
theorem d_LW_law_747 : decode b_LW_law 747 = .ok (.iload 4, 2) := by decide +kernel
theorem d_LW_law_749 : decode b_LW_law 749 = .ok (.iconst 1, 1) := by decide +kernel
theorem d_LW_law_750 : decode b_LW_law 750 = .ok (.iadd, 1) := by decide +kernel
theorem d_LW_law_751 : decode b_LW_law 751 = .ok (.iaload, 1) := by decide +kernel
theorem d_LW_law_752 : decode b_LW_law 752 = .ok (.invokevirtual 117, 3) := by decide +kernel
theorem d_LW_law_755 : decode b_LW_law 755 = .ok (.aload_n 2, 1) := by decide +kernel
theorem d_LW_law_756 : decode b_LW_law 756 = .ok (.aload_n 0, 1) := by decide +kernel
theorem d_LW_law_757 : decode b_LW_law 757 = .ok (.iload 4, 2) := by decide +kernel
theorem d_LW_law_759 : decode b_LW_law 759 = .ok (.iconst 1, 1) := by decide +kernel
theorem d_LW_law_760 : decode b_LW_law 760 = .ok (.iadd, 1) := by decide +kernel
theorem d_LW_law_761 : decode b_LW_law 761 = .ok (.iaload, 1) := by decide +kernel
theorem d_LW_law_762 : decode b_LW_law 762 = .ok (.invokevirtual 120, 3) := by decide +kernel
theorem d_LW_law_765 : decode b_LW_law 765 = .ok (.if_icmp .eq 134, 3) := by decide +kernel
theorem d_LW_law_770 : decode b_LW_law 770 = .ok (.aload_n 1, 1) := by decide +kernel
theorem d_LW_law_771 : decode b_LW_law 771 = .ok (.aload_n 0, 1) := by decide +kernel
theorem d_LW_law_772 : decode b_LW_law 772 = .ok (.iload 4, 2) := by decide +kernel
theorem d_LW_law_774 : decode b_LW_law 774 = .ok (.iconst 1, 1) := by decide +kernel
theorem d_LW_law_775 : decode b_LW_law 775 = .ok (.iadd, 1) := by decide +kernel
theorem d_LW_law_776 : decode b_LW_law 776 = .ok (.iaload, 1) := by decide +kernel
theorem d_LW_law_777 : decode b_LW_law 777 = .ok (.aload_n 0, 1) := by decide +kernel
theorem d_LW_law_778 : decode b_LW_law 778 = .ok (.iload 4, 2) := by decide +kernel
theorem d_LW_law_780 : decode b_LW_law 780 = .ok (.iconst 2, 1) := by decide +kernel
theorem d_LW_law_781 : decode b_LW_law 781 = .ok (.iadd, 1) := by decide +kernel
theorem d_LW_law_782 : decode b_LW_law 782 = .ok (.iaload, 1) := by decide +kernel
theorem d_LW_law_783 : decode b_LW_law 783 = .ok (.invokestatic 121, 3) := by decide +kernel
theorem d_LW_law_786 : decode b_LW_law 786 = .ok (.istore 5, 2) := by decide +kernel
theorem d_LW_law_788 : decode b_LW_law 788 = .ok (.aload_n 2, 1) := by decide +kernel
theorem d_LW_law_789 : decode b_LW_law 789 = .ok (.aload_n 0, 1) := by decide +kernel
theorem d_LW_law_790 : decode b_LW_law 790 = .ok (.iload 4, 2) := by decide +kernel
theorem d_LW_law_792 : decode b_LW_law 792 = .ok (.iconst 1, 1) := by decide +kernel
theorem d_LW_law_793 : decode b_LW_law 793 = .ok (.iadd, 1) := by decide +kernel
theorem d_LW_law_794 : decode b_LW_law 794 = .ok (.iaload, 1) := by decide +kernel
theorem d_LW_law_795 : decode b_LW_law 795 = .ok (.aload_n 0, 1) := by decide +kernel
theorem d_LW_law_796 : decode b_LW_law 796 = .ok (.iload 4, 2) := by decide +kernel
theorem d_LW_law_798 : decode b_LW_law 798 = .ok (.iconst 2, 1) := by decide +kernel
theorem d_LW_law_799 : decode b_LW_law 799 = .ok (.iadd, 1) := by decide +kernel
theorem d_LW_law_800 : decode b_LW_law 800 = .ok (.iaload, 1) := by decide +kernel
theorem d_LW_law_801 : decode b_LW_law 801 = .ok (.invokevirtual 123, 3) := by decide +kernel
theorem d_LW_law_804 : decode b_LW_law 804 = .ok (.aload_n 2, 1) := by decide +kernel
theorem d_LW_law_805 : decode b_LW_law 805 = .ok (.invokevirtual 86, 3) := by decide +kernel
theorem d_LW_law_808 : decode b_LW_law 808 = .ok (.iload 5, 2) := by decide +kernel
theorem d_LW_law_810 : decode b_LW_law 810 = .ok (.if_icmp .eq 5, 3) := by decide +kernel
theorem d_LW_law_815 : decode b_LW_law 815 = .ok (.goto 84, 3) := by decide +kernel
theorem d_LW_law_818 : decode b_LW_law 818 = .ok (.aload_n 1, 1) := by decide +kernel
theorem d_LW_law_819 : decode b_LW_law 819 = .ok (.aload_n 0, 1) := by decide +kernel
theorem d_LW_law_820 : decode b_LW_law 820 = .ok (.iload 4, 2) := by decide +kernel
theorem d_LW_law_822 : decode b_LW_law 822 = .ok (.iconst 1, 1) := by decide +kernel
theorem d_LW_law_823 : decode b_LW_law 823 = .ok (.iadd, 1) := by decide +kernel
theorem d_LW_law_824 : decode b_LW_law 824 = .ok (.iaload, 1) := by decide +kernel
theorem d_LW_law_825 : decode b_LW_law 825 = .ok (.aload_n 3, 1) := by decide +kernel
theorem d_LW_law_826 : decode b_LW_law 826 = .ok (.invokestatic 124, 3) := by decide +kernel
theorem d_LW_law_829 : decode b_LW_law 829 = .ok (.istore 5, 2) := by decide +kernel
theorem d_LW_law_831 : decode b_LW_law 831 = .ok (.aload_n 2, 1) := by decide +kernel
theorem d_LW_law_832 : decode b_LW_law 832 = .ok (.aload_n 0, 1) := by decide +kernel
theorem d_LW_law_833 : decode b_LW_law 833 = .ok (.iload 4, 2) := by decide +kernel
theorem d_LW_law_835 : decode b_LW_law 835 = .ok (.iconst 1, 1) := by decide +kernel
theorem d_LW_law_836 : decode b_LW_law 836 = .ok (.iadd, 1) := by decide +kernel
theorem d_LW_law_837 : decode b_LW_law 837 = .ok (.iaload, 1) := by decide +kernel
theorem d_LW_law_838 : decode b_LW_law 838 = .ok (.invokevirtual 127, 3) := by decide +kernel
theorem d_LW_law_841 : decode b_LW_law 841 = .ok (.istore 6, 2) := by decide +kernel
theorem d_LW_law_843 : decode b_LW_law 843 = .ok (.aload_n 2, 1) := by decide +kernel
theorem d_LW_law_844 : decode b_LW_law 844 = .ok (.invokevirtual 86, 3) := by decide +kernel
theorem d_LW_law_847 : decode b_LW_law 847 = .ok (.iload 5, 2) := by decide +kernel
theorem d_LW_law_849 : decode b_LW_law 849 = .ok (.if_icmp .eq 5, 3) := by decide +kernel
theorem d_LW_law_854 : decode b_LW_law 854 = .ok (.iload 5, 2) := by decide +kernel
theorem d_LW_law_856 : decode b_LW_law 856 = .ok (.ifCond .ne 15, 3) := by decide +kernel
theorem d_LW_law_859 : decode b_LW_law 859 = .ok (.aload_n 3, 1) := by decide +kernel
theorem d_LW_law_860 : decode b_LW_law 860 = .ok (.iconst 0, 1) := by decide +kernel
theorem d_LW_law_861 : decode b_LW_law 861 = .ok (.laload, 1) := by decide +kernel
theorem d_LW_law_862 : decode b_LW_law 862 = .ok (.iload 6, 2) := by decide +kernel
theorem d_LW_law_864 : decode b_LW_law 864 = .ok (.i2l, 1) := by decide +kernel
theorem d_LW_law_865 : decode b_LW_law 865 = .ok (.lcmp, 1) := by decide +kernel
theorem d_LW_law_866 : decode b_LW_law 866 = .ok (.ifCond .eq 5, 3) := by decide +kernel
theorem d_LW_law_871 : decode b_LW_law 871 = .ok (.goto 28, 3) := by decide +kernel
theorem d_LW_law_874 : decode b_LW_law 874 = .ok (.aload_n 1, 1) := by decide +kernel
theorem d_LW_law_875 : decode b_LW_law 875 = .ok (.aload_n 0, 1) := by decide +kernel
theorem d_LW_law_876 : decode b_LW_law 876 = .ok (.iload 4, 2) := by decide +kernel
theorem d_LW_law_878 : decode b_LW_law 878 = .ok (.iconst 1, 1) := by decide +kernel
theorem d_LW_law_879 : decode b_LW_law 879 = .ok (.iadd, 1) := by decide +kernel
theorem d_LW_law_880 : decode b_LW_law 880 = .ok (.iaload, 1) := by decide +kernel
theorem d_LW_law_881 : decode b_LW_law 881 = .ok (.invokevirtual 128, 3) := by decide +kernel
theorem d_LW_law_884 : decode b_LW_law 884 = .ok (.aload_n 2, 1) := by decide +kernel
theorem d_LW_law_885 : decode b_LW_law 885 = .ok (.aload_n 0, 1) := by decide +kernel
theorem d_LW_law_886 : decode b_LW_law 886 = .ok (.iload 4, 2) := by decide +kernel
theorem d_LW_law_888 : decode b_LW_law 888 = .ok (.iconst 1, 1) := by decide +kernel
theorem d_LW_law_889 : decode b_LW_law 889 = .ok (.iadd, 1) := by decide +kernel
theorem d_LW_law_890 : decode b_LW_law 890 = .ok (.iaload, 1) := by decide +kernel
theorem d_LW_law_891 : decode b_LW_law 891 = .ok (.invokevirtual 131, 3) := by decide +kernel
