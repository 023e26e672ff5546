theorem si_227_617 : decode (sp_b 227) 617 = .ok (.if_icmp .eq 718, 3) := by decide +kernel
theorem si_227_620 : decode (sp_b 227) 620 = .ok (.iconst 0, 1) := by decide +kernel
theorem si_227_621 : decode (sp_b 227) 621 = .ok (.ireturn, 1) := by decide +kernel
theorem si_227_622 : decode (sp_b 227) 622 = .ok (.aload_n 1, 1) := by decide +kernel
theorem si_227_623 : decode (sp_b 227) 623 = .ok (.aload_n 0, 1) := by decide +kernel
theorem si_227_624 : decode (sp_b 227) 624 = .ok (.iload_n 3, 1) := by decide +kernel
theorem si_227_625 : decode (sp_b 227) 625 = .ok (.iconst 1, 1) := by decide +kernel
theorem si_227_626 : decode (sp_b 227) 626 = .ok (.iadd, 1) := by decide +kernel
theorem si_227_627 : decode (sp_b 227) 627 = .ok (.iaload, 1) := by decide +kernel
theorem si_227_628 : decode (sp_b 227) 628 = .ok (.invokevirtual 65, 3) := by decide +kernel
theorem si_227_631 : decode (sp_b 227) 631 = .ok (.aload_n 2, 1) := by decide +kernel
theorem si_227_632 : decode (sp_b 227) 632 = .ok (.aload_n 0, 1) := by decide +kernel
theorem si_227_633 : decode (sp_b 227) 633 = .ok (.iload_n 3, 1) := by decide +kernel
theorem si_227_634 : decode (sp_b 227) 634 = .ok (.iconst 1, 1) := by decide +kernel
theorem si_227_635 : decode (sp_b 227) 635 = .ok (.iadd, 1) := by decide +kernel
theorem si_227_636 : decode (sp_b 227) 636 = .ok (.iaload, 1) := by decide +kernel
theorem si_227_637 : decode (sp_b 227) 637 = .ok (.invokevirtual 68, 3) := by decide +kernel
theorem si_227_640 : decode (sp_b 227) 640 = .ok (.if_icmp .eq 695, 3) := by decide +kernel
theorem si_227_643 : decode (sp_b 227) 643 = .ok (.iconst 0, 1) := by decide +kernel
theorem si_227_644 : decode (sp_b 227) 644 = .ok (.ireturn, 1) := by decide +kernel
theorem si_227_645 : decode (sp_b 227) 645 = .ok (.aload_n 1, 1) := by decide +kernel
theorem si_227_646 : decode (sp_b 227) 646 = .ok (.aload_n 0, 1) := by decide +kernel
theorem si_227_647 : decode (sp_b 227) 647 = .ok (.iload_n 3, 1) := by decide +kernel
theorem si_227_648 : decode (sp_b 227) 648 = .ok (.iconst 1, 1) := by decide +kernel
theorem si_227_649 : decode (sp_b 227) 649 = .ok (.iadd, 1) := by decide +kernel
theorem si_227_650 : decode (sp_b 227) 650 = .ok (.iaload, 1) := by decide +kernel
theorem si_227_651 : decode (sp_b 227) 651 = .ok (.invokevirtual 69, 3) := by decide +kernel
theorem si_227_654 : decode (sp_b 227) 654 = .ok (.aload_n 2, 1) := by decide +kernel
theorem si_227_655 : decode (sp_b 227) 655 = .ok (.aload_n 0, 1) := by decide +kernel
theorem si_227_656 : decode (sp_b 227) 656 = .ok (.iload_n 3, 1) := by decide +kernel
theorem si_227_657 : decode (sp_b 227) 657 = .ok (.iconst 1, 1) := by decide +kernel
theorem si_227_658 : decode (sp_b 227) 658 = .ok (.iadd, 1) := by decide +kernel
theorem si_227_659 : decode (sp_b 227) 659 = .ok (.iaload, 1) := by decide +kernel
theorem si_227_660 : decode (sp_b 227) 660 = .ok (.invokevirtual 72, 3) := by decide +kernel
theorem si_227_663 : decode (sp_b 227) 663 = .ok (.if_icmp .eq 672, 3) := by decide +kernel
theorem si_227_666 : decode (sp_b 227) 666 = .ok (.iconst 0, 1) := by decide +kernel
theorem si_227_667 : decode (sp_b 227) 667 = .ok (.ireturn, 1) := by decide +kernel
theorem si_227_668 : decode (sp_b 227) 668 = .ok (.aload_n 1, 1) := by decide +kernel
theorem si_227_669 : decode (sp_b 227) 669 = .ok (.aload_n 0, 1) := by decide +kernel
theorem si_227_670 : decode (sp_b 227) 670 = .ok (.iload_n 3, 1) := by decide +kernel
theorem si_227_671 : decode (sp_b 227) 671 = .ok (.iconst 1, 1) := by decide +kernel
theorem si_227_672 : decode (sp_b 227) 672 = .ok (.iadd, 1) := by decide +kernel
theorem si_227_673 : decode (sp_b 227) 673 = .ok (.iaload, 1) := by decide +kernel
theorem si_227_674 : decode (sp_b 227) 674 = .ok (.invokevirtual 73, 3) := by decide +kernel
theorem si_227_677 : decode (sp_b 227) 677 = .ok (.aload_n 2, 1) := by decide +kernel
theorem si_227_678 : decode (sp_b 227) 678 = .ok (.aload_n 0, 1) := by decide +kernel
theorem si_227_679 : decode (sp_b 227) 679 = .ok (.iload_n 3, 1) := by decide +kernel
theorem si_227_680 : decode (sp_b 227) 680 = .ok (.iconst 1, 1) := by decide +kernel
theorem si_227_681 : decode (sp_b 227) 681 = .ok (.iadd, 1) := by decide +kernel
theorem si_227_682 : decode (sp_b 227) 682 = .ok (.iaload, 1) := by decide +kernel
theorem si_227_683 : decode (sp_b 227) 683 = .ok (.invokevirtual 76, 3) := by decide +kernel
theorem si_227_686 : decode (sp_b 227) 686 = .ok (.if_icmp .eq 649, 3) := by decide +kernel
theorem si_227_689 : decode (sp_b 227) 689 = .ok (.iconst 0, 1) := by decide +kernel
theorem si_227_690 : decode (sp_b 227) 690 = .ok (.ireturn, 1) := by decide +kernel
theorem si_227_691 : decode (sp_b 227) 691 = .ok (.aload_n 1, 1) := by decide +kernel
theorem si_227_692 : decode (sp_b 227) 692 = .ok (.aload_n 0, 1) := by decide +kernel
theorem si_227_693 : decode (sp_b 227) 693 = .ok (.iload_n 3, 1) := by decide +kernel
theorem si_227_694 : decode (sp_b 227) 694 = .ok (.iconst 1, 1) := by decide +kernel
theorem si_227_695 : decode (sp_b 227) 695 = .ok (.iadd, 1) := by decide +kernel
theorem si_227_696 : decode (sp_b 227) 696 = .ok (.iaload, 1) := by decide +kernel
theorem si_227_697 : decode (sp_b 227) 697 = .ok (.invokevirtual 77, 3) := by decide +kernel
theorem si_227_700 : decode (sp_b 227) 700 = .ok (.aload_n 2, 1) := by decide +kernel
theorem si_227_701 : decode (sp_b 227) 701 = .ok (.aload_n 0, 1) := by decide +kernel
theorem si_227_702 : decode (sp_b 227) 702 = .ok (.iload_n 3, 1) := by decide +kernel
theorem si_227_703 : decode (sp_b 227) 703 = .ok (.iconst 1, 1) := by decide +kernel
theorem si_227_704 : decode (sp_b 227) 704 = .ok (.iadd, 1) := by decide +kernel
theorem si_227_705 : decode (sp_b 227) 705 = .ok (.iaload, 1) := by decide +kernel
theorem si_227_706 : decode (sp_b 227) 706 = .ok (.invokevirtual 80, 3) := by decide +kernel
theorem si_227_709 : decode (sp_b 227) 709 = .ok (.if_icmp .eq 626, 3) := by decide +kernel
theorem si_227_712 : decode (sp_b 227) 712 = .ok (.iconst 0, 1) := by decide +kernel
theorem si_227_713 : decode (sp_b 227) 713 = .ok (.ireturn, 1) := by decide +kernel
theorem si_227_714 : decode (sp_b 227) 714 = .ok (.aload_n 1, 1) := by decide +kernel
theorem si_227_715 : decode (sp_b 227) 715 = .ok (.aload_n 0, 1) := by decide +kernel
theorem si_227_716 : decode (sp_b 227) 716 = .ok (.iload_n 3, 1) := by decide +kernel
theorem si_227_717 : decode (sp_b 227) 717 = .ok (.iconst 1, 1) := by decide +kernel
theorem si_227_718 : decode (sp_b 227) 718 = .ok (.iadd, 1) := by decide +kernel
theorem si_227_719 : decode (sp_b 227) 719 = .ok (.iaload, 1) := by decide +kernel
theorem si_227_720 : decode (sp_b 227) 720 = .ok (.invokevirtual 81, 3) := by decide +kernel
theorem si_227_723 : decode (sp_b 227) 723 = .ok (.aload_n 2, 1) := by decide +kernel
theorem si_227_724 : decode (sp_b 227) 724 = .ok (.aload_n 0, 1) := by decide +kernel
theorem si_227_725 : decode (sp_b 227) 725 = .ok (.iload_n 3, 1) := by decide +kernel
theorem si_227_726 : decode (sp_b 227) 726 = .ok (.iconst 1, 1) := by decide +kernel
theorem si_227_727 : decode (sp_b 227) 727 = .ok (.iadd, 1) := by decide +kernel
theorem si_227_728 : decode (sp_b 227) 728 = .ok (.iaload, 1) := by decide +kernel
theorem si_227_729 : decode (sp_b 227) 729 = .ok (.invokevirtual 84, 3) := by decide +kernel
theorem si_227_732 : decode (sp_b 227) 732 = .ok (.if_icmp .eq 603, 3) := by decide +kernel
theorem si_227_735 : decode (sp_b 227) 735 = .ok (.iconst 0, 1) := by decide +kernel
theorem si_227_736 : decode (sp_b 227) 736 = .ok (.ireturn, 1) := by decide +kernel
theorem si_227_737 : decode (sp_b 227) 737 = .ok (.aload_n 1, 1) := by decide +kernel
theorem si_227_738 : decode (sp_b 227) 738 = .ok (.aload_n 0, 1) := by decide +kernel
theorem si_227_739 : decode (sp_b 227) 739 = .ok (.iload_n 3, 1) := by decide +kernel
theorem si_227_740 : decode (sp_b 227) 740 = .ok (.iconst 1, 1) := by decide +kernel
theorem si_227_741 : decode (sp_b 227) 741 = .ok (.iadd, 1) := by decide +kernel
theorem si_227_742 : decode (sp_b 227) 742 = .ok (.iaload, 1) := by decide +kernel
theorem si_227_743 : decode (sp_b 227) 743 = .ok (.invokevirtual 85, 3) := by decide +kernel
theorem si_227_746 : decode (sp_b 227) 746 = .ok (.aload_n 2, 1) := by decide +kernel
theorem si_227_747 : decode (sp_b 227) 747 = .ok (.aload_n 0, 1) := by decide +kernel
theorem si_227_748 : decode (sp_b 227) 748 = .ok (.iload_n 3, 1) := by decide +kernel
theorem si_227_749 : decode (sp_b 227) 749 = .ok (.iconst 1, 1) := by decide +kernel
theorem si_227_750 : decode (sp_b 227) 750 = .ok (.iadd, 1) := by decide +kernel
theorem si_227_751 : decode (sp_b 227) 751 = .ok (.iaload, 1) := by decide +kernel
theorem si_227_752 : decode (sp_b 227) 752 = .ok (.invokevirtual 88, 3) := by decide +kernel
theorem si_227_755 : decode (sp_b 227) 755 = .ok (.if_icmp .eq 580, 3) := by decide +kernel
theorem si_227_758 : decode (sp_b 227) 758 = .ok (.iconst 0, 1) := by decide +kernel
theorem si_227_759 : decode (sp_b 227) 759 = .ok (.ireturn, 1) := by decide +kernel
theorem si_227_760 : decode (sp_b 227) 760 = .ok (.aload_n 1, 1) := by decide +kernel
theorem si_227_761 : decode (sp_b 227) 761 = .ok (.invokevirtual 89, 3) := by decide +kernel
theorem si_227_764 : decode (sp_b 227) 764 = .ok (.aload_n 2, 1) := by decide +kernel
theorem si_227_765 : decode (sp_b 227) 765 = .ok (.invokevirtual 93, 3) := by decide +kernel
theorem si_227_768 : decode (sp_b 227) 768 = .ok (.if_icmp .eq 567, 3) := by decide +kernel
theorem si_227_771 : decode (sp_b 227) 771 = .ok (.iconst 0, 1) := by decide +kernel
theorem si_227_772 : decode (sp_b 227) 772 = .ok (.ireturn, 1) := by decide +kernel
theorem si_227_773 : decode (sp_b 227) 773 = .ok (.aload_n 1, 1) := by decide +kernel
theorem si_227_774 : decode (sp_b 227) 774 = .ok (.aload_n 0, 1) := by decide +kernel
theorem si_227_775 : decode (sp_b 227) 775 = .ok (.iload_n 3, 1) := by decide +kernel
theorem si_227_776 : decode (sp_b 227) 776 = .ok (.iconst 1, 1) := by decide +kernel
theorem si_227_777 : decode (sp_b 227) 777 = .ok (.iadd, 1) := by decide +kernel
theorem si_227_778 : decode (sp_b 227) 778 = .ok (.iaload, 1) := by decide +kernel
theorem si_227_779 : decode (sp_b 227) 779 = .ok (.invokevirtual 94, 3) := by decide +kernel
theorem si_227_782 : decode (sp_b 227) 782 = .ok (.aload_n 2, 1) := by decide +kernel
theorem si_227_783 : decode (sp_b 227) 783 = .ok (.aload_n 0, 1) := by decide +kernel
theorem si_227_784 : decode (sp_b 227) 784 = .ok (.iload_n 3, 1) := by decide +kernel
theorem si_227_785 : decode (sp_b 227) 785 = .ok (.iconst 1, 1) := by decide +kernel
theorem si_227_786 : decode (sp_b 227) 786 = .ok (.iadd, 1) := by decide +kernel
theorem si_227_787 : decode (sp_b 227) 787 = .ok (.iaload, 1) := by decide +kernel
theorem si_227_788 : decode (sp_b 227) 788 = .ok (.invokevirtual 97, 3) := by decide +kernel
theorem si_227_791 : decode (sp_b 227) 791 = .ok (.if_icmp .eq 544, 3) := by decide +kernel
theorem si_227_794 : decode (sp_b 227) 794 = .ok (.iconst 0, 1) := by decide +kernel
theorem si_227_795 : decode (sp_b 227) 795 = .ok (.ireturn, 1) := by decide +kernel
theorem si_227_796 : decode (sp_b 227) 796 = .ok (.aload_n 1, 1) := by decide +kernel
theorem si_227_797 : decode (sp_b 227) 797 = .ok (.aload_n 0, 1) := by decide +kernel
theorem si_227_798 : decode (sp_b 227) 798 = .ok (.iload_n 3, 1) := by decide +kernel
theorem si_227_799 : decode (sp_b 227) 799 = .ok (.iconst 1, 1) := by decide +kernel
theorem si_227_800 : decode (sp_b 227) 800 = .ok (.iadd, 1) := by decide +kernel
theorem si_227_801 : decode (sp_b 227) 801 = .ok (.iaload, 1) := by decide +kernel
theorem si_227_802 : decode (sp_b 227) 802 = .ok (.invokevirtual 98, 3) := by decide +kernel
theorem si_227_805 : decode (sp_b 227) 805 = .ok (.aload_n 2, 1) := by decide +kernel
theorem si_227_806 : decode (sp_b 227) 806 = .ok (.aload_n 0, 1) := by decide +kernel
theorem si_227_807 : decode (sp_b 227) 807 = .ok (.iload_n 3, 1) := by decide +kernel
theorem si_227_808 : decode (sp_b 227) 808 = .ok (.iconst 1, 1) := by decide +kernel
theorem si_227_809 : decode (sp_b 227) 809 = .ok (.iadd, 1) := by decide +kernel
theorem si_227_810 : decode (sp_b 227) 810 = .ok (.iaload, 1) := by decide +kernel
theorem si_227_811 : decode (sp_b 227) 811 = .ok (.invokevirtual 101, 3) := by decide +kernel
theorem si_227_814 : decode (sp_b 227) 814 = .ok (.if_icmp .eq 521, 3) := by decide +kernel
theorem si_227_817 : decode (sp_b 227) 817 = .ok (.iconst 0, 1) := by decide +kernel
theorem si_227_818 : decode (sp_b 227) 818 = .ok (.ireturn, 1) := by decide +kernel
theorem si_227_819 : decode (sp_b 227) 819 = .ok (.aload_n 1, 1) := by decide +kernel
theorem si_227_820 : decode (sp_b 227) 820 = .ok (.aload_n 0, 1) := by decide +kernel
theorem si_227_821 : decode (sp_b 227) 821 = .ok (.iload_n 3, 1) := by decide +kernel
theorem si_227_822 : decode (sp_b 227) 822 = .ok (.iconst 1, 1) := by decide +kernel
theorem si_227_823 : decode (sp_b 227) 823 = .ok (.iadd, 1) := by decide +kernel
theorem si_227_824 : decode (sp_b 227) 824 = .ok (.iaload, 1) := by decide +kernel
theorem si_227_825 : decode (sp_b 227) 825 = .ok (.invokevirtual 102, 3) := by decide +kernel
theorem si_227_828 : decode (sp_b 227) 828 = .ok (.aload_n 2, 1) := by decide +kernel
theorem si_227_829 : decode (sp_b 227) 829 = .ok (.aload_n 0, 1) := by decide +kernel
theorem si_227_830 : decode (sp_b 227) 830 = .ok (.iload_n 3, 1) := by decide +kernel
theorem si_227_831 : decode (sp_b 227) 831 = .ok (.iconst 1, 1) := by decide +kernel
theorem si_227_832 : decode (sp_b 227) 832 = .ok (.iadd, 1) := by decide +kernel
theorem si_227_833 : decode (sp_b 227) 833 = .ok (.iaload, 1) := by decide +kernel
theorem si_227_834 : decode (sp_b 227) 834 = .ok (.invokevirtual 105, 3) := by decide +kernel
theorem si_227_837 : decode (sp_b 227) 837 = .ok (.if_icmp .eq 498, 3) := by decide +kernel
theorem si_227_840 : decode (sp_b 227) 840 = .ok (.iconst 0, 1) := by decide +kernel
theorem si_227_841 : decode (sp_b 227) 841 = .ok (.ireturn, 1) := by decide +kernel
theorem si_227_842 : decode (sp_b 227) 842 = .ok (.aload_n 1, 1) := by decide +kernel
theorem si_227_843 : decode (sp_b 227) 843 = .ok (.aload_n 0, 1) := by decide +kernel
theorem si_227_844 : decode (sp_b 227) 844 = .ok (.iload_n 3, 1) := by decide +kernel
theorem si_227_845 : decode (sp_b 227) 845 = .ok (.iconst 1, 1) := by decide +kernel
theorem si_227_846 : decode (sp_b 227) 846 = .ok (.iadd, 1) := by decide +kernel
theorem si_227_847 : decode (sp_b 227) 847 = .ok (.iaload, 1) := by decide +kernel
theorem si_227_848 : decode (sp_b 227) 848 = .ok (.invokevirtual 106, 3) := by decide +kernel
theorem si_227_851 : decode (sp_b 227) 851 = .ok (.aload_n 2, 1) := by decide +kernel
theorem si_227_852 : decode (sp_b 227) 852 = .ok (.aload_n 0, 1) := by decide +kernel
theorem si_227_853 : decode (sp_b 227) 853 = .ok (.iload_n 3, 1) := by decide +kernel
theorem si_227_854 : decode (sp_b 227) 854 = .ok (.iconst 1, 1) := by decide +kernel
theorem si_227_855 : decode (sp_b 227) 855 = .ok (.iadd, 1) := by decide +kernel
theorem si_227_856 : decode (sp_b 227) 856 = .ok (.iaload, 1) := by decide +kernel
theorem si_227_857 : decode (sp_b 227) 857 = .ok (.invokevirtual 109, 3) := by decide +kernel
theorem si_227_860 : decode (sp_b 227) 860 = .ok (.if_icmp .eq 475, 3) := by decide +kernel
theorem si_227_863 : decode (sp_b 227) 863 = .ok (.iconst 0, 1) := by decide +kernel
theorem si_227_864 : decode (sp_b 227) 864 = .ok (.ireturn, 1) := by decide +kernel
theorem si_227_865 : decode (sp_b 227) 865 = .ok (.aload_n 1, 1) := by decide +kernel
theorem si_227_866 : decode (sp_b 227) 866 = .ok (.aload_n 0, 1) := by decide +kernel
theorem si_227_867 : decode (sp_b 227) 867 = .ok (.iload_n 3, 1) := by decide +kernel
theorem si_227_868 : decode (sp_b 227) 868 = .ok (.iconst 1, 1) := by decide +kernel
theorem si_227_869 : decode (sp_b 227) 869 = .ok (.iadd, 1) := by decide +kernel
theorem si_227_870 : decode (sp_b 227) 870 = .ok (.iaload, 1) := by decide +kernel
theorem si_227_871 : decode (sp_b 227) 871 = .ok (.aload_n 0, 1) := by decide +kernel
theorem si_227_872 : decode (sp_b 227) 872 = .ok (.iload_n 3, 1) := by decide +kernel
theorem si_227_873 : decode (sp_b 227) 873 = .ok (.iconst 2, 1) := by decide +kernel
theorem si_227_874 : decode (sp_b 227) 874 = .ok (.iadd, 1) := by decide +kernel
theorem si_227_875 : decode (sp_b 227) 875 = .ok (.iaload, 1) := by decide +kernel
theorem si_227_876 : decode (sp_b 227) 876 = .ok (.invokevirtual 110, 3) := by decide +kernel
theorem si_227_879 : decode (sp_b 227) 879 = .ok (.aload_n 2, 1) := by decide +kernel
theorem si_227_880 : decode (sp_b 227) 880 = .ok (.aload_n 0, 1) := by decide +kernel
theorem si_227_881 : decode (sp_b 227) 881 = .ok (.iload_n 3, 1) := by decide +kernel
theorem si_227_882 : decode (sp_b 227) 882 = .ok (.iconst 1, 1) := by decide +kernel
theorem si_227_883 : decode (sp_b 227) 883 = .ok (.iadd, 1) := by decide +kernel
theorem si_227_884 : decode (sp_b 227) 884 = .ok (.iaload, 1) := by decide +kernel
theorem si_227_885 : decode (sp_b 227) 885 = .ok (.aload_n 0, 1) := by decide +kernel
theorem si_227_886 : decode (sp_b 227) 886 = .ok (.iload_n 3, 1) := by decide +kernel
theorem si_227_887 : decode (sp_b 227) 887 = .ok (.iconst 2, 1) := by decide +kernel
theorem si_227_888 : decode (sp_b 227) 888 = .ok (.iadd, 1) := by decide +kernel
theorem si_227_889 : decode (sp_b 227) 889 = .ok (.iaload, 1) := by decide +kernel
theorem si_227_890 : decode (sp_b 227) 890 = .ok (.invokevirtual 113, 3) := by decide +kernel
theorem si_227_893 : decode (sp_b 227) 893 = .ok (.if_icmp .eq 442, 3) := by decide +kernel
theorem si_227_896 : decode (sp_b 227) 896 = .ok (.iconst 0, 1) := by decide +kernel
theorem si_227_897 : decode (sp_b 227) 897 = .ok (.ireturn, 1) := by decide +kernel
theorem si_227_898 : decode (sp_b 227) 898 = .ok (.aload_n 1, 1) := by decide +kernel
theorem si_227_899 : decode (sp_b 227) 899 = .ok (.aload_n 0, 1) := by decide +kernel
theorem si_227_900 : decode (sp_b 227) 900 = .ok (.iload_n 3, 1) := by decide +kernel
theorem si_227_901 : decode (sp_b 227) 901 = .ok (.iconst 1, 1) := by decide +kernel
theorem si_227_902 : decode (sp_b 227) 902 = .ok (.iadd, 1) := by decide +kernel
theorem si_227_903 : decode (sp_b 227) 903 = .ok (.iaload, 1) := by decide +kernel
theorem si_227_904 : decode (sp_b 227) 904 = .ok (.aload_n 0, 1) := by decide +kernel
theorem si_227_905 : decode (sp_b 227) 905 = .ok (.iload_n 3, 1) := by decide +kernel
theorem si_227_906 : decode (sp_b 227) 906 = .ok (.iconst 2, 1) := by decide +kernel
theorem si_227_907 : decode (sp_b 227) 907 = .ok (.iadd, 1) := by decide +kernel
theorem si_227_908 : decode (sp_b 227) 908 = .ok (.iaload, 1) := by decide +kernel
theorem si_227_909 : decode (sp_b 227) 909 = .ok (.invokevirtual 114, 3) := by decide +kernel
theorem si_227_912 : decode (sp_b 227) 912 = .ok (.aload_n 2, 1) := by decide +kernel
theorem si_227_913 : decode (sp_b 227) 913 = .ok (.aload_n 0, 1) := by decide +kernel
theorem si_227_914 : decode (sp_b 227) 914 = .ok (.iload_n 3, 1) := by decide +kernel
theorem si_227_915 : decode (sp_b 227) 915 = .ok (.iconst 1, 1) := by decide +kernel
theorem si_227_916 : decode (sp_b 227) 916 = .ok (.iadd, 1) := by decide +kernel
theorem si_227_917 : decode (sp_b 227) 917 = .ok (.iaload, 1) := by decide +kernel
theorem si_227_918 : decode (sp_b 227) 918 = .ok (.aload_n 0, 1) := by decide +kernel
theorem si_227_919 : decode (sp_b 227) 919 = .ok (.iload_n 3, 1) := by decide +kernel
theorem si_227_920 : decode (sp_b 227) 920 = .ok (.iconst 2, 1) := by decide +kernel
theorem si_227_921 : decode (sp_b 227) 921 = .ok (.iadd, 1) := by decide +kernel
theorem si_227_922 : decode (sp_b 227) 922 = .ok (.iaload, 1) := by decide +kernel
theorem si_227_923 : decode (sp_b 227) 923 = .ok (.invokevirtual 117, 3) := by decide +kernel
theorem si_227_926 : decode (sp_b 227) 926 = .ok (.if_icmp .eq 409, 3) := by decide +kernel
theorem si_227_929 : decode (sp_b 227) 929 = .ok (.iconst 0, 1) := by decide +kernel
theorem si_227_930 : decode (sp_b 227) 930 = .ok (.ireturn, 1) := by decide +kernel
theorem si_227_931 : decode (sp_b 227) 931 = .ok (.aload_n 1, 1) := by decide +kernel
theorem si_227_932 : decode (sp_b 227) 932 = .ok (.aload_n 0, 1) := by decide +kernel
theorem si_227_933 : decode (sp_b 227) 933 = .ok (.iload_n 3, 1) := by decide +kernel
theorem si_227_934 : decode (sp_b 227) 934 = .ok (.iconst 1, 1) := by decide +kernel
theorem si_227_935 : decode (sp_b 227) 935 = .ok (.iadd, 1) := by decide +kernel
theorem si_227_936 : decode (sp_b 227) 936 = .ok (.iaload, 1) := by decide +kernel
theorem si_227_937 : decode (sp_b 227) 937 = .ok (.aload_n 0, 1) := by decide +kernel
theorem si_227_938 : decode (sp_b 227) 938 = .ok (.iload_n 3, 1) := by decide +kernel
theorem si_227_939 : decode (sp_b 227) 939 = .ok (.iconst 2, 1) := by decide +kernel
theorem si_227_940 : decode (sp_b 227) 940 = .ok (.iadd, 1) := by decide +kernel
theorem si_227_941 : decode (sp_b 227) 941 = .ok (.iaload, 1) := by decide +kernel
theorem si_227_942 : decode (sp_b 227) 942 = .ok (.invokevirtual 118, 3) := by decide +kernel
theorem si_227_945 : decode (sp_b 227) 945 = .ok (.aload_n 2, 1) := by decide +kernel
theorem si_227_946 : decode (sp_b 227) 946 = .ok (.aload_n 0, 1) := by decide +kernel
theorem si_227_947 : decode (sp_b 227) 947 = .ok (.iload_n 3, 1) := by decide +kernel
theorem si_227_948 : decode (sp_b 227) 948 = .ok (.iconst 1, 1) := by decide +kernel
theorem si_227_949 : decode (sp_b 227) 949 = .ok (.iadd, 1) := by decide +kernel
theorem si_227_950 : decode (sp_b 227) 950 = .ok (.iaload, 1) := by decide +kernel
theorem si_227_951 : decode (sp_b 227) 951 = .ok (.aload_n 0, 1) := by decide +kernel
theorem si_227_952 : decode (sp_b 227) 952 = .ok (.iload_n 3, 1) := by decide +kernel
theorem si_227_953 : decode (sp_b 227) 953 = .ok (.iconst 2, 1) := by decide +kernel
theorem si_227_954 : decode (sp_b 227) 954 = .ok (.iadd, 1) := by decide +kernel
theorem si_227_955 : decode (sp_b 227) 955 = .ok (.iaload, 1) := by decide +kernel
theorem si_227_956 : decode (sp_b 227) 956 = .ok (.invokevirtual 121, 3) := by decide +kernel
theorem si_227_959 : decode (sp_b 227) 959 = .ok (.if_icmp .eq 376, 3) := by decide +kernel
theorem si_227_962 : decode (sp_b 227) 962 = .ok (.iconst 0, 1) := by decide +kernel
theorem si_227_963 : decode (sp_b 227) 963 = .ok (.ireturn, 1) := by decide +kernel
theorem si_227_964 : decode (sp_b 227) 964 = .ok (.aload_n 1, 1) := by decide +kernel
theorem si_227_965 : decode (sp_b 227) 965 = .ok (.aload_n 0, 1) := by decide +kernel
theorem si_227_966 : decode (sp_b 227) 966 = .ok (.iload_n 3, 1) := by decide +kernel
theorem si_227_967 : decode (sp_b 227) 967 = .ok (.iconst 1, 1) := by decide +kernel
theorem si_227_968 : decode (sp_b 227) 968 = .ok (.iadd, 1) := by decide +kernel
theorem si_227_969 : decode (sp_b 227) 969 = .ok (.iaload, 1) := by decide +kernel
theorem si_227_970 : decode (sp_b 227) 970 = .ok (.invokevirtual 122, 3) := by decide +kernel
theorem si_227_973 : decode (sp_b 227) 973 = .ok (.aload_n 2, 1) := by decide +kernel
theorem si_227_974 : decode (sp_b 227) 974 = .ok (.aload_n 0, 1) := by decide +kernel
theorem si_227_975 : decode (sp_b 227) 975 = .ok (.iload_n 3, 1) := by decide +kernel
theorem si_227_976 : decode (sp_b 227) 976 = .ok (.iconst 1, 1) := by decide +kernel
theorem si_227_977 : decode (sp_b 227) 977 = .ok (.iadd, 1) := by decide +kernel
theorem si_227_978 : decode (sp_b 227) 978 = .ok (.iaload, 1) := by decide +kernel
theorem si_227_979 : decode (sp_b 227) 979 = .ok (.invokevirtual 125, 3) := by decide +kernel
theorem si_227_982 : decode (sp_b 227) 982 = .ok (.if_icmp .eq 353, 3) := by decide +kernel
theorem si_227_985 : decode (sp_b 227) 985 = .ok (.iconst 0, 1) := by decide +kernel
theorem si_227_986 : decode (sp_b 227) 986 = .ok (.ireturn, 1) := by decide +kernel
theorem si_227_987 : decode (sp_b 227) 987 = .ok (.aload_n 1, 1) := by decide +kernel
theorem si_227_988 : decode (sp_b 227) 988 = .ok (.aload_n 0, 1) := by decide +kernel
theorem si_227_989 : decode (sp_b 227) 989 = .ok (.iload_n 3, 1) := by decide +kernel
theorem si_227_990 : decode (sp_b 227) 990 = .ok (.iconst 1, 1) := by decide +kernel
theorem si_227_991 : decode (sp_b 227) 991 = .ok (.iadd, 1) := by decide +kernel
theorem si_227_992 : decode (sp_b 227) 992 = .ok (.iaload, 1) := by decide +kernel
theorem si_227_993 : decode (sp_b 227) 993 = .ok (.aload_n 0, 1) := by decide +kernel
theorem si_227_994 : decode (sp_b 227) 994 = .ok (.iload_n 3, 1) := by decide +kernel
theorem si_227_995 : decode (sp_b 227) 995 = .ok (.iconst 2, 1) := by decide +kernel
theorem si_227_996 : decode (sp_b 227) 996 = .ok (.iadd, 1) := by decide +kernel
theorem si_227_997 : decode (sp_b 227) 997 = .ok (.iaload, 1) := by decide +kernel
theorem si_227_998 : decode (sp_b 227) 998 = .ok (.invokevirtual 126, 3) := by decide +kernel
theorem si_227_1001 : decode (sp_b 227) 1001 = .ok (.aload_n 2, 1) := by decide +kernel
theorem si_227_1002 : decode (sp_b 227) 1002 = .ok (.aload_n 0, 1) := by decide +kernel
theorem si_227_1003 : decode (sp_b 227) 1003 = .ok (.iload_n 3, 1) := by decide +kernel
theorem si_227_1004 : decode (sp_b 227) 1004 = .ok (.iconst 1, 1) := by decide +kernel
theorem si_227_1005 : decode (sp_b 227) 1005 = .ok (.iadd, 1) := by decide +kernel
theorem si_227_1006 : decode (sp_b 227) 1006 = .ok (.iaload, 1) := by decide +kernel
theorem si_227_1007 : decode (sp_b 227) 1007 = .ok (.aload_n 0, 1) := by decide +kernel
theorem si_227_1008 : decode (sp_b 227) 1008 = .ok (.iload_n 3, 1) := by decide +kernel
theorem si_227_1009 : decode (sp_b 227) 1009 = .ok (.iconst 2, 1) := by decide +kernel
theorem si_227_1010 : decode (sp_b 227) 1010 = .ok (.iadd, 1) := by decide +kernel
theorem si_227_1011 : decode (sp_b 227) 1011 = .ok (.iaload, 1) := by decide +kernel
theorem si_227_1012 : decode (sp_b 227) 1012 = .ok (.invokevirtual 129, 3) := by decide +kernel
theorem si_227_1015 : decode (sp_b 227) 1015 = .ok (.if_icmp .eq 320, 3) := by decide +kernel
theorem si_227_1018 : decode (sp_b 227) 1018 = .ok (.iconst 0, 1) := by decide +kernel
theorem si_227_1019 : decode (sp_b 227) 1019 = .ok (.ireturn, 1) := by decide +kernel
theorem si_227_1020 : decode (sp_b 227) 1020 = .ok (.aload_n 1, 1) := by decide +kernel
theorem si_227_1021 : decode (sp_b 227) 1021 = .ok (.aload_n 0, 1) := by decide +kernel
theorem si_227_1022 : decode (sp_b 227) 1022 = .ok (.iload_n 3, 1) := by decide +kernel
theorem si_227_1023 : decode (sp_b 227) 1023 = .ok (.iconst 1, 1) := by decide +kernel
theorem si_227_1024 : decode (sp_b 227) 1024 = .ok (.iadd, 1) := by decide +kernel
theorem si_227_1025 : decode (sp_b 227) 1025 = .ok (.iaload, 1) := by decide +kernel
theorem si_227_1026 : decode (sp_b 227) 1026 = .ok (.invokevirtual 130, 3) := by decide +kernel
theorem si_227_1029 : decode (sp_b 227) 1029 = .ok (.aload_n 2, 1) := by decide +kernel
theorem si_227_1030 : decode (sp_b 227) 1030 = .ok (.aload_n 0, 1) := by decide +kernel
theorem si_227_1031 : decode (sp_b 227) 1031 = .ok (.iload_n 3, 1) := by decide +kernel
theorem si_227_1032 : decode (sp_b 227) 1032 = .ok (.iconst 1, 1) := by decide +kernel
theorem si_227_1033 : decode (sp_b 227) 1033 = .ok (.iadd, 1) := by decide +kernel
theorem si_227_1034 : decode (sp_b 227) 1034 = .ok (.iaload, 1) := by decide +kernel
theorem si_227_1035 : decode (sp_b 227) 1035 = .ok (.invokevirtual 133, 3) := by decide +kernel
theorem si_227_1038 : decode (sp_b 227) 1038 = .ok (.if_icmp .eq 297, 3) := by decide +kernel
theorem si_227_1041 : decode (sp_b 227) 1041 = .ok (.iconst 0, 1) := by decide +kernel
theorem si_227_1042 : decode (sp_b 227) 1042 = .ok (.ireturn, 1) := by decide +kernel
theorem si_227_1043 : decode (sp_b 227) 1043 = .ok (.aload_n 1, 1) := by decide +kernel
theorem si_227_1044 : decode (sp_b 227) 1044 = .ok (.aload_n 0, 1) := by decide +kernel
theorem si_227_1045 : decode (sp_b 227) 1045 = .ok (.iload_n 3, 1) := by decide +kernel
theorem si_227_1046 : decode (sp_b 227) 1046 = .ok (.iconst 1, 1) := by decide +kernel
theorem si_227_1047 : decode (sp_b 227) 1047 = .ok (.iadd, 1) := by decide +kernel
theorem si_227_1048 : decode (sp_b 227) 1048 = .ok (.iaload, 1) := by decide +kernel
theorem si_227_1049 : decode (sp_b 227) 1049 = .ok (.aload_n 0, 1) := by decide +kernel
theorem si_227_1050 : decode (sp_b 227) 1050 = .ok (.iload_n 3, 1) := by decide +kernel
theorem si_227_1051 : decode (sp_b 227) 1051 = .ok (.iconst 2, 1) := by decide +kernel
theorem si_227_1052 : decode (sp_b 227) 1052 = .ok (.iadd, 1) := by decide +kernel
theorem si_227_1053 : decode (sp_b 227) 1053 = .ok (.iaload, 1) := by decide +kernel
theorem si_227_1054 : decode (sp_b 227) 1054 = .ok (.aload_n 0, 1) := by decide +kernel
theorem si_227_1055 : decode (sp_b 227) 1055 = .ok (.iload_n 3, 1) := by decide +kernel
theorem si_227_1056 : decode (sp_b 227) 1056 = .ok (.iconst 3, 1) := by decide +kernel
theorem si_227_1057 : decode (sp_b 227) 1057 = .ok (.iadd, 1) := by decide +kernel
theorem si_227_1058 : decode (sp_b 227) 1058 = .ok (.iaload, 1) := by decide +kernel
theorem si_227_1059 : decode (sp_b 227) 1059 = .ok (.invokevirtual 134, 3) := by decide +kernel
theorem si_227_1062 : decode (sp_b 227) 1062 = .ok (.aload_n 2, 1) := by decide +kernel
theorem si_227_1063 : decode (sp_b 227) 1063 = .ok (.aload_n 0, 1) := by decide +kernel
theorem si_227_1064 : decode (sp_b 227) 1064 = .ok (.iload_n 3, 1) := by decide +kernel
theorem si_227_1065 : decode (sp_b 227) 1065 = .ok (.iconst 1, 1) := by decide +kernel
theorem si_227_1066 : decode (sp_b 227) 1066 = .ok (.iadd, 1) := by decide +kernel
theorem si_227_1067 : decode (sp_b 227) 1067 = .ok (.iaload, 1) := by decide +kernel
theorem si_227_1068 : decode (sp_b 227) 1068 = .ok (.aload_n 0, 1) := by decide +kernel
theorem si_227_1069 : decode (sp_b 227) 1069 = .ok (.iload_n 3, 1) := by decide +kernel
theorem si_227_1070 : decode (sp_b 227) 1070 = .ok (.iconst 2, 1) := by decide +kernel
theorem si_227_1071 : decode (sp_b 227) 1071 = .ok (.iadd, 1) := by decide +kernel
theorem si_227_1072 : decode (sp_b 227) 1072 = .ok (.iaload, 1) := by decide +kernel
theorem si_227_1073 : decode (sp_b 227) 1073 = .ok (.aload_n 0, 1) := by decide +kernel
theorem si_227_1074 : decode (sp_b 227) 1074 = .ok (.iload_n 3, 1) := by decide +kernel
theorem si_227_1075 : decode (sp_b 227) 1075 = .ok (.iconst 3, 1) := by decide +kernel
theorem si_227_1076 : decode (sp_b 227) 1076 = .ok (.iadd, 1) := by decide +kernel
