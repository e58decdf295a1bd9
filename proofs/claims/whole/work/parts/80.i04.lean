theorem dX7_init_650 : decode cX7_init 650 = .ok (.bipush (-24), 2) := by decide +kernel
theorem dX7_init_652 : decode cX7_init 652 = .ok (.iastore, 1) := by decide +kernel
theorem dX7_init_653 : decode cX7_init 653 = .ok (.dup, 1) := by decide +kernel
theorem dX7_init_654 : decode cX7_init 654 = .ok (.bipush 31, 2) := by decide +kernel
theorem dX7_init_656 : decode cX7_init 656 = .ok (.bipush (-26), 2) := by decide +kernel
theorem dX7_init_658 : decode cX7_init 658 = .ok (.iastore, 1) := by decide +kernel
theorem dX7_init_659 : decode cX7_init 659 = .ok (.dup, 1) := by decide +kernel
theorem dX7_init_660 : decode cX7_init 660 = .ok (.bipush 32, 2) := by decide +kernel
theorem dX7_init_662 : decode cX7_init 662 = .ok (.bipush (-29), 2) := by decide +kernel
theorem dX7_init_664 : decode cX7_init 664 = .ok (.iastore, 1) := by decide +kernel
theorem dX7_init_665 : decode cX7_init 665 = .ok (.dup, 1) := by decide +kernel
theorem dX7_init_666 : decode cX7_init 666 = .ok (.bipush 33, 2) := by decide +kernel
theorem dX7_init_668 : decode cX7_init 668 = .ok (.bipush (-31), 2) := by decide +kernel
theorem dX7_init_670 : decode cX7_init 670 = .ok (.iastore, 1) := by decide +kernel
theorem dX7_init_671 : decode cX7_init 671 = .ok (.dup, 1) := by decide +kernel
theorem dX7_init_672 : decode cX7_init 672 = .ok (.bipush 34, 2) := by decide +kernel
theorem dX7_init_674 : decode cX7_init 674 = .ok (.bipush (-35), 2) := by decide +kernel
theorem dX7_init_676 : decode cX7_init 676 = .ok (.iastore, 1) := by decide +kernel
theorem dX7_init_677 : decode cX7_init 677 = .ok (.dup, 1) := by decide +kernel
theorem dX7_init_678 : decode cX7_init 678 = .ok (.bipush 35, 2) := by decide +kernel
theorem dX7_init_680 : decode cX7_init 680 = .ok (.bipush (-38), 2) := by decide +kernel
theorem dX7_init_682 : decode cX7_init 682 = .ok (.iastore, 1) := by decide +kernel
theorem dX7_init_683 : decode cX7_init 683 = .ok (.dup, 1) := by decide +kernel
theorem dX7_init_684 : decode cX7_init 684 = .ok (.bipush 36, 2) := by decide +kernel
theorem dX7_init_686 : decode cX7_init 686 = .ok (.bipush (-41), 2) := by decide +kernel
theorem dX7_init_688 : decode cX7_init 688 = .ok (.iastore, 1) := by decide +kernel
theorem dX7_init_689 : decode cX7_init 689 = .ok (.dup, 1) := by decide +kernel
theorem dX7_init_690 : decode cX7_init 690 = .ok (.bipush 37, 2) := by decide +kernel
theorem dX7_init_692 : decode cX7_init 692 = .ok (.bipush (-45), 2) := by decide +kernel
theorem dX7_init_694 : decode cX7_init 694 = .ok (.iastore, 1) := by decide +kernel
theorem dX7_init_695 : decode cX7_init 695 = .ok (.dup, 1) := by decide +kernel
theorem dX7_init_696 : decode cX7_init 696 = .ok (.bipush 38, 2) := by decide +kernel
theorem dX7_init_698 : decode cX7_init 698 = .ok (.bipush (-49), 2) := by decide +kernel
theorem dX7_init_700 : decode cX7_init 700 = .ok (.iastore, 1) := by decide +kernel
theorem dX7_init_701 : decode cX7_init 701 = .ok (.dup, 1) := by decide +kernel
theorem dX7_init_702 : decode cX7_init 702 = .ok (.bipush 39, 2) := by decide +kernel
theorem dX7_init_704 : decode cX7_init 704 = .ok (.bipush (-53), 2) := by decide +kernel
theorem dX7_init_706 : decode cX7_init 706 = .ok (.iastore, 1) := by decide +kernel
theorem dX7_init_707 : decode cX7_init 707 = .ok (.dup, 1) := by decide +kernel
theorem dX7_init_708 : decode cX7_init 708 = .ok (.bipush 40, 2) := by decide +kernel
theorem dX7_init_710 : decode cX7_init 710 = .ok (.bipush (-58), 2) := by decide +kernel
theorem dX7_init_712 : decode cX7_init 712 = .ok (.iastore, 1) := by decide +kernel
theorem dX7_init_713 : decode cX7_init 713 = .ok (.dup, 1) := by decide +kernel
theorem dX7_init_714 : decode cX7_init 714 = .ok (.bipush 41, 2) := by decide +kernel
theorem dX7_init_716 : decode cX7_init 716 = .ok (.bipush (-63), 2) := by decide +kernel
theorem dX7_init_718 : decode cX7_init 718 = .ok (.iastore, 1) := by decide +kernel
theorem dX7_init_719 : decode cX7_init 719 = .ok (.dup, 1) := by decide +kernel
theorem dX7_init_720 : decode cX7_init 720 = .ok (.bipush 42, 2) := by decide +kernel
theorem dX7_init_722 : decode cX7_init 722 = .ok (.bipush (-68), 2) := by decide +kernel
theorem dX7_init_724 : decode cX7_init 724 = .ok (.iastore, 1) := by decide +kernel
theorem dX7_init_725 : decode cX7_init 725 = .ok (.dup, 1) := by decide +kernel
theorem dX7_init_726 : decode cX7_init 726 = .ok (.bipush 43, 2) := by decide +kernel
theorem dX7_init_728 : decode cX7_init 728 = .ok (.bipush (-73), 2) := by decide +kernel
theorem dX7_init_730 : decode cX7_init 730 = .ok (.iastore, 1) := by decide +kernel
theorem dX7_init_731 : decode cX7_init 731 = .ok (.dup, 1) := by decide +kernel
theorem dX7_init_732 : decode cX7_init 732 = .ok (.bipush 44, 2) := by decide +kernel
theorem dX7_init_734 : decode cX7_init 734 = .ok (.bipush (-79), 2) := by decide +kernel
theorem dX7_init_736 : decode cX7_init 736 = .ok (.iastore, 1) := by decide +kernel
theorem dX7_init_737 : decode cX7_init 737 = .ok (.dup, 1) := by decide +kernel
theorem dX7_init_738 : decode cX7_init 738 = .ok (.bipush 45, 2) := by decide +kernel
theorem dX7_init_740 : decode cX7_init 740 = .ok (.bipush (-85), 2) := by decide +kernel
theorem dX7_init_742 : decode cX7_init 742 = .ok (.iastore, 1) := by decide +kernel
theorem dX7_init_743 : decode cX7_init 743 = .ok (.dup, 1) := by decide +kernel
theorem dX7_init_744 : decode cX7_init 744 = .ok (.bipush 46, 2) := by decide +kernel
theorem dX7_init_746 : decode cX7_init 746 = .ok (.bipush (-91), 2) := by decide +kernel
theorem dX7_init_748 : decode cX7_init 748 = .ok (.iastore, 1) := by decide +kernel
theorem dX7_init_749 : decode cX7_init 749 = .ok (.dup, 1) := by decide +kernel
theorem dX7_init_750 : decode cX7_init 750 = .ok (.bipush 47, 2) := by decide +kernel
theorem dX7_init_752 : decode cX7_init 752 = .ok (.bipush (-97), 2) := by decide +kernel
theorem dX7_init_754 : decode cX7_init 754 = .ok (.iastore, 1) := by decide +kernel
theorem dX7_init_755 : decode cX7_init 755 = .ok (.dup, 1) := by decide +kernel
theorem dX7_init_756 : decode cX7_init 756 = .ok (.bipush 48, 2) := by decide +kernel
theorem dX7_init_758 : decode cX7_init 758 = .ok (.bipush (-104), 2) := by decide +kernel
theorem dX7_init_760 : decode cX7_init 760 = .ok (.iastore, 1) := by decide +kernel
theorem dX7_init_761 : decode cX7_init 761 = .ok (.dup, 1) := by decide +kernel
theorem dX7_init_762 : decode cX7_init 762 = .ok (.bipush 49, 2) := by decide +kernel
theorem dX7_init_764 : decode cX7_init 764 = .ok (.bipush (-111), 2) := by decide +kernel
theorem dX7_init_766 : decode cX7_init 766 = .ok (.iastore, 1) := by decide +kernel
theorem dX7_init_767 : decode cX7_init 767 = .ok (.dup, 1) := by decide +kernel
theorem dX7_init_768 : decode cX7_init 768 = .ok (.bipush 50, 2) := by decide +kernel
theorem dX7_init_770 : decode cX7_init 770 = .ok (.bipush (-117), 2) := by decide +kernel
theorem dX7_init_772 : decode cX7_init 772 = .ok (.iastore, 1) := by decide +kernel
theorem dX7_init_773 : decode cX7_init 773 = .ok (.dup, 1) := by decide +kernel
theorem dX7_init_774 : decode cX7_init 774 = .ok (.bipush 51, 2) := by decide +kernel
theorem dX7_init_776 : decode cX7_init 776 = .ok (.bipush (-125), 2) := by decide +kernel
theorem dX7_init_778 : decode cX7_init 778 = .ok (.iastore, 1) := by decide +kernel
theorem dX7_init_779 : decode cX7_init 779 = .ok (.dup, 1) := by decide +kernel
theorem dX7_init_780 : decode cX7_init 780 = .ok (.bipush 52, 2) := by decide +kernel
theorem dX7_init_782 : decode cX7_init 782 = .ok (.sipush (-132), 3) := by decide +kernel
theorem dX7_init_785 : decode cX7_init 785 = .ok (.iastore, 1) := by decide +kernel
theorem dX7_init_786 : decode cX7_init 786 = .ok (.dup, 1) := by decide +kernel
theorem dX7_init_787 : decode cX7_init 787 = .ok (.bipush 53, 2) := by decide +kernel
theorem dX7_init_789 : decode cX7_init 789 = .ok (.sipush (-139), 3) := by decide +kernel
theorem dX7_init_792 : decode cX7_init 792 = .ok (.iastore, 1) := by decide +kernel
theorem dX7_init_793 : decode cX7_init 793 = .ok (.dup, 1) := by decide +kernel
theorem dX7_init_794 : decode cX7_init 794 = .ok (.bipush 54, 2) := by decide +kernel
theorem dX7_init_796 : decode cX7_init 796 = .ok (.sipush (-147), 3) := by decide +kernel
theorem dX7_init_799 : decode cX7_init 799 = .ok (.iastore, 1) := by decide +kernel
theorem dX7_init_800 : decode cX7_init 800 = .ok (.dup, 1) := by decide +kernel
theorem dX7_init_801 : decode cX7_init 801 = .ok (.bipush 55, 2) := by decide +kernel
theorem dX7_init_803 : decode cX7_init 803 = .ok (.sipush (-154), 3) := by decide +kernel
theorem dX7_init_806 : decode cX7_init 806 = .ok (.iastore, 1) := by decide +kernel
theorem dX7_init_807 : decode cX7_init 807 = .ok (.dup, 1) := by decide +kernel
theorem dX7_init_808 : decode cX7_init 808 = .ok (.bipush 56, 2) := by decide +kernel
theorem dX7_init_810 : decode cX7_init 810 = .ok (.sipush (-161), 3) := by decide +kernel
theorem dX7_init_813 : decode cX7_init 813 = .ok (.iastore, 1) := by decide +kernel
theorem dX7_init_814 : decode cX7_init 814 = .ok (.dup, 1) := by decide +kernel
theorem dX7_init_815 : decode cX7_init 815 = .ok (.bipush 57, 2) := by decide +kernel
theorem dX7_init_817 : decode cX7_init 817 = .ok (.sipush (-169), 3) := by decide +kernel
theorem dX7_init_820 : decode cX7_init 820 = .ok (.iastore, 1) := by decide +kernel
theorem dX7_init_821 : decode cX7_init 821 = .ok (.dup, 1) := by decide +kernel
theorem dX7_init_822 : decode cX7_init 822 = .ok (.bipush 58, 2) := by decide +kernel
theorem dX7_init_824 : decode cX7_init 824 = .ok (.sipush (-176), 3) := by decide +kernel
theorem dX7_init_827 : decode cX7_init 827 = .ok (.iastore, 1) := by decide +kernel
theorem dX7_init_828 : decode cX7_init 828 = .ok (.dup, 1) := by decide +kernel
theorem dX7_init_829 : decode cX7_init 829 = .ok (.bipush 59, 2) := by decide +kernel
theorem dX7_init_831 : decode cX7_init 831 = .ok (.sipush (-183), 3) := by decide +kernel
theorem dX7_init_834 : decode cX7_init 834 = .ok (.iastore, 1) := by decide +kernel
theorem dX7_init_835 : decode cX7_init 835 = .ok (.dup, 1) := by decide +kernel
theorem dX7_init_836 : decode cX7_init 836 = .ok (.bipush 60, 2) := by decide +kernel
theorem dX7_init_838 : decode cX7_init 838 = .ok (.sipush (-190), 3) := by decide +kernel
theorem dX7_init_841 : decode cX7_init 841 = .ok (.iastore, 1) := by decide +kernel
theorem dX7_init_842 : decode cX7_init 842 = .ok (.dup, 1) := by decide +kernel
theorem dX7_init_843 : decode cX7_init 843 = .ok (.bipush 61, 2) := by decide +kernel
theorem dX7_init_845 : decode cX7_init 845 = .ok (.sipush (-196), 3) := by decide +kernel
theorem dX7_init_848 : decode cX7_init 848 = .ok (.iastore, 1) := by decide +kernel
theorem dX7_init_849 : decode cX7_init 849 = .ok (.dup, 1) := by decide +kernel
theorem dX7_init_850 : decode cX7_init 850 = .ok (.bipush 62, 2) := by decide +kernel
theorem dX7_init_852 : decode cX7_init 852 = .ok (.sipush (-202), 3) := by decide +kernel
theorem dX7_init_855 : decode cX7_init 855 = .ok (.iastore, 1) := by decide +kernel
