section TB
variable {p : Program} {l : Launch} {e : Env} {R : Room} {s : State} {m : MethodId} {args : Array Value} {below : List Frame} {meth : Method} {c : Code} {H : Heap} {locs : List Loc} {cells slots : Nat} {Q : State → Prop}
variable {ls : Array Slot} {rest : List Value} {g : GT} {A : Nat → Prop} {ws : va_W} {nL : Nat} {ret : Option FieldType}
set_option maxHeartbeats 4000000 in
theorem tb_window_33 {q : Nat} (C : Cx p s m args meth c cX7_init nL ret wsX7_init RX7 g A) (hw : Wd g A s.heap (ws ++ [(q, aI g 257 (fun j => if j < 33 then sV 10 j else 0))]) H locs) (kk : ∀ (H1 : Heap) (locs1 : List Loc), Wd g A s.heap (ws ++ [(q, aI g 257 (fun j => if j < 66 then sV 10 j else 0))]) H1 locs1 → W p l e R s m args below meth c H1 locs1 cells slots Q (F0 m 877 ls (.ref q :: rest))) : W p l e R s m args below meth c H locs cells slots Q (F0 m 665 ls (.ref q :: rest)) := by
  obtain ⟨hx, hb, hml, hown, hts, -⟩ := id C
  refine lv_dup hx hb dX7_init_665 rfl ?_
  refine lv_bipush (v := nI 33) hx hb dX7_init_666 (by decide) ?_
  refine lv_bipush (v := (-31)) hx hb dX7_init_668 (by decide) ?_
  refine r_tst (i := 33) (h := fun j => sV 10 j) C hw (by decide) (by decide) (by decide +kernel) dX7_init_670 (fun H locs hw => ?_)
  refine lv_dup hx hb dX7_init_671 rfl ?_
  refine lv_bipush (v := nI 34) hx hb dX7_init_672 (by decide) ?_
  refine lv_bipush (v := (-35)) hx hb dX7_init_674 (by decide) ?_
  refine r_tst (i := 34) (h := fun j => sV 10 j) C hw (by decide) (by decide) (by decide +kernel) dX7_init_676 (fun H locs hw => ?_)
  refine lv_dup hx hb dX7_init_677 rfl ?_
  refine lv_bipush (v := nI 35) hx hb dX7_init_678 (by decide) ?_
  refine lv_bipush (v := (-38)) hx hb dX7_init_680 (by decide) ?_
  refine r_tst (i := 35) (h := fun j => sV 10 j) C hw (by decide) (by decide) (by decide +kernel) dX7_init_682 (fun H locs hw => ?_)
  refine lv_dup hx hb dX7_init_683 rfl ?_
  refine lv_bipush (v := nI 36) hx hb dX7_init_684 (by decide) ?_
  refine lv_bipush (v := (-41)) hx hb dX7_init_686 (by decide) ?_
  refine r_tst (i := 36) (h := fun j => sV 10 j) C hw (by decide) (by decide) (by decide +kernel) dX7_init_688 (fun H locs hw => ?_)
  refine lv_dup hx hb dX7_init_689 rfl ?_
  refine lv_bipush (v := nI 37) hx hb dX7_init_690 (by decide) ?_
  refine lv_bipush (v := (-45)) hx hb dX7_init_692 (by decide) ?_
  refine r_tst (i := 37) (h := fun j => sV 10 j) C hw (by decide) (by decide) (by decide +kernel) dX7_init_694 (fun H locs hw => ?_)
  refine lv_dup hx hb dX7_init_695 rfl ?_
  refine lv_bipush (v := nI 38) hx hb dX7_init_696 (by decide) ?_
  refine lv_bipush (v := (-49)) hx hb dX7_init_698 (by decide) ?_
  refine r_tst (i := 38) (h := fun j => sV 10 j) C hw (by decide) (by decide) (by decide +kernel) dX7_init_700 (fun H locs hw => ?_)
  refine lv_dup hx hb dX7_init_701 rfl ?_
  refine lv_bipush (v := nI 39) hx hb dX7_init_702 (by decide) ?_
  refine lv_bipush (v := (-53)) hx hb dX7_init_704 (by decide) ?_
  refine r_tst (i := 39) (h := fun j => sV 10 j) C hw (by decide) (by decide) (by decide +kernel) dX7_init_706 (fun H locs hw => ?_)
  refine lv_dup hx hb dX7_init_707 rfl ?_
  refine lv_bipush (v := nI 40) hx hb dX7_init_708 (by decide) ?_
  refine lv_bipush (v := (-58)) hx hb dX7_init_710 (by decide) ?_
  refine r_tst (i := 40) (h := fun j => sV 10 j) C hw (by decide) (by decide) (by decide +kernel) dX7_init_712 (fun H locs hw => ?_)
  refine lv_dup hx hb dX7_init_713 rfl ?_
  refine lv_bipush (v := nI 41) hx hb dX7_init_714 (by decide) ?_
  refine lv_bipush (v := (-63)) hx hb dX7_init_716 (by decide) ?_
  refine r_tst (i := 41) (h := fun j => sV 10 j) C hw (by decide) (by decide) (by decide +kernel) dX7_init_718 (fun H locs hw => ?_)
  refine lv_dup hx hb dX7_init_719 rfl ?_
  refine lv_bipush (v := nI 42) hx hb dX7_init_720 (by decide) ?_
  refine lv_bipush (v := (-68)) hx hb dX7_init_722 (by decide) ?_
  refine r_tst (i := 42) (h := fun j => sV 10 j) C hw (by decide) (by decide) (by decide +kernel) dX7_init_724 (fun H locs hw => ?_)
  refine lv_dup hx hb dX7_init_725 rfl ?_
  refine lv_bipush (v := nI 43) hx hb dX7_init_726 (by decide) ?_
  refine lv_bipush (v := (-73)) hx hb dX7_init_728 (by decide) ?_
  refine r_tst (i := 43) (h := fun j => sV 10 j) C hw (by decide) (by decide) (by decide +kernel) dX7_init_730 (fun H locs hw => ?_)
  refine lv_dup hx hb dX7_init_731 rfl ?_
  refine lv_bipush (v := nI 44) hx hb dX7_init_732 (by decide) ?_
  refine lv_bipush (v := (-79)) hx hb dX7_init_734 (by decide) ?_
  refine r_tst (i := 44) (h := fun j => sV 10 j) C hw (by decide) (by decide) (by decide +kernel) dX7_init_736 (fun H locs hw => ?_)
  refine lv_dup hx hb dX7_init_737 rfl ?_
  refine lv_bipush (v := nI 45) hx hb dX7_init_738 (by decide) ?_
  refine lv_bipush (v := (-85)) hx hb dX7_init_740 (by decide) ?_
  refine r_tst (i := 45) (h := fun j => sV 10 j) C hw (by decide) (by decide) (by decide +kernel) dX7_init_742 (fun H locs hw => ?_)
  refine lv_dup hx hb dX7_init_743 rfl ?_
  refine lv_bipush (v := nI 46) hx hb dX7_init_744 (by decide) ?_
  refine lv_bipush (v := (-91)) hx hb dX7_init_746 (by decide) ?_
  refine r_tst (i := 46) (h := fun j => sV 10 j) C hw (by decide) (by decide) (by decide +kernel) dX7_init_748 (fun H locs hw => ?_)
  refine lv_dup hx hb dX7_init_749 rfl ?_
  refine lv_bipush (v := nI 47) hx hb dX7_init_750 (by decide) ?_
  refine lv_bipush (v := (-97)) hx hb dX7_init_752 (by decide) ?_
  refine r_tst (i := 47) (h := fun j => sV 10 j) C hw (by decide) (by decide) (by decide +kernel) dX7_init_754 (fun H locs hw => ?_)
  refine lv_dup hx hb dX7_init_755 rfl ?_
  refine lv_bipush (v := nI 48) hx hb dX7_init_756 (by decide) ?_
  refine lv_bipush (v := (-104)) hx hb dX7_init_758 (by decide) ?_
  refine r_tst (i := 48) (h := fun j => sV 10 j) C hw (by decide) (by decide) (by decide +kernel) dX7_init_760 (fun H locs hw => ?_)
  refine lv_dup hx hb dX7_init_761 rfl ?_
  refine lv_bipush (v := nI 49) hx hb dX7_init_762 (by decide) ?_
  refine lv_bipush (v := (-111)) hx hb dX7_init_764 (by decide) ?_
  refine r_tst (i := 49) (h := fun j => sV 10 j) C hw (by decide) (by decide) (by decide +kernel) dX7_init_766 (fun H locs hw => ?_)
  refine lv_dup hx hb dX7_init_767 rfl ?_
  refine lv_bipush (v := nI 50) hx hb dX7_init_768 (by decide) ?_
  refine lv_bipush (v := (-117)) hx hb dX7_init_770 (by decide) ?_
  refine r_tst (i := 50) (h := fun j => sV 10 j) C hw (by decide) (by decide) (by decide +kernel) dX7_init_772 (fun H locs hw => ?_)
  refine lv_dup hx hb dX7_init_773 rfl ?_
  refine lv_bipush (v := nI 51) hx hb dX7_init_774 (by decide) ?_
  refine lv_bipush (v := (-125)) hx hb dX7_init_776 (by decide) ?_
  refine r_tst (i := 51) (h := fun j => sV 10 j) C hw (by decide) (by decide) (by decide +kernel) dX7_init_778 (fun H locs hw => ?_)
  refine lv_dup hx hb dX7_init_779 rfl ?_
  refine lv_bipush (v := nI 52) hx hb dX7_init_780 (by decide) ?_
  refine lv_sipush (v := (-132)) hx hb dX7_init_782 (by decide) ?_
  refine r_tst (i := 52) (h := fun j => sV 10 j) C hw (by decide) (by decide) (by decide +kernel) dX7_init_785 (fun H locs hw => ?_)
  refine lv_dup hx hb dX7_init_786 rfl ?_
  refine lv_bipush (v := nI 53) hx hb dX7_init_787 (by decide) ?_
  refine lv_sipush (v := (-139)) hx hb dX7_init_789 (by decide) ?_
  refine r_tst (i := 53) (h := fun j => sV 10 j) C hw (by decide) (by decide) (by decide +kernel) dX7_init_792 (fun H locs hw => ?_)
  refine lv_dup hx hb dX7_init_793 rfl ?_
  refine lv_bipush (v := nI 54) hx hb dX7_init_794 (by decide) ?_
  refine lv_sipush (v := (-147)) hx hb dX7_init_796 (by decide) ?_
  refine r_tst (i := 54) (h := fun j => sV 10 j) C hw (by decide) (by decide) (by decide +kernel) dX7_init_799 (fun H locs hw => ?_)
  refine lv_dup hx hb dX7_init_800 rfl ?_
  refine lv_bipush (v := nI 55) hx hb dX7_init_801 (by decide) ?_
  refine lv_sipush (v := (-154)) hx hb dX7_init_803 (by decide) ?_
  refine r_tst (i := 55) (h := fun j => sV 10 j) C hw (by decide) (by decide) (by decide +kernel) dX7_init_806 (fun H locs hw => ?_)
  refine lv_dup hx hb dX7_init_807 rfl ?_
  refine lv_bipush (v := nI 56) hx hb dX7_init_808 (by decide) ?_
  refine lv_sipush (v := (-161)) hx hb dX7_init_810 (by decide) ?_
  refine r_tst (i := 56) (h := fun j => sV 10 j) C hw (by decide) (by decide) (by decide +kernel) dX7_init_813 (fun H locs hw => ?_)
  refine lv_dup hx hb dX7_init_814 rfl ?_
  refine lv_bipush (v := nI 57) hx hb dX7_init_815 (by decide) ?_
  refine lv_sipush (v := (-169)) hx hb dX7_init_817 (by decide) ?_
  refine r_tst (i := 57) (h := fun j => sV 10 j) C hw (by decide) (by decide) (by decide +kernel) dX7_init_820 (fun H locs hw => ?_)
  refine lv_dup hx hb dX7_init_821 rfl ?_
  refine lv_bipush (v := nI 58) hx hb dX7_init_822 (by decide) ?_
  refine lv_sipush (v := (-176)) hx hb dX7_init_824 (by decide) ?_
  refine r_tst (i := 58) (h := fun j => sV 10 j) C hw (by decide) (by decide) (by decide +kernel) dX7_init_827 (fun H locs hw => ?_)
  refine lv_dup hx hb dX7_init_828 rfl ?_
  refine lv_bipush (v := nI 59) hx hb dX7_init_829 (by decide) ?_
  refine lv_sipush (v := (-183)) hx hb dX7_init_831 (by decide) ?_
  refine r_tst (i := 59) (h := fun j => sV 10 j) C hw (by decide) (by decide) (by decide +kernel) dX7_init_834 (fun H locs hw => ?_)
  refine lv_dup hx hb dX7_init_835 rfl ?_
  refine lv_bipush (v := nI 60) hx hb dX7_init_836 (by decide) ?_
  refine lv_sipush (v := (-190)) hx hb dX7_init_838 (by decide) ?_
  refine r_tst (i := 60) (h := fun j => sV 10 j) C hw (by decide) (by decide) (by decide +kernel) dX7_init_841 (fun H locs hw => ?_)
  refine lv_dup hx hb dX7_init_842 rfl ?_
  refine lv_bipush (v := nI 61) hx hb dX7_init_843 (by decide) ?_
  refine lv_sipush (v := (-196)) hx hb dX7_init_845 (by decide) ?_
  refine r_tst (i := 61) (h := fun j => sV 10 j) C hw (by decide) (by decide) (by decide +kernel) dX7_init_848 (fun H locs hw => ?_)
  refine lv_dup hx hb dX7_init_849 rfl ?_
  refine lv_bipush (v := nI 62) hx hb dX7_init_850 (by decide) ?_
  refine lv_sipush (v := (-202)) hx hb dX7_init_852 (by decide) ?_
  refine r_tst (i := 62) (h := fun j => sV 10 j) C hw (by decide) (by decide) (by decide +kernel) dX7_init_855 (fun H locs hw => ?_)
  refine lv_dup hx hb dX7_init_856 rfl ?_
  refine lv_bipush (v := nI 63) hx hb dX7_init_857 (by decide) ?_
  refine lv_sipush (v := (-208)) hx hb dX7_init_859 (by decide) ?_
  refine r_tst (i := 63) (h := fun j => sV 10 j) C hw (by decide) (by decide) (by decide +kernel) dX7_init_862 (fun H locs hw => ?_)
  refine lv_dup hx hb dX7_init_863 rfl ?_
  refine lv_bipush (v := nI 64) hx hb dX7_init_864 (by decide) ?_
  refine lv_sipush (v := nI 213) hx hb dX7_init_866 (by decide) ?_
  refine r_tst (i := 64) (h := fun j => sV 10 j) C hw (by decide) (by decide) (by decide +kernel) dX7_init_869 (fun H locs hw => ?_)
  refine lv_dup hx hb dX7_init_870 rfl ?_
  refine lv_bipush (v := nI 65) hx hb dX7_init_871 (by decide) ?_
  refine lv_sipush (v := nI 218) hx hb dX7_init_873 (by decide) ?_
  refine r_tst (i := 65) (h := fun j => sV 10 j) C hw (by decide) (by decide) (by decide +kernel) dX7_init_876 (fun H locs hw => ?_)
  exact kk _ _ hw
set_option maxHeartbeats 4000000 in
theorem tb_window_66 {q : Nat} (C : Cx p s m args meth c cX7_init nL ret wsX7_init RX7 g A) (hw : Wd g A s.heap (ws ++ [(q, aI g 257 (fun j => if j < 66 then sV 10 j else 0))]) H locs) (kk : ∀ (H1 : Heap) (locs1 : List Loc), Wd g A s.heap (ws ++ [(q, aI g 257 (fun j => if j < 99 then sV 10 j else 0))]) H1 locs1 → W p l e R s m args below meth c H1 locs1 cells slots Q (F0 m 1099 ls (.ref q :: rest))) : W p l e R s m args below meth c H locs cells slots Q (F0 m 877 ls (.ref q :: rest)) := by
  obtain ⟨hx, hb, hml, hown, hts, -⟩ := id C
  refine lv_dup hx hb dX7_init_877 rfl ?_
  refine lv_bipush (v := nI 66) hx hb dX7_init_878 (by decide) ?_
  refine lv_sipush (v := nI 222) hx hb dX7_init_880 (by decide) ?_
  refine r_tst (i := 66) (h := fun j => sV 10 j) C hw (by decide) (by decide) (by decide +kernel) dX7_init_883 (fun H locs hw => ?_)
  refine lv_dup hx hb dX7_init_884 rfl ?_
  refine lv_bipush (v := nI 67) hx hb dX7_init_885 (by decide) ?_
  refine lv_sipush (v := nI 225) hx hb dX7_init_887 (by decide) ?_
  refine r_tst (i := 67) (h := fun j => sV 10 j) C hw (by decide) (by decide) (by decide +kernel) dX7_init_890 (fun H locs hw => ?_)
  refine lv_dup hx hb dX7_init_891 rfl ?_
  refine lv_bipush (v := nI 68) hx hb dX7_init_892 (by decide) ?_
  refine lv_sipush (v := nI 227) hx hb dX7_init_894 (by decide) ?_
  refine r_tst (i := 68) (h := fun j => sV 10 j) C hw (by decide) (by decide) (by decide +kernel) dX7_init_897 (fun H locs hw => ?_)
  refine lv_dup hx hb dX7_init_898 rfl ?_
  refine lv_bipush (v := nI 69) hx hb dX7_init_899 (by decide) ?_
  refine lv_sipush (v := nI 228) hx hb dX7_init_901 (by decide) ?_
  refine r_tst (i := 69) (h := fun j => sV 10 j) C hw (by decide) (by decide) (by decide +kernel) dX7_init_904 (fun H locs hw => ?_)
  refine lv_dup hx hb dX7_init_905 rfl ?_
  refine lv_bipush (v := nI 70) hx hb dX7_init_906 (by decide) ?_
  refine lv_sipush (v := nI 228) hx hb dX7_init_908 (by decide) ?_
  refine r_tst (i := 70) (h := fun j => sV 10 j) C hw (by decide) (by decide) (by decide +kernel) dX7_init_911 (fun H locs hw => ?_)
  refine lv_dup hx hb dX7_init_912 rfl ?_
  refine lv_bipush (v := nI 71) hx hb dX7_init_913 (by decide) ?_
  refine lv_sipush (v := nI 227) hx hb dX7_init_915 (by decide) ?_
  refine r_tst (i := 71) (h := fun j => sV 10 j) C hw (by decide) (by decide) (by decide +kernel) dX7_init_918 (fun H locs hw => ?_)
  refine lv_dup hx hb dX7_init_919 rfl ?_
  refine lv_bipush (v := nI 72) hx hb dX7_init_920 (by decide) ?_
  refine lv_sipush (v := nI 224) hx hb dX7_init_922 (by decide) ?_
  refine r_tst (i := 72) (h := fun j => sV 10 j) C hw (by decide) (by decide) (by decide +kernel) dX7_init_925 (fun H locs hw => ?_)
  refine lv_dup hx hb dX7_init_926 rfl ?_
  refine lv_bipush (v := nI 73) hx hb dX7_init_927 (by decide) ?_
  refine lv_sipush (v := nI 221) hx hb dX7_init_929 (by decide) ?_
  refine r_tst (i := 73) (h := fun j => sV 10 j) C hw (by decide) (by decide) (by decide +kernel) dX7_init_932 (fun H locs hw => ?_)
  refine lv_dup hx hb dX7_init_933 rfl ?_
  refine lv_bipush (v := nI 74) hx hb dX7_init_934 (by decide) ?_
  refine lv_sipush (v := nI 215) hx hb dX7_init_936 (by decide) ?_
  refine r_tst (i := 74) (h := fun j => sV 10 j) C hw (by decide) (by decide) (by decide +kernel) dX7_init_939 (fun H locs hw => ?_)
  refine lv_dup hx hb dX7_init_940 rfl ?_
  refine lv_bipush (v := nI 75) hx hb dX7_init_941 (by decide) ?_
  refine lv_sipush (v := nI 208) hx hb dX7_init_943 (by decide) ?_
  refine r_tst (i := 75) (h := fun j => sV 10 j) C hw (by decide) (by decide) (by decide +kernel) dX7_init_946 (fun H locs hw => ?_)
  refine lv_dup hx hb dX7_init_947 rfl ?_
  refine lv_bipush (v := nI 76) hx hb dX7_init_948 (by decide) ?_
  refine lv_sipush (v := nI 200) hx hb dX7_init_950 (by decide) ?_
  refine r_tst (i := 76) (h := fun j => sV 10 j) C hw (by decide) (by decide) (by decide +kernel) dX7_init_953 (fun H locs hw => ?_)
  refine lv_dup hx hb dX7_init_954 rfl ?_
  refine lv_bipush (v := nI 77) hx hb dX7_init_955 (by decide) ?_
  refine lv_sipush (v := nI 189) hx hb dX7_init_957 (by decide) ?_
  refine r_tst (i := 77) (h := fun j => sV 10 j) C hw (by decide) (by decide) (by decide +kernel) dX7_init_960 (fun H locs hw => ?_)
  refine lv_dup hx hb dX7_init_961 rfl ?_
  refine lv_bipush (v := nI 78) hx hb dX7_init_962 (by decide) ?_
  refine lv_sipush (v := nI 177) hx hb dX7_init_964 (by decide) ?_
  refine r_tst (i := 78) (h := fun j => sV 10 j) C hw (by decide) (by decide) (by decide +kernel) dX7_init_967 (fun H locs hw => ?_)
  refine lv_dup hx hb dX7_init_968 rfl ?_
  refine lv_bipush (v := nI 79) hx hb dX7_init_969 (by decide) ?_
  refine lv_sipush (v := nI 163) hx hb dX7_init_971 (by decide) ?_
  refine r_tst (i := 79) (h := fun j => sV 10 j) C hw (by decide) (by decide) (by decide +kernel) dX7_init_974 (fun H locs hw => ?_)
  refine lv_dup hx hb dX7_init_975 rfl ?_
  refine lv_bipush (v := nI 80) hx hb dX7_init_976 (by decide) ?_
  refine lv_sipush (v := nI 146) hx hb dX7_init_978 (by decide) ?_
  refine r_tst (i := 80) (h := fun j => sV 10 j) C hw (by decide) (by decide) (by decide +kernel) dX7_init_981 (fun H locs hw => ?_)
  refine lv_dup hx hb dX7_init_982 rfl ?_
  refine lv_bipush (v := nI 81) hx hb dX7_init_983 (by decide) ?_
  refine lv_bipush (v := nI 127) hx hb dX7_init_985 (by decide) ?_
  refine r_tst (i := 81) (h := fun j => sV 10 j) C hw (by decide) (by decide) (by decide +kernel) dX7_init_987 (fun H locs hw => ?_)
  refine lv_dup hx hb dX7_init_988 rfl ?_
  refine lv_bipush (v := nI 82) hx hb dX7_init_989 (by decide) ?_
  refine lv_bipush (v := nI 106) hx hb dX7_init_991 (by decide) ?_
  refine r_tst (i := 82) (h := fun j => sV 10 j) C hw (by decide) (by decide) (by decide +kernel) dX7_init_993 (fun H locs hw => ?_)
  refine lv_dup hx hb dX7_init_994 rfl ?_
  refine lv_bipush (v := nI 83) hx hb dX7_init_995 (by decide) ?_
  refine lv_bipush (v := nI 83) hx hb dX7_init_997 (by decide) ?_
  refine r_tst (i := 83) (h := fun j => sV 10 j) C hw (by decide) (by decide) (by decide +kernel) dX7_init_999 (fun H locs hw => ?_)
  refine lv_dup hx hb dX7_init_1000 rfl ?_
  refine lv_bipush (v := nI 84) hx hb dX7_init_1001 (by decide) ?_
  refine lv_bipush (v := nI 57) hx hb dX7_init_1003 (by decide) ?_
  refine r_tst (i := 84) (h := fun j => sV 10 j) C hw (by decide) (by decide) (by decide +kernel) dX7_init_1005 (fun H locs hw => ?_)
  refine lv_dup hx hb dX7_init_1006 rfl ?_
  refine lv_bipush (v := nI 85) hx hb dX7_init_1007 (by decide) ?_
  refine lv_bipush (v := nI 29) hx hb dX7_init_1009 (by decide) ?_
  refine r_tst (i := 85) (h := fun j => sV 10 j) C hw (by decide) (by decide) (by decide +kernel) dX7_init_1011 (fun H locs hw => ?_)
  refine lv_dup hx hb dX7_init_1012 rfl ?_
  refine lv_bipush (v := nI 86) hx hb dX7_init_1013 (by decide) ?_
  refine lv_bipush (v := (-2)) hx hb dX7_init_1015 (by decide) ?_
  refine r_tst (i := 86) (h := fun j => sV 10 j) C hw (by decide) (by decide) (by decide +kernel) dX7_init_1017 (fun H locs hw => ?_)
  refine lv_dup hx hb dX7_init_1018 rfl ?_
  refine lv_bipush (v := nI 87) hx hb dX7_init_1019 (by decide) ?_
  refine lv_bipush (v := (-36)) hx hb dX7_init_1021 (by decide) ?_
  refine r_tst (i := 87) (h := fun j => sV 10 j) C hw (by decide) (by decide) (by decide +kernel) dX7_init_1023 (fun H locs hw => ?_)
  refine lv_dup hx hb dX7_init_1024 rfl ?_
  refine lv_bipush (v := nI 88) hx hb dX7_init_1025 (by decide) ?_
  refine lv_bipush (v := (-72)) hx hb dX7_init_1027 (by decide) ?_
  refine r_tst (i := 88) (h := fun j => sV 10 j) C hw (by decide) (by decide) (by decide +kernel) dX7_init_1029 (fun H locs hw => ?_)
  refine lv_dup hx hb dX7_init_1030 rfl ?_
  refine lv_bipush (v := nI 89) hx hb dX7_init_1031 (by decide) ?_
  refine lv_bipush (v := (-111)) hx hb dX7_init_1033 (by decide) ?_
  refine r_tst (i := 89) (h := fun j => sV 10 j) C hw (by decide) (by decide) (by decide +kernel) dX7_init_1035 (fun H locs hw => ?_)
  refine lv_dup hx hb dX7_init_1036 rfl ?_
  refine lv_bipush (v := nI 90) hx hb dX7_init_1037 (by decide) ?_
  refine lv_sipush (v := (-153)) hx hb dX7_init_1039 (by decide) ?_
  refine r_tst (i := 90) (h := fun j => sV 10 j) C hw (by decide) (by decide) (by decide +kernel) dX7_init_1042 (fun H locs hw => ?_)
  refine lv_dup hx hb dX7_init_1043 rfl ?_
  refine lv_bipush (v := nI 91) hx hb dX7_init_1044 (by decide) ?_
  refine lv_sipush (v := (-197)) hx hb dX7_init_1046 (by decide) ?_
  refine r_tst (i := 91) (h := fun j => sV 10 j) C hw (by decide) (by decide) (by decide +kernel) dX7_init_1049 (fun H locs hw => ?_)
  refine lv_dup hx hb dX7_init_1050 rfl ?_
  refine lv_bipush (v := nI 92) hx hb dX7_init_1051 (by decide) ?_
  refine lv_sipush (v := (-244)) hx hb dX7_init_1053 (by decide) ?_
  refine r_tst (i := 92) (h := fun j => sV 10 j) C hw (by decide) (by decide) (by decide +kernel) dX7_init_1056 (fun H locs hw => ?_)
  refine lv_dup hx hb dX7_init_1057 rfl ?_
  refine lv_bipush (v := nI 93) hx hb dX7_init_1058 (by decide) ?_
  refine lv_sipush (v := (-294)) hx hb dX7_init_1060 (by decide) ?_
  refine r_tst (i := 93) (h := fun j => sV 10 j) C hw (by decide) (by decide) (by decide +kernel) dX7_init_1063 (fun H locs hw => ?_)
  refine lv_dup hx hb dX7_init_1064 rfl ?_
  refine lv_bipush (v := nI 94) hx hb dX7_init_1065 (by decide) ?_
  refine lv_sipush (v := (-347)) hx hb dX7_init_1067 (by decide) ?_
  refine r_tst (i := 94) (h := fun j => sV 10 j) C hw (by decide) (by decide) (by decide +kernel) dX7_init_1070 (fun H locs hw => ?_)
  refine lv_dup hx hb dX7_init_1071 rfl ?_
  refine lv_bipush (v := nI 95) hx hb dX7_init_1072 (by decide) ?_
  refine lv_sipush (v := (-401)) hx hb dX7_init_1074 (by decide) ?_
  refine r_tst (i := 95) (h := fun j => sV 10 j) C hw (by decide) (by decide) (by decide +kernel) dX7_init_1077 (fun H locs hw => ?_)
  refine lv_dup hx hb dX7_init_1078 rfl ?_
  refine lv_bipush (v := nI 96) hx hb dX7_init_1079 (by decide) ?_
  refine lv_sipush (v := (-459)) hx hb dX7_init_1081 (by decide) ?_
  refine r_tst (i := 96) (h := fun j => sV 10 j) C hw (by decide) (by decide) (by decide +kernel) dX7_init_1084 (fun H locs hw => ?_)
  refine lv_dup hx hb dX7_init_1085 rfl ?_
  refine lv_bipush (v := nI 97) hx hb dX7_init_1086 (by decide) ?_
  refine lv_sipush (v := (-519)) hx hb dX7_init_1088 (by decide) ?_
  refine r_tst (i := 97) (h := fun j => sV 10 j) C hw (by decide) (by decide) (by decide +kernel) dX7_init_1091 (fun H locs hw => ?_)
  refine lv_dup hx hb dX7_init_1092 rfl ?_
  refine lv_bipush (v := nI 98) hx hb dX7_init_1093 (by decide) ?_
  refine lv_sipush (v := (-581)) hx hb dX7_init_1095 (by decide) ?_
  refine r_tst (i := 98) (h := fun j => sV 10 j) C hw (by decide) (by decide) (by decide +kernel) dX7_init_1098 (fun H locs hw => ?_)
  exact kk _ _ hw
set_option maxHeartbeats 4000000 in
theorem tb_window_99 {q : Nat} (C : Cx p s m args meth c cX7_init nL ret wsX7_init RX7 g A) (hw : Wd g A s.heap (ws ++ [(q, aI g 257 (fun j => if j < 99 then sV 10 j else 0))]) H locs) (kk : ∀ (H1 : Heap) (locs1 : List Loc), Wd g A s.heap (ws ++ [(q, aI g 257 (fun j => if j < 132 then sV 10 j else 0))]) H1 locs1 → W p l e R s m args below meth c H1 locs1 cells slots Q (F0 m 1334 ls (.ref q :: rest))) : W p l e R s m args below meth c H locs cells slots Q (F0 m 1099 ls (.ref q :: rest)) := by
  obtain ⟨hx, hb, hml, hown, hts, -⟩ := id C
  refine lv_dup hx hb dX7_init_1099 rfl ?_
  refine lv_bipush (v := nI 99) hx hb dX7_init_1100 (by decide) ?_
  refine lv_sipush (v := (-645)) hx hb dX7_init_1102 (by decide) ?_
  refine r_tst (i := 99) (h := fun j => sV 10 j) C hw (by decide) (by decide) (by decide +kernel) dX7_init_1105 (fun H locs hw => ?_)
  refine lv_dup hx hb dX7_init_1106 rfl ?_
  refine lv_bipush (v := nI 100) hx hb dX7_init_1107 (by decide) ?_
  refine lv_sipush (v := (-711)) hx hb dX7_init_1109 (by decide) ?_
  refine r_tst (i := 100) (h := fun j => sV 10 j) C hw (by decide) (by decide) (by decide +kernel) dX7_init_1112 (fun H locs hw => ?_)
  refine lv_dup hx hb dX7_init_1113 rfl ?_
  refine lv_bipush (v := nI 101) hx hb dX7_init_1114 (by decide) ?_
  refine lv_sipush (v := (-779)) hx hb dX7_init_1116 (by decide) ?_
  refine r_tst (i := 101) (h := fun j => sV 10 j) C hw (by decide) (by decide) (by decide +kernel) dX7_init_1119 (fun H locs hw => ?_)
  refine lv_dup hx hb dX7_init_1120 rfl ?_
  refine lv_bipush (v := nI 102) hx hb dX7_init_1121 (by decide) ?_
  refine lv_sipush (v := (-848)) hx hb dX7_init_1123 (by decide) ?_
  refine r_tst (i := 102) (h := fun j => sV 10 j) C hw (by decide) (by decide) (by decide +kernel) dX7_init_1126 (fun H locs hw => ?_)
  refine lv_dup hx hb dX7_init_1127 rfl ?_
  refine lv_bipush (v := nI 103) hx hb dX7_init_1128 (by decide) ?_
  refine lv_sipush (v := (-919)) hx hb dX7_init_1130 (by decide) ?_
  refine r_tst (i := 103) (h := fun j => sV 10 j) C hw (by decide) (by decide) (by decide +kernel) dX7_init_1133 (fun H locs hw => ?_)
  refine lv_dup hx hb dX7_init_1134 rfl ?_
  refine lv_bipush (v := nI 104) hx hb dX7_init_1135 (by decide) ?_
  refine lv_sipush (v := (-991)) hx hb dX7_init_1137 (by decide) ?_
  refine r_tst (i := 104) (h := fun j => sV 10 j) C hw (by decide) (by decide) (by decide +kernel) dX7_init_1140 (fun H locs hw => ?_)
  refine lv_dup hx hb dX7_init_1141 rfl ?_
  refine lv_bipush (v := nI 105) hx hb dX7_init_1142 (by decide) ?_
  refine lv_sipush (v := (-1064)) hx hb dX7_init_1144 (by decide) ?_
  refine r_tst (i := 105) (h := fun j => sV 10 j) C hw (by decide) (by decide) (by decide +kernel) dX7_init_1147 (fun H locs hw => ?_)
  refine lv_dup hx hb dX7_init_1148 rfl ?_
  refine lv_bipush (v := nI 106) hx hb dX7_init_1149 (by decide) ?_
  refine lv_sipush (v := (-1137)) hx hb dX7_init_1151 (by decide) ?_
  refine r_tst (i := 106) (h := fun j => sV 10 j) C hw (by decide) (by decide) (by decide +kernel) dX7_init_1154 (fun H locs hw => ?_)
  refine lv_dup hx hb dX7_init_1155 rfl ?_
  refine lv_bipush (v := nI 107) hx hb dX7_init_1156 (by decide) ?_
  refine lv_sipush (v := (-1210)) hx hb dX7_init_1158 (by decide) ?_
  refine r_tst (i := 107) (h := fun j => sV 10 j) C hw (by decide) (by decide) (by decide +kernel) dX7_init_1161 (fun H locs hw => ?_)
  refine lv_dup hx hb dX7_init_1162 rfl ?_
  refine lv_bipush (v := nI 108) hx hb dX7_init_1163 (by decide) ?_
  refine lv_sipush (v := (-1283)) hx hb dX7_init_1165 (by decide) ?_
  refine r_tst (i := 108) (h := fun j => sV 10 j) C hw (by decide) (by decide) (by decide +kernel) dX7_init_1168 (fun H locs hw => ?_)
  refine lv_dup hx hb dX7_init_1169 rfl ?_
  refine lv_bipush (v := nI 109) hx hb dX7_init_1170 (by decide) ?_
  refine lv_sipush (v := (-1356)) hx hb dX7_init_1172 (by decide) ?_
  refine r_tst (i := 109) (h := fun j => sV 10 j) C hw (by decide) (by decide) (by decide +kernel) dX7_init_1175 (fun H locs hw => ?_)
  refine lv_dup hx hb dX7_init_1176 rfl ?_
  refine lv_bipush (v := nI 110) hx hb dX7_init_1177 (by decide) ?_
  refine lv_sipush (v := (-1428)) hx hb dX7_init_1179 (by decide) ?_
  refine r_tst (i := 110) (h := fun j => sV 10 j) C hw (by decide) (by decide) (by decide +kernel) dX7_init_1182 (fun H locs hw => ?_)
  refine lv_dup hx hb dX7_init_1183 rfl ?_
  refine lv_bipush (v := nI 111) hx hb dX7_init_1184 (by decide) ?_
  refine lv_sipush (v := (-1498)) hx hb dX7_init_1186 (by decide) ?_
  refine r_tst (i := 111) (h := fun j => sV 10 j) C hw (by decide) (by decide) (by decide +kernel) dX7_init_1189 (fun H locs hw => ?_)
  refine lv_dup hx hb dX7_init_1190 rfl ?_
  refine lv_bipush (v := nI 112) hx hb dX7_init_1191 (by decide) ?_
  refine lv_sipush (v := (-1567)) hx hb dX7_init_1193 (by decide) ?_
  refine r_tst (i := 112) (h := fun j => sV 10 j) C hw (by decide) (by decide) (by decide +kernel) dX7_init_1196 (fun H locs hw => ?_)
  refine lv_dup hx hb dX7_init_1197 rfl ?_
  refine lv_bipush (v := nI 113) hx hb dX7_init_1198 (by decide) ?_
  refine lv_sipush (v := (-1634)) hx hb dX7_init_1200 (by decide) ?_
  refine r_tst (i := 113) (h := fun j => sV 10 j) C hw (by decide) (by decide) (by decide +kernel) dX7_init_1203 (fun H locs hw => ?_)
  refine lv_dup hx hb dX7_init_1204 rfl ?_
  refine lv_bipush (v := nI 114) hx hb dX7_init_1205 (by decide) ?_
  refine lv_sipush (v := (-1698)) hx hb dX7_init_1207 (by decide) ?_
  refine r_tst (i := 114) (h := fun j => sV 10 j) C hw (by decide) (by decide) (by decide +kernel) dX7_init_1210 (fun H locs hw => ?_)
  refine lv_dup hx hb dX7_init_1211 rfl ?_
  refine lv_bipush (v := nI 115) hx hb dX7_init_1212 (by decide) ?_
  refine lv_sipush (v := (-1759)) hx hb dX7_init_1214 (by decide) ?_
  refine r_tst (i := 115) (h := fun j => sV 10 j) C hw (by decide) (by decide) (by decide +kernel) dX7_init_1217 (fun H locs hw => ?_)
  refine lv_dup hx hb dX7_init_1218 rfl ?_
  refine lv_bipush (v := nI 116) hx hb dX7_init_1219 (by decide) ?_
  refine lv_sipush (v := (-1817)) hx hb dX7_init_1221 (by decide) ?_
  refine r_tst (i := 116) (h := fun j => sV 10 j) C hw (by decide) (by decide) (by decide +kernel) dX7_init_1224 (fun H locs hw => ?_)
  refine lv_dup hx hb dX7_init_1225 rfl ?_
  refine lv_bipush (v := nI 117) hx hb dX7_init_1226 (by decide) ?_
  refine lv_sipush (v := (-1870)) hx hb dX7_init_1228 (by decide) ?_
  refine r_tst (i := 117) (h := fun j => sV 10 j) C hw (by decide) (by decide) (by decide +kernel) dX7_init_1231 (fun H locs hw => ?_)
  refine lv_dup hx hb dX7_init_1232 rfl ?_
  refine lv_bipush (v := nI 118) hx hb dX7_init_1233 (by decide) ?_
  refine lv_sipush (v := (-1919)) hx hb dX7_init_1235 (by decide) ?_
  refine r_tst (i := 118) (h := fun j => sV 10 j) C hw (by decide) (by decide) (by decide +kernel) dX7_init_1238 (fun H locs hw => ?_)
  refine lv_dup hx hb dX7_init_1239 rfl ?_
  refine lv_bipush (v := nI 119) hx hb dX7_init_1240 (by decide) ?_
  refine lv_sipush (v := (-1962)) hx hb dX7_init_1242 (by decide) ?_
  refine r_tst (i := 119) (h := fun j => sV 10 j) C hw (by decide) (by decide) (by decide +kernel) dX7_init_1245 (fun H locs hw => ?_)
  refine lv_dup hx hb dX7_init_1246 rfl ?_
  refine lv_bipush (v := nI 120) hx hb dX7_init_1247 (by decide) ?_
  refine lv_sipush (v := (-2001)) hx hb dX7_init_1249 (by decide) ?_
  refine r_tst (i := 120) (h := fun j => sV 10 j) C hw (by decide) (by decide) (by decide +kernel) dX7_init_1252 (fun H locs hw => ?_)
  refine lv_dup hx hb dX7_init_1253 rfl ?_
  refine lv_bipush (v := nI 121) hx hb dX7_init_1254 (by decide) ?_
  refine lv_sipush (v := (-2032)) hx hb dX7_init_1256 (by decide) ?_
  refine r_tst (i := 121) (h := fun j => sV 10 j) C hw (by decide) (by decide) (by decide +kernel) dX7_init_1259 (fun H locs hw => ?_)
  refine lv_dup hx hb dX7_init_1260 rfl ?_
  refine lv_bipush (v := nI 122) hx hb dX7_init_1261 (by decide) ?_
  refine lv_sipush (v := (-2057)) hx hb dX7_init_1263 (by decide) ?_
  refine r_tst (i := 122) (h := fun j => sV 10 j) C hw (by decide) (by decide) (by decide +kernel) dX7_init_1266 (fun H locs hw => ?_)
  refine lv_dup hx hb dX7_init_1267 rfl ?_
  refine lv_bipush (v := nI 123) hx hb dX7_init_1268 (by decide) ?_
  refine lv_sipush (v := (-2075)) hx hb dX7_init_1270 (by decide) ?_
  refine r_tst (i := 123) (h := fun j => sV 10 j) C hw (by decide) (by decide) (by decide +kernel) dX7_init_1273 (fun H locs hw => ?_)
  refine lv_dup hx hb dX7_init_1274 rfl ?_
  refine lv_bipush (v := nI 124) hx hb dX7_init_1275 (by decide) ?_
  refine lv_sipush (v := (-2085)) hx hb dX7_init_1277 (by decide) ?_
  refine r_tst (i := 124) (h := fun j => sV 10 j) C hw (by decide) (by decide) (by decide +kernel) dX7_init_1280 (fun H locs hw => ?_)
  refine lv_dup hx hb dX7_init_1281 rfl ?_
  refine lv_bipush (v := nI 125) hx hb dX7_init_1282 (by decide) ?_
  refine lv_sipush (v := (-2087)) hx hb dX7_init_1284 (by decide) ?_
  refine r_tst (i := 125) (h := fun j => sV 10 j) C hw (by decide) (by decide) (by decide +kernel) dX7_init_1287 (fun H locs hw => ?_)
  refine lv_dup hx hb dX7_init_1288 rfl ?_
  refine lv_bipush (v := nI 126) hx hb dX7_init_1289 (by decide) ?_
  refine lv_sipush (v := (-2080)) hx hb dX7_init_1291 (by decide) ?_
  refine r_tst (i := 126) (h := fun j => sV 10 j) C hw (by decide) (by decide) (by decide +kernel) dX7_init_1294 (fun H locs hw => ?_)
  refine lv_dup hx hb dX7_init_1295 rfl ?_
  refine lv_bipush (v := nI 127) hx hb dX7_init_1296 (by decide) ?_
  refine lv_sipush (v := (-2063)) hx hb dX7_init_1298 (by decide) ?_
  refine r_tst (i := 127) (h := fun j => sV 10 j) C hw (by decide) (by decide) (by decide +kernel) dX7_init_1301 (fun H locs hw => ?_)
  refine lv_dup hx hb dX7_init_1302 rfl ?_
  refine lv_sipush (v := nI 128) hx hb dX7_init_1303 (by decide) ?_
  refine lv_sipush (v := nI 2037) hx hb dX7_init_1306 (by decide) ?_
  refine r_tst (i := 128) (h := fun j => sV 10 j) C hw (by decide) (by decide) (by decide +kernel) dX7_init_1309 (fun H locs hw => ?_)
  refine lv_dup hx hb dX7_init_1310 rfl ?_
  refine lv_sipush (v := nI 129) hx hb dX7_init_1311 (by decide) ?_
  refine lv_sipush (v := nI 2000) hx hb dX7_init_1314 (by decide) ?_
  refine r_tst (i := 129) (h := fun j => sV 10 j) C hw (by decide) (by decide) (by decide +kernel) dX7_init_1317 (fun H locs hw => ?_)
  refine lv_dup hx hb dX7_init_1318 rfl ?_
  refine lv_sipush (v := nI 130) hx hb dX7_init_1319 (by decide) ?_
  refine lv_sipush (v := nI 1952) hx hb dX7_init_1322 (by decide) ?_
  refine r_tst (i := 130) (h := fun j => sV 10 j) C hw (by decide) (by decide) (by decide +kernel) dX7_init_1325 (fun H locs hw => ?_)
  refine lv_dup hx hb dX7_init_1326 rfl ?_
  refine lv_sipush (v := nI 131) hx hb dX7_init_1327 (by decide) ?_
  refine lv_sipush (v := nI 1893) hx hb dX7_init_1330 (by decide) ?_
  refine r_tst (i := 131) (h := fun j => sV 10 j) C hw (by decide) (by decide) (by decide +kernel) dX7_init_1333 (fun H locs hw => ?_)
  exact kk _ _ hw
end TB
