/-! methods of MO: written by wip/gen/mknames.py -/
def M_MO_init : wM := (⟨"CodePointSetsModel", "<init>", "()V"⟩, prog_11_method_1_code, 1, none)
set_option maxRecDepth 100000 in
theorem yM_MO_init : wCy M_MO_init 0 := ⟨wIn 651 rfl (by decide +kernel), wIn 8 (by decide +kernel) (by decide +kernel), by decide +kernel, by decide +kernel, by decide +kernel, by decide +kernel⟩
theorem iM_MO_init : Cond.instanceMethod M_MO_init.1 ∈ wWL := wIn 650 (by decide +kernel) (by decide +kernel)
def M_MO_type : wM := (⟨"CodePointSetsModel", "type", "(I)Z"⟩, prog_11_method_2_code, 2, (some (.boolean)))
set_option maxRecDepth 100000 in
theorem yM_MO_type : wCy M_MO_type 1 := ⟨wIn 707 rfl (by decide +kernel), wIn 8 (by decide +kernel) (by decide +kernel), by decide +kernel, by decide +kernel, by decide +kernel, by decide +kernel⟩
theorem vM_MO_type : wCv M_MO_type := ⟨wIn 705 (by decide +kernel) (by decide +kernel), wIn 706 (by decide +kernel) (by decide +kernel)⟩
def M_MO_wipe : wM := (⟨"CodePointSetsModel", "wipe", "()V"⟩, prog_11_method_3_code, 1, none)
set_option maxRecDepth 100000 in
theorem yM_MO_wipe : wCy M_MO_wipe 0 := ⟨wIn 711 rfl (by decide +kernel), wIn 8 (by decide +kernel) (by decide +kernel), by decide +kernel, by decide +kernel, by decide +kernel, by decide +kernel⟩
theorem vM_MO_wipe : wCv M_MO_wipe := ⟨wIn 709 (by decide +kernel) (by decide +kernel), wIn 710 (by decide +kernel) (by decide +kernel)⟩
def M_MO_length : wM := (⟨"CodePointSetsModel", "length", "()I"⟩, prog_11_method_4_code, 1, (some (.int)))
set_option maxRecDepth 100000 in
theorem yM_MO_length : wCy M_MO_length 0 := ⟨wIn 715 rfl (by decide +kernel), wIn 8 (by decide +kernel) (by decide +kernel), by decide +kernel, by decide +kernel, by decide +kernel, by decide +kernel⟩
theorem vM_MO_length : wCv M_MO_length := ⟨wIn 713 (by decide +kernel) (by decide +kernel), wIn 714 (by decide +kernel) (by decide +kernel)⟩
def M_MO_at : wM := (⟨"CodePointSetsModel", "at", "(I)I"⟩, prog_11_method_5_code, 2, (some (.int)))
set_option maxRecDepth 100000 in
theorem yM_MO_at : wCy M_MO_at 1 := ⟨wIn 719 rfl (by decide +kernel), wIn 8 (by decide +kernel) (by decide +kernel), by decide +kernel, by decide +kernel, by decide +kernel, by decide +kernel⟩
theorem vM_MO_at : wCv M_MO_at := ⟨wIn 717 (by decide +kernel) (by decide +kernel), wIn 718 (by decide +kernel) (by decide +kernel)⟩
def M_MO_apply : wM := (⟨"CodePointSetsModel", "apply", "(I)Z"⟩, prog_11_method_41_code, 3, (some (.boolean)))
set_option maxRecDepth 100000 in
theorem yM_MO_apply : wCy M_MO_apply 1 := ⟨wIn 723 rfl (by decide +kernel), wIn 8 (by decide +kernel) (by decide +kernel), by decide +kernel, by decide +kernel, by decide +kernel, by decide +kernel⟩
theorem vM_MO_apply : wCv M_MO_apply := ⟨wIn 721 (by decide +kernel) (by decide +kernel), wIn 722 (by decide +kernel) (by decide +kernel)⟩
def M_MO_register : wM := (⟨"CodePointSetsModel", "register", "(I)Z"⟩, prog_11_method_6_code, 1, (some (.boolean)))
set_option maxRecDepth 100000 in
theorem yM_MO_register : wCy M_MO_register 1 := ⟨wIn 726 rfl (by decide +kernel), wIn 8 (by decide +kernel) (by decide +kernel), by decide +kernel, by decide +kernel, by decide +kernel, by decide +kernel⟩
theorem sM_MO_register : Cond.static M_MO_register.1 ∈ wWL := wIn 725 (by decide +kernel) (by decide +kernel)
def M_MO_value : wM := (⟨"CodePointSetsModel", "value", "()I"⟩, prog_11_method_40_code, 2, (some (.int)))
set_option maxRecDepth 100000 in
theorem yM_MO_value : wCy M_MO_value 0 := ⟨wIn 730 rfl (by decide +kernel), wIn 8 (by decide +kernel) (by decide +kernel), by decide +kernel, by decide +kernel, by decide +kernel, by decide +kernel⟩
theorem vM_MO_value : wCv M_MO_value := ⟨wIn 729 (by decide +kernel) (by decide +kernel), wSel (n := 16) (by decide +kernel)⟩
def M_MO_propertyAt : wM := (⟨"CodePointSetsModel", "propertyAt", "(I)Z"⟩, prog_11_method_26_code, 2, (some (.boolean)))
set_option maxRecDepth 100000 in
theorem yM_MO_propertyAt : wCy M_MO_propertyAt 1 := ⟨wIn 734 rfl (by decide +kernel), wIn 8 (by decide +kernel) (by decide +kernel), by decide +kernel, by decide +kernel, by decide +kernel, by decide +kernel⟩
theorem vM_MO_propertyAt : wCv M_MO_propertyAt := ⟨wIn 733 (by decide +kernel) (by decide +kernel), wSel (n := 16) (by decide +kernel)⟩
def M_MO_is : wM := (⟨"CodePointSetsModel", "is", "(II)Z"⟩, prog_11_method_18_code, 3, (some (.boolean)))
set_option maxRecDepth 100000 in
theorem yM_MO_is : wCy M_MO_is 2 := ⟨wIn 738 rfl (by decide +kernel), wIn 8 (by decide +kernel) (by decide +kernel), by decide +kernel, by decide +kernel, by decide +kernel, by decide +kernel⟩
theorem vM_MO_is : wCv M_MO_is := ⟨wIn 737 (by decide +kernel) (by decide +kernel), wSel (n := 16) (by decide +kernel)⟩
def M_MO_property : wM := (⟨"CodePointSetsModel", "property", "()V"⟩, prog_11_method_28_code, 7, none)
set_option maxRecDepth 100000 in
theorem yM_MO_property : wCy M_MO_property 0 := ⟨wIn 742 rfl (by decide +kernel), wIn 8 (by decide +kernel) (by decide +kernel), by decide +kernel, by decide +kernel, by decide +kernel, by decide +kernel⟩
theorem vM_MO_property : wCv M_MO_property := ⟨wIn 741 (by decide +kernel) (by decide +kernel), wSel (n := 16) (by decide +kernel)⟩
def M_MO_expect : wM := (⟨"CodePointSetsModel", "expect", "(I)V"⟩, prog_11_method_24_code, 2, none)
set_option maxRecDepth 100000 in
theorem yM_MO_expect : wCy M_MO_expect 1 := ⟨wIn 746 rfl (by decide +kernel), wIn 8 (by decide +kernel) (by decide +kernel), by decide +kernel, by decide +kernel, by decide +kernel, by decide +kernel⟩
theorem vM_MO_expect : wCv M_MO_expect := ⟨wIn 745 (by decide +kernel) (by decide +kernel), wSel (n := 16) (by decide +kernel)⟩
def M_MO_letter : wM := (⟨"CodePointSetsModel", "letter", "(I)Z"⟩, prog_11_method_20_code, 1, (some (.boolean)))
set_option maxRecDepth 100000 in
theorem yM_MO_letter : wCy M_MO_letter 1 := ⟨wIn 749 rfl (by decide +kernel), wIn 8 (by decide +kernel) (by decide +kernel), by decide +kernel, by decide +kernel, by decide +kernel, by decide +kernel⟩
theorem sM_MO_letter : Cond.static M_MO_letter.1 ∈ wWL := wIn 748 (by decide +kernel) (by decide +kernel)
def M_MO_empty : wM := (⟨"CodePointSetsModel", "empty", "(I)V"⟩, prog_11_method_7_code, 2, none)
set_option maxRecDepth 100000 in
theorem yM_MO_empty : wCy M_MO_empty 1 := ⟨wIn 754 rfl (by decide +kernel), wIn 8 (by decide +kernel) (by decide +kernel), by decide +kernel, by decide +kernel, by decide +kernel, by decide +kernel⟩
theorem vM_MO_empty : wCv M_MO_empty := ⟨wIn 753 (by decide +kernel) (by decide +kernel), wSel (n := 16) (by decide +kernel)⟩
def M_MO_fillNamed : wM := (⟨"CodePointSetsModel", "fillNamed", "(J)V"⟩, prog_11_method_29_code, 3, none)
set_option maxRecDepth 100000 in
theorem yM_MO_fillNamed : wCy M_MO_fillNamed 1 := ⟨wIn 758 rfl (by decide +kernel), wIn 8 (by decide +kernel) (by decide +kernel), by decide +kernel, by decide +kernel, by decide +kernel, by decide +kernel⟩
theorem vM_MO_fillNamed : wCv M_MO_fillNamed := ⟨wIn 757 (by decide +kernel) (by decide +kernel), wSel (n := 16) (by decide +kernel)⟩
def M_MO_addRange : wM := (⟨"CodePointSetsModel", "addRange", "(III)V"⟩, prog_11_method_16_code, 4, none)
set_option maxRecDepth 100000 in
theorem yM_MO_addRange : wCy M_MO_addRange 3 := ⟨wIn 764 rfl (by decide +kernel), wIn 8 (by decide +kernel) (by decide +kernel), by decide +kernel, by decide +kernel, by decide +kernel, by decide +kernel⟩
theorem vM_MO_addRange : wCv M_MO_addRange := ⟨wIn 763 (by decide +kernel) (by decide +kernel), wSel (n := 16) (by decide +kernel)⟩
def M_MO_join : wM := (⟨"CodePointSetsModel", "join", "(III)V"⟩, prog_11_method_15_code, 4, none)
set_option maxRecDepth 100000 in
theorem yM_MO_join : wCy M_MO_join 3 := ⟨wIn 768 rfl (by decide +kernel), wIn 8 (by decide +kernel) (by decide +kernel), by decide +kernel, by decide +kernel, by decide +kernel, by decide +kernel⟩
theorem vM_MO_join : wCv M_MO_join := ⟨wIn 767 (by decide +kernel) (by decide +kernel), wSel (n := 16) (by decide +kernel)⟩
def M_MO_make : wM := (⟨"CodePointSetsModel", "make", "(III)V"⟩, prog_11_method_12_code, 10, none)
set_option maxRecDepth 100000 in
theorem yM_MO_make : wCy M_MO_make 3 := ⟨wIn 772 rfl (by decide +kernel), wIn 8 (by decide +kernel) (by decide +kernel), by decide +kernel, by decide +kernel, by decide +kernel, by decide +kernel⟩
theorem vM_MO_make : wCv M_MO_make := ⟨wIn 771 (by decide +kernel) (by decide +kernel), wSel (n := 16) (by decide +kernel)⟩
def M_MO_nextEdge : wM := (⟨"CodePointSetsModel", "nextEdge", "(III)I"⟩, prog_11_method_10_code, 7, (some (.int)))
set_option maxRecDepth 100000 in
theorem yM_MO_nextEdge : wCy M_MO_nextEdge 3 := ⟨wIn 776 rfl (by decide +kernel), wIn 8 (by decide +kernel) (by decide +kernel), by decide +kernel, by decide +kernel, by decide +kernel, by decide +kernel⟩
theorem vM_MO_nextEdge : wCv M_MO_nextEdge := ⟨wIn 775 (by decide +kernel) (by decide +kernel), wSel (n := 16) (by decide +kernel)⟩
def M_MO_member : wM := (⟨"CodePointSetsModel", "member", "(II)Z"⟩, prog_11_method_8_code, 5, (some (.boolean)))
set_option maxRecDepth 100000 in
theorem yM_MO_member : wCy M_MO_member 2 := ⟨wIn 781 rfl (by decide +kernel), wIn 8 (by decide +kernel) (by decide +kernel), by decide +kernel, by decide +kernel, by decide +kernel, by decide +kernel⟩
theorem vM_MO_member : wCv M_MO_member := ⟨wIn 780 (by decide +kernel) (by decide +kernel), wSel (n := 16) (by decide +kernel)⟩
def M_MO_decided : wM := (⟨"CodePointSetsModel", "decided", "(ZZI)Z"⟩, prog_11_method_11_code, 3, (some (.boolean)))
set_option maxRecDepth 100000 in
theorem yM_MO_decided : wCy M_MO_decided 3 := ⟨wIn 784 rfl (by decide +kernel), wIn 8 (by decide +kernel) (by decide +kernel), by decide +kernel, by decide +kernel, by decide +kernel, by decide +kernel⟩
theorem sM_MO_decided : Cond.static M_MO_decided.1 ∈ wWL := wIn 783 (by decide +kernel) (by decide +kernel)
def M_MO_stringMember : wM := (⟨"CodePointSetsModel", "stringMember", "(IJ)Z"⟩, prog_11_method_9_code, 6, (some (.boolean)))
set_option maxRecDepth 100000 in
theorem yM_MO_stringMember : wCy M_MO_stringMember 2 := ⟨wIn 788 rfl (by decide +kernel), wIn 8 (by decide +kernel) (by decide +kernel), by decide +kernel, by decide +kernel, by decide +kernel, by decide +kernel⟩
theorem vM_MO_stringMember : wCv M_MO_stringMember := ⟨wIn 787 (by decide +kernel) (by decide +kernel), wSel (n := 16) (by decide +kernel)⟩
def M_MO_keepString : wM := (⟨"CodePointSetsModel", "keepString", "(JZ)V"⟩, prog_11_method_13_code, 4, none)
set_option maxRecDepth 100000 in
theorem yM_MO_keepString : wCy M_MO_keepString 2 := ⟨wIn 792 rfl (by decide +kernel), wIn 8 (by decide +kernel) (by decide +kernel), by decide +kernel, by decide +kernel, by decide +kernel, by decide +kernel⟩
theorem vM_MO_keepString : wCv M_MO_keepString := ⟨wIn 791 (by decide +kernel) (by decide +kernel), wSel (n := 16) (by decide +kernel)⟩
def M_MO_copy : wM := (⟨"CodePointSetsModel", "copy", "(II)V"⟩, prog_11_method_14_code, 4, none)
set_option maxRecDepth 100000 in
theorem yM_MO_copy : wCy M_MO_copy 2 := ⟨wIn 796 rfl (by decide +kernel), wIn 8 (by decide +kernel) (by decide +kernel), by decide +kernel, by decide +kernel, by decide +kernel, by decide +kernel⟩
theorem vM_MO_copy : wCv M_MO_copy := ⟨wIn 795 (by decide +kernel) (by decide +kernel), wSel (n := 16) (by decide +kernel)⟩
def M_MO_fillLetters : wM := (⟨"CodePointSetsModel", "fillLetters", "()V"⟩, prog_11_method_30_code, 1, none)
set_option maxRecDepth 100000 in
theorem yM_MO_fillLetters : wCy M_MO_fillLetters 0 := ⟨wIn 806 rfl (by decide +kernel), wIn 8 (by decide +kernel) (by decide +kernel), by decide +kernel, by decide +kernel, by decide +kernel, by decide +kernel⟩
theorem vM_MO_fillLetters : wCv M_MO_fillLetters := ⟨wIn 805 (by decide +kernel) (by decide +kernel), wSel (n := 16) (by decide +kernel)⟩
def M_MO_open : wM := (⟨"CodePointSetsModel", "open", "()V"⟩, prog_11_method_32_code, 1, none)
set_option maxRecDepth 100000 in
theorem yM_MO_open : wCy M_MO_open 0 := ⟨wIn 815 rfl (by decide +kernel), wIn 8 (by decide +kernel) (by decide +kernel), by decide +kernel, by decide +kernel, by decide +kernel, by decide +kernel⟩
theorem vM_MO_open : wCv M_MO_open := ⟨wIn 814 (by decide +kernel) (by decide +kernel), wSel (n := 16) (by decide +kernel)⟩
def M_MO_level : wM := (⟨"CodePointSetsModel", "level", "()I"⟩, prog_11_method_31_code, 1, (some (.int)))
set_option maxRecDepth 100000 in
theorem yM_MO_level : wCy M_MO_level 0 := ⟨wIn 819 rfl (by decide +kernel), wIn 8 (by decide +kernel) (by decide +kernel), by decide +kernel, by decide +kernel, by decide +kernel, by decide +kernel⟩
theorem vM_MO_level : wCv M_MO_level := ⟨wIn 818 (by decide +kernel) (by decide +kernel), wSel (n := 16) (by decide +kernel)⟩
def M_MO_item : wM := (⟨"CodePointSetsModel", "item", "()V"⟩, prog_11_method_39_code, 1, none)
set_option maxRecDepth 100000 in
theorem yM_MO_item : wCy M_MO_item 0 := ⟨wIn 823 rfl (by decide +kernel), wIn 8 (by decide +kernel) (by decide +kernel), by decide +kernel, by decide +kernel, by decide +kernel, by decide +kernel⟩
theorem vM_MO_item : wCv M_MO_item := ⟨wIn 822 (by decide +kernel) (by decide +kernel), wSel (n := 16) (by decide +kernel)⟩
def M_MO_pastSpaces : wM := (⟨"CodePointSetsModel", "pastSpaces", "(I)I"⟩, prog_11_method_19_code, 3, (some (.int)))
set_option maxRecDepth 100000 in
theorem yM_MO_pastSpaces : wCy M_MO_pastSpaces 1 := ⟨wIn 827 rfl (by decide +kernel), wIn 8 (by decide +kernel) (by decide +kernel), by decide +kernel, by decide +kernel, by decide +kernel, by decide +kernel⟩
theorem vM_MO_pastSpaces : wCv M_MO_pastSpaces := ⟨wIn 826 (by decide +kernel) (by decide +kernel), wSel (n := 16) (by decide +kernel)⟩
def M_MO_shut : wM := (⟨"CodePointSetsModel", "shut", "()V"⟩, prog_11_method_35_code, 2, none)
set_option maxRecDepth 100000 in
theorem yM_MO_shut : wCy M_MO_shut 0 := ⟨wIn 831 rfl (by decide +kernel), wIn 8 (by decide +kernel) (by decide +kernel), by decide +kernel, by decide +kernel, by decide +kernel, by decide +kernel⟩
theorem vM_MO_shut : wCv M_MO_shut := ⟨wIn 830 (by decide +kernel) (by decide +kernel), wSel (n := 16) (by decide +kernel)⟩
def M_MO_takeSet : wM := (⟨"CodePointSetsModel", "takeSet", "(I)V"⟩, prog_11_method_34_code, 2, none)
set_option maxRecDepth 100000 in
theorem yM_MO_takeSet : wCy M_MO_takeSet 1 := ⟨wIn 835 rfl (by decide +kernel), wIn 8 (by decide +kernel) (by decide +kernel), by decide +kernel, by decide +kernel, by decide +kernel, by decide +kernel⟩
theorem vM_MO_takeSet : wCv M_MO_takeSet := ⟨wIn 834 (by decide +kernel) (by decide +kernel), wSel (n := 16) (by decide +kernel)⟩
def M_MO_ended : wM := (⟨"CodePointSetsModel", "ended", "(I)V"⟩, prog_11_method_33_code, 2, none)
set_option maxRecDepth 100000 in
theorem yM_MO_ended : wCy M_MO_ended 1 := ⟨wIn 839 rfl (by decide +kernel), wIn 8 (by decide +kernel) (by decide +kernel), by decide +kernel, by decide +kernel, by decide +kernel, by decide +kernel⟩
theorem vM_MO_ended : wCv M_MO_ended := ⟨wIn 838 (by decide +kernel) (by decide +kernel), wSel (n := 16) (by decide +kernel)⟩
def M_MO_string : wM := (⟨"CodePointSetsModel", "string", "()V"⟩, prog_11_method_36_code, 7, none)
set_option maxRecDepth 100000 in
theorem yM_MO_string : wCy M_MO_string 0 := ⟨wIn 843 rfl (by decide +kernel), wIn 8 (by decide +kernel) (by decide +kernel), by decide +kernel, by decide +kernel, by decide +kernel, by decide +kernel⟩
theorem vM_MO_string : wCv M_MO_string := ⟨wIn 842 (by decide +kernel) (by decide +kernel), wSel (n := 16) (by decide +kernel)⟩
def M_MO_readChar : wM := (⟨"CodePointSetsModel", "readChar", "()I"⟩, prog_11_method_25_code, 3, (some (.int)))
set_option maxRecDepth 100000 in
theorem yM_MO_readChar : wCy M_MO_readChar 0 := ⟨wIn 847 rfl (by decide +kernel), wIn 8 (by decide +kernel) (by decide +kernel), by decide +kernel, by decide +kernel, by decide +kernel, by decide +kernel⟩
theorem vM_MO_readChar : wCv M_MO_readChar := ⟨wIn 846 (by decide +kernel) (by decide +kernel), wSel (n := 16) (by decide +kernel)⟩
def M_MO_special : wM := (⟨"CodePointSetsModel", "special", "(I)Z"⟩, prog_11_method_22_code, 1, (some (.boolean)))
set_option maxRecDepth 100000 in
theorem yM_MO_special : wCy M_MO_special 1 := ⟨wIn 850 rfl (by decide +kernel), wIn 8 (by decide +kernel) (by decide +kernel), by decide +kernel, by decide +kernel, by decide +kernel, by decide +kernel⟩
theorem sM_MO_special : Cond.static M_MO_special.1 ∈ wWL := wIn 849 (by decide +kernel) (by decide +kernel)
def M_MO_hexDigits : wM := (⟨"CodePointSetsModel", "hexDigits", "(II)I"⟩, prog_11_method_23_code, 5, (some (.int)))
set_option maxRecDepth 100000 in
theorem yM_MO_hexDigits : wCy M_MO_hexDigits 2 := ⟨wIn 854 rfl (by decide +kernel), wIn 8 (by decide +kernel) (by decide +kernel), by decide +kernel, by decide +kernel, by decide +kernel, by decide +kernel⟩
theorem vM_MO_hexDigits : wCv M_MO_hexDigits := ⟨wIn 853 (by decide +kernel) (by decide +kernel), wSel (n := 16) (by decide +kernel)⟩
def M_MO_hex : wM := (⟨"CodePointSetsModel", "hex", "(I)I"⟩, prog_11_method_21_code, 1, (some (.int)))
set_option maxRecDepth 100000 in
theorem yM_MO_hex : wCy M_MO_hex 1 := ⟨wIn 857 rfl (by decide +kernel), wIn 8 (by decide +kernel) (by decide +kernel), by decide +kernel, by decide +kernel, by decide +kernel, by decide +kernel⟩
theorem sM_MO_hex : Cond.static M_MO_hex.1 ∈ wWL := wIn 856 (by decide +kernel) (by decide +kernel)
def M_MO_stringOf : wM := (⟨"CodePointSetsModel", "stringOf", "(IIIZ)J"⟩, prog_11_method_17_code, 6, (some (.long)))
set_option maxRecDepth 100000 in
theorem yM_MO_stringOf : wCy M_MO_stringOf 4 := ⟨wIn 860 rfl (by decide +kernel), wIn 8 (by decide +kernel) (by decide +kernel), by decide +kernel, by decide +kernel, by decide +kernel, by decide +kernel⟩
theorem sM_MO_stringOf : Cond.static M_MO_stringOf.1 ∈ wWL := wIn 859 (by decide +kernel) (by decide +kernel)
def M_MO_signOrDash : wM := (⟨"CodePointSetsModel", "signOrDash", "()V"⟩, prog_11_method_37_code, 3, none)
set_option maxRecDepth 100000 in
theorem yM_MO_signOrDash : wCy M_MO_signOrDash 0 := ⟨wIn 864 rfl (by decide +kernel), wIn 8 (by decide +kernel) (by decide +kernel), by decide +kernel, by decide +kernel, by decide +kernel, by decide +kernel⟩
theorem vM_MO_signOrDash : wCv M_MO_signOrDash := ⟨wIn 863 (by decide +kernel) (by decide +kernel), wSel (n := 16) (by decide +kernel)⟩
def M_MO_setAt : wM := (⟨"CodePointSetsModel", "setAt", "(I)Z"⟩, prog_11_method_27_code, 2, (some (.boolean)))
set_option maxRecDepth 100000 in
theorem yM_MO_setAt : wCy M_MO_setAt 1 := ⟨wIn 868 rfl (by decide +kernel), wIn 8 (by decide +kernel) (by decide +kernel), by decide +kernel, by decide +kernel, by decide +kernel, by decide +kernel⟩
theorem vM_MO_setAt : wCv M_MO_setAt := ⟨wIn 867 (by decide +kernel) (by decide +kernel), wSel (n := 16) (by decide +kernel)⟩
def M_MO_chars : wM := (⟨"CodePointSetsModel", "chars", "()V"⟩, prog_11_method_38_code, 5, none)
set_option maxRecDepth 100000 in
theorem yM_MO_chars : wCy M_MO_chars 0 := ⟨wIn 872 rfl (by decide +kernel), wIn 8 (by decide +kernel) (by decide +kernel), by decide +kernel, by decide +kernel, by decide +kernel, by decide +kernel⟩
theorem vM_MO_chars : wCv M_MO_chars := ⟨wIn 871 (by decide +kernel) (by decide +kernel), wSel (n := 16) (by decide +kernel)⟩
def M_MO_print : wM := (⟨"CodePointSetsModel", "print", "(I)I"⟩, prog_11_method_45_code, 10, (some (.int)))
set_option maxRecDepth 100000 in
theorem yM_MO_print : wCy M_MO_print 1 := ⟨wIn 876 rfl (by decide +kernel), wIn 8 (by decide +kernel) (by decide +kernel), by decide +kernel, by decide +kernel, by decide +kernel, by decide +kernel⟩
theorem vM_MO_print : wCv M_MO_print := ⟨wIn 874 (by decide +kernel) (by decide +kernel), wIn 875 (by decide +kernel) (by decide +kernel)⟩
def M_MO_put : wM := (⟨"CodePointSetsModel", "put", "(I)V"⟩, prog_11_method_42_code, 2, none)
set_option maxRecDepth 100000 in
theorem yM_MO_put : wCy M_MO_put 1 := ⟨wIn 880 rfl (by decide +kernel), wIn 8 (by decide +kernel) (by decide +kernel), by decide +kernel, by decide +kernel, by decide +kernel, by decide +kernel⟩
theorem vM_MO_put : wCv M_MO_put := ⟨wIn 879 (by decide +kernel) (by decide +kernel), wSel (n := 16) (by decide +kernel)⟩
def M_MO_putPoint : wM := (⟨"CodePointSetsModel", "putPoint", "(I)V"⟩, prog_11_method_43_code, 4, none)
set_option maxRecDepth 100000 in
theorem yM_MO_putPoint : wCy M_MO_putPoint 1 := ⟨wIn 884 rfl (by decide +kernel), wIn 8 (by decide +kernel) (by decide +kernel), by decide +kernel, by decide +kernel, by decide +kernel, by decide +kernel⟩
theorem vM_MO_putPoint : wCv M_MO_putPoint := ⟨wIn 883 (by decide +kernel) (by decide +kernel), wSel (n := 16) (by decide +kernel)⟩
def M_MO_putString : wM := (⟨"CodePointSetsModel", "putString", "(J)V"⟩, prog_11_method_44_code, 4, none)
set_option maxRecDepth 100000 in
theorem yM_MO_putString : wCy M_MO_putString 1 := ⟨wIn 890 rfl (by decide +kernel), wIn 8 (by decide +kernel) (by decide +kernel), by decide +kernel, by decide +kernel, by decide +kernel, by decide +kernel⟩
theorem vM_MO_putString : wCv M_MO_putString := ⟨wIn 889 (by decide +kernel) (by decide +kernel), wSel (n := 16) (by decide +kernel)⟩
def M_MO_combine : wM := (⟨"CodePointSetsModel", "combine", "(III)Z"⟩, prog_11_method_47_code, 4, (some (.boolean)))
set_option maxRecDepth 100000 in
theorem yM_MO_combine : wCy M_MO_combine 3 := ⟨wIn 895 rfl (by decide +kernel), wIn 8 (by decide +kernel) (by decide +kernel), by decide +kernel, by decide +kernel, by decide +kernel, by decide +kernel⟩
theorem vM_MO_combine : wCv M_MO_combine := ⟨wIn 893 (by decide +kernel) (by decide +kernel), wIn 894 (by decide +kernel) (by decide +kernel)⟩
def M_MO_takeMade : wM := (⟨"CodePointSetsModel", "takeMade", "(I)Z"⟩, prog_11_method_46_code, 2, (some (.boolean)))
set_option maxRecDepth 100000 in
theorem yM_MO_takeMade : wCy M_MO_takeMade 1 := ⟨wIn 899 rfl (by decide +kernel), wIn 8 (by decide +kernel) (by decide +kernel), by decide +kernel, by decide +kernel, by decide +kernel, by decide +kernel⟩
theorem vM_MO_takeMade : wCv M_MO_takeMade := ⟨wIn 898 (by decide +kernel) (by decide +kernel), wSel (n := 16) (by decide +kernel)⟩
def M_MO_turn : wM := (⟨"CodePointSetsModel", "turn", "(I)Z"⟩, prog_11_method_48_code, 2, (some (.boolean)))
set_option maxRecDepth 100000 in
theorem yM_MO_turn : wCy M_MO_turn 1 := ⟨wIn 903 rfl (by decide +kernel), wIn 8 (by decide +kernel) (by decide +kernel), by decide +kernel, by decide +kernel, by decide +kernel, by decide +kernel⟩
theorem vM_MO_turn : wCv M_MO_turn := ⟨wIn 901 (by decide +kernel) (by decide +kernel), wIn 902 (by decide +kernel) (by decide +kernel)⟩
def M_MO_close : wM := (⟨"CodePointSetsModel", "close", "(I)I"⟩, prog_11_method_50_code, 3, (some (.int)))
set_option maxRecDepth 100000 in
theorem yM_MO_close : wCy M_MO_close 1 := ⟨wIn 907 rfl (by decide +kernel), wIn 8 (by decide +kernel) (by decide +kernel), by decide +kernel, by decide +kernel, by decide +kernel, by decide +kernel⟩
theorem vM_MO_close : wCv M_MO_close := ⟨wIn 905 (by decide +kernel) (by decide +kernel), wIn 906 (by decide +kernel) (by decide +kernel)⟩
def M_MO_alike : wM := (⟨"CodePointSetsModel", "alike", "(III)V"⟩, prog_11_method_49_code, 7, none)
set_option maxRecDepth 100000 in
theorem yM_MO_alike : wCy M_MO_alike 3 := ⟨wIn 911 rfl (by decide +kernel), wIn 8 (by decide +kernel) (by decide +kernel), by decide +kernel, by decide +kernel, by decide +kernel, by decide +kernel⟩
theorem vM_MO_alike : wCv M_MO_alike := ⟨wIn 910 (by decide +kernel) (by decide +kernel), wSel (n := 16) (by decide +kernel)⟩
def M_MO_size : wM := (⟨"CodePointSetsModel", "size", "(I)I"⟩, prog_11_method_54_code, 4, (some (.int)))
set_option maxRecDepth 100000 in
theorem yM_MO_size : wCy M_MO_size 1 := ⟨wIn 915 rfl (by decide +kernel), wIn 8 (by decide +kernel) (by decide +kernel), by decide +kernel, by decide +kernel, by decide +kernel, by decide +kernel⟩
theorem vM_MO_size : wCv M_MO_size := ⟨wIn 913 (by decide +kernel) (by decide +kernel), wIn 914 (by decide +kernel) (by decide +kernel)⟩
def M_MO_contains : wM := (⟨"CodePointSetsModel", "contains", "(II)Z"⟩, prog_11_method_51_code, 3, (some (.boolean)))
set_option maxRecDepth 100000 in
theorem yM_MO_contains : wCy M_MO_contains 2 := ⟨wIn 919 rfl (by decide +kernel), wIn 8 (by decide +kernel) (by decide +kernel), by decide +kernel, by decide +kernel, by decide +kernel, by decide +kernel⟩
theorem vM_MO_contains : wCv M_MO_contains := ⟨wIn 917 (by decide +kernel) (by decide +kernel), wIn 918 (by decide +kernel) (by decide +kernel)⟩
def M_MO_has : wM := (⟨"CodePointSetsModel", "has", "(I)Z"⟩, prog_11_method_52_code, 2, (some (.boolean)))
set_option maxRecDepth 100000 in
theorem yM_MO_has : wCy M_MO_has 1 := ⟨wIn 923 rfl (by decide +kernel), wIn 8 (by decide +kernel) (by decide +kernel), by decide +kernel, by decide +kernel, by decide +kernel, by decide +kernel⟩
theorem vM_MO_has : wCv M_MO_has := ⟨wIn 921 (by decide +kernel) (by decide +kernel), wIn 922 (by decide +kernel) (by decide +kernel)⟩
def M_MO_includes : wM := (⟨"CodePointSetsModel", "includes", "(II)Z"⟩, prog_11_method_53_code, 3, (some (.boolean)))
set_option maxRecDepth 100000 in
theorem yM_MO_includes : wCy M_MO_includes 2 := ⟨wIn 927 rfl (by decide +kernel), wIn 8 (by decide +kernel) (by decide +kernel), by decide +kernel, by decide +kernel, by decide +kernel, by decide +kernel⟩
theorem vM_MO_includes : wCv M_MO_includes := ⟨wIn 925 (by decide +kernel) (by decide +kernel), wIn 926 (by decide +kernel) (by decide +kernel)⟩
def M_MO_strings : wM := (⟨"CodePointSetsModel", "strings", "(I)I"⟩, prog_11_method_55_code, 2, (some (.int)))
set_option maxRecDepth 100000 in
theorem yM_MO_strings : wCy M_MO_strings 1 := ⟨wIn 932 rfl (by decide +kernel), wIn 8 (by decide +kernel) (by decide +kernel), by decide +kernel, by decide +kernel, by decide +kernel, by decide +kernel⟩
theorem vM_MO_strings : wCv M_MO_strings := ⟨wIn 930 (by decide +kernel) (by decide +kernel), wIn 931 (by decide +kernel) (by decide +kernel)⟩
def M_MO_edge : wM := (⟨"CodePointSetsModel", "edge", "(II)I"⟩, prog_11_method_56_code, 3, (some (.int)))
set_option maxRecDepth 100000 in
theorem yM_MO_edge : wCy M_MO_edge 2 := ⟨wIn 936 rfl (by decide +kernel), wIn 8 (by decide +kernel) (by decide +kernel), by decide +kernel, by decide +kernel, by decide +kernel, by decide +kernel⟩
theorem vM_MO_edge : wCv M_MO_edge := ⟨wIn 934 (by decide +kernel) (by decide +kernel), wIn 935 (by decide +kernel) (by decide +kernel)⟩
def M_MO_nth : wM := (⟨"CodePointSetsModel", "nth", "(II)I"⟩, prog_11_method_57_code, 7, (some (.int)))
set_option maxRecDepth 100000 in
theorem yM_MO_nth : wCy M_MO_nth 2 := ⟨wIn 940 rfl (by decide +kernel), wIn 8 (by decide +kernel) (by decide +kernel), by decide +kernel, by decide +kernel, by decide +kernel, by decide +kernel⟩
theorem vM_MO_nth : wCv M_MO_nth := ⟨wIn 938 (by decide +kernel) (by decide +kernel), wIn 939 (by decide +kernel) (by decide +kernel)⟩
def M_MO_span : wM := (⟨"CodePointSetsModel", "span", "(IIZ)I"⟩, prog_11_method_59_code, 9, (some (.int)))
set_option maxRecDepth 100000 in
theorem yM_MO_span : wCy M_MO_span 3 := ⟨wIn 944 rfl (by decide +kernel), wIn 8 (by decide +kernel) (by decide +kernel), by decide +kernel, by decide +kernel, by decide +kernel, by decide +kernel⟩
theorem vM_MO_span : wCv M_MO_span := ⟨wIn 942 (by decide +kernel) (by decide +kernel), wIn 943 (by decide +kernel) (by decide +kernel)⟩
def M_MO_begins : wM := (⟨"CodePointSetsModel", "begins", "(III)Z"⟩, prog_11_method_58_code, 4, (some (.boolean)))
set_option maxRecDepth 100000 in
theorem yM_MO_begins : wCy M_MO_begins 3 := ⟨wIn 948 rfl (by decide +kernel), wIn 8 (by decide +kernel) (by decide +kernel), by decide +kernel, by decide +kernel, by decide +kernel, by decide +kernel⟩
theorem vM_MO_begins : wCv M_MO_begins := ⟨wIn 947 (by decide +kernel) (by decide +kernel), wSel (n := 16) (by decide +kernel)⟩
/-! links of the pools of MO: written by wip/gen/mknames.py -/
theorem o_MO_1 : Cond.methodLink "CodePointSetsModel" 1 Lib.objectInit ∈ wWL := wIn 652 (by decide +kernel) (by decide +kernel)
theorem k_MO_42 : Cond.constant "CodePointSetsModel" 42 1114112 ∈ wWL := wIn 653 (by decide +kernel) (by decide +kernel)
theorem f_MO_7 : wF "CodePointSetsModel" 7 7 0 := ⟨("CodePointSetsModel", wT_MO, 16), rfl, by decide, Or.inl (wIn 654 (by decide +kernel) (by decide +kernel))⟩
theorem f_MO_43 : wF "CodePointSetsModel" 43 7 1 := ⟨("CodePointSetsModel", wT_MO, 16), rfl, by decide, Or.inl (wIn 655 (by decide +kernel) (by decide +kernel))⟩
theorem f_MO_13 : wF "CodePointSetsModel" 13 7 2 := ⟨("CodePointSetsModel", wT_MO, 16), rfl, by decide, Or.inl (wIn 656 (by decide +kernel) (by decide +kernel))⟩
theorem f_MO_16 : wF "CodePointSetsModel" 16 7 3 := ⟨("CodePointSetsModel", wT_MO, 16), rfl, by decide, Or.inl (wIn 657 (by decide +kernel) (by decide +kernel))⟩
theorem f_MO_19 : wF "CodePointSetsModel" 19 7 4 := ⟨("CodePointSetsModel", wT_MO, 16), rfl, by decide, Or.inl (wIn 658 (by decide +kernel) (by decide +kernel))⟩
theorem f_MO_23 : wF "CodePointSetsModel" 23 7 5 := ⟨("CodePointSetsModel", wT_MO, 16), rfl, by decide, Or.inl (wIn 659 (by decide +kernel) (by decide +kernel))⟩
theorem f_MO_86 : wF "CodePointSetsModel" 86 7 6 := ⟨("CodePointSetsModel", wT_MO, 16), rfl, by decide, Or.inl (wIn 660 (by decide +kernel) (by decide +kernel))⟩
theorem f_MO_93 : wF "CodePointSetsModel" 93 7 7 := ⟨("CodePointSetsModel", wT_MO, 16), rfl, by decide, Or.inl (wIn 661 (by decide +kernel) (by decide +kernel))⟩
theorem f_MO_149 : wF "CodePointSetsModel" 149 7 8 := ⟨("CodePointSetsModel", wT_MO, 16), rfl, by decide, Or.inl (wIn 662 (by decide +kernel) (by decide +kernel))⟩
theorem f_MO_26 : wF "CodePointSetsModel" 26 7 9 := ⟨("CodePointSetsModel", wT_MO, 16), rfl, by decide, Or.inl (wIn 663 (by decide +kernel) (by decide +kernel))⟩
theorem f_MO_30 : wF "CodePointSetsModel" 30 7 10 := ⟨("CodePointSetsModel", wT_MO, 16), rfl, by decide, Or.inl (wIn 664 (by decide +kernel) (by decide +kernel))⟩
theorem f_MO_33 : wF "CodePointSetsModel" 33 7 11 := ⟨("CodePointSetsModel", wT_MO, 16), rfl, by decide, Or.inl (wIn 665 (by decide +kernel) (by decide +kernel))⟩
theorem f_MO_36 : wF "CodePointSetsModel" 36 7 12 := ⟨("CodePointSetsModel", wT_MO, 16), rfl, by decide, Or.inl (wIn 666 (by decide +kernel) (by decide +kernel))⟩
theorem f_MO_205 : wF "CodePointSetsModel" 205 7 13 := ⟨("CodePointSetsModel", wT_MO, 16), rfl, by decide, Or.inl (wIn 667 (by decide +kernel) (by decide +kernel))⟩
theorem f_MO_202 : wF "CodePointSetsModel" 202 7 14 := ⟨("CodePointSetsModel", wT_MO, 16), rfl, by decide, Or.inl (wIn 668 (by decide +kernel) (by decide +kernel))⟩
theorem f_MO_39 : wF "CodePointSetsModel" 39 7 15 := ⟨("CodePointSetsModel", wT_MO, 16), rfl, by decide, Or.inl (wIn 669 (by decide +kernel) (by decide +kernel))⟩
theorem l_MO_196 : wCl "CodePointSetsModel" 196 M_MO_register := Or.inl (wIn 724 (by decide +kernel) (by decide +kernel))
theorem l_MO_199 : wCl "CodePointSetsModel" 199 M_MO_value := Or.inl (wIn 727 (by decide +kernel) (by decide +kernel))
theorem l_MO_111 : wCl "CodePointSetsModel" 111 M_MO_propertyAt := Or.inl (wIn 731 (by decide +kernel) (by decide +kernel))
theorem l_MO_83 : wCl "CodePointSetsModel" 83 M_MO_is := Or.inl (wIn 735 (by decide +kernel) (by decide +kernel))
theorem l_MO_178 : wCl "CodePointSetsModel" 178 M_MO_property := Or.inl (wIn 739 (by decide +kernel) (by decide +kernel))
theorem l_MO_105 : wCl "CodePointSetsModel" 105 M_MO_expect := Or.inl (wIn 743 (by decide +kernel) (by decide +kernel))
theorem l_MO_108 : wCl "CodePointSetsModel" 108 M_MO_letter := Or.inl (wIn 747 (by decide +kernel) (by decide +kernel))
theorem k_MO_114 : Cond.constantLong "CodePointSetsModel" 114 128 ∈ wWL := wIn 750 (by decide +kernel) (by decide +kernel)
theorem l_MO_48 : wCl "CodePointSetsModel" 48 M_MO_empty := Or.inl (wIn 751 (by decide +kernel) (by decide +kernel))
theorem l_MO_116 : wCl "CodePointSetsModel" 116 M_MO_fillNamed := Or.inl (wIn 755 (by decide +kernel) (by decide +kernel))
theorem k_MO_120 : Cond.constantLong "CodePointSetsModel" 120 1603449 ∈ wWL := wIn 759 (by decide +kernel) (by decide +kernel)
theorem k_MO_122 : Cond.constant "CodePointSetsModel" 122 1114111 ∈ wWL := wIn 760 (by decide +kernel) (by decide +kernel)
theorem l_MO_123 : wCl "CodePointSetsModel" 123 M_MO_addRange := Or.inl (wIn 761 (by decide +kernel) (by decide +kernel))
theorem l_MO_80 : wCl "CodePointSetsModel" 80 M_MO_join := Or.inl (wIn 765 (by decide +kernel) (by decide +kernel))
theorem l_MO_72 : wCl "CodePointSetsModel" 72 M_MO_make := Or.inl (wIn 769 (by decide +kernel) (by decide +kernel))
theorem l_MO_52 : wCl "CodePointSetsModel" 52 M_MO_nextEdge := Or.inl (wIn 773 (by decide +kernel) (by decide +kernel))
theorem k_MO_47 : Cond.constant "CodePointSetsModel" 47 1114113 ∈ wWL := wIn 777 (by decide +kernel) (by decide +kernel)
theorem l_MO_56 : wCl "CodePointSetsModel" 56 M_MO_member := Or.inl (wIn 778 (by decide +kernel) (by decide +kernel))
theorem l_MO_60 : wCl "CodePointSetsModel" 60 M_MO_decided := Or.inl (wIn 782 (by decide +kernel) (by decide +kernel))
theorem l_MO_64 : wCl "CodePointSetsModel" 64 M_MO_stringMember := Or.inl (wIn 785 (by decide +kernel) (by decide +kernel))
theorem l_MO_68 : wCl "CodePointSetsModel" 68 M_MO_keepString := Or.inl (wIn 789 (by decide +kernel) (by decide +kernel))
theorem l_MO_76 : wCl "CodePointSetsModel" 76 M_MO_copy := Or.inl (wIn 793 (by decide +kernel) (by decide +kernel))
theorem k_MO_126 : Cond.constantLong "CodePointSetsModel" 126 26281047273 ∈ wWL := wIn 797 (by decide +kernel) (by decide +kernel)
theorem k_MO_128 : Cond.constantLong "CodePointSetsModel" 128 27065447668 ∈ wWL := wIn 798 (by decide +kernel) (by decide +kernel)
theorem k_MO_130 : Cond.constantLong "CodePointSetsModel" 130 58995148087489780 ∈ wWL := wIn 799 (by decide +kernel) (by decide +kernel)
theorem k_MO_132 : Cond.constantLong "CodePointSetsModel" 132 31643677426 ∈ wWL := wIn 800 (by decide +kernel) (by decide +kernel)
theorem k_MO_134 : Cond.constantLong "CodePointSetsModel" 134 29225775858 ∈ wWL := wIn 801 (by decide +kernel) (by decide +kernel)
theorem k_MO_136 : Cond.constantLong "CodePointSetsModel" 136 3738208908018 ∈ wWL := wIn 802 (by decide +kernel) (by decide +kernel)
theorem l_MO_138 : wCl "CodePointSetsModel" 138 M_MO_fillLetters := Or.inl (wIn 803 (by decide +kernel) (by decide +kernel))
theorem k_MO_141 : Cond.constantLong "CodePointSetsModel" 141 27889595115 ∈ wWL := wIn 807 (by decide +kernel) (by decide +kernel)
theorem k_MO_143 : Cond.constantLong "CodePointSetsModel" 143 31106560485 ∈ wWL := wIn 808 (by decide +kernel) (by decide +kernel)
theorem k_MO_145 : Cond.constantLong "CodePointSetsModel" 145 8352993783238392421 ∈ wWL := wIn 809 (by decide +kernel) (by decide +kernel)
theorem k_MO_147 : Cond.constant "CodePointSetsModel" 147 55296 ∈ wWL := wIn 810 (by decide +kernel) (by decide +kernel)
theorem k_MO_148 : Cond.constant "CodePointSetsModel" 148 57343 ∈ wWL := wIn 811 (by decide +kernel) (by decide +kernel)
theorem l_MO_181 : wCl "CodePointSetsModel" 181 M_MO_open := Or.inl (wIn 812 (by decide +kernel) (by decide +kernel))
theorem l_MO_152 : wCl "CodePointSetsModel" 152 M_MO_level := Or.inl (wIn 816 (by decide +kernel) (by decide +kernel))
theorem l_MO_193 : wCl "CodePointSetsModel" 193 M_MO_item := Or.inl (wIn 820 (by decide +kernel) (by decide +kernel))
theorem l_MO_162 : wCl "CodePointSetsModel" 162 M_MO_pastSpaces := Or.inl (wIn 824 (by decide +kernel) (by decide +kernel))
theorem l_MO_175 : wCl "CodePointSetsModel" 175 M_MO_shut := Or.inl (wIn 828 (by decide +kernel) (by decide +kernel))
theorem l_MO_159 : wCl "CodePointSetsModel" 159 M_MO_takeSet := Or.inl (wIn 832 (by decide +kernel) (by decide +kernel))
theorem l_MO_156 : wCl "CodePointSetsModel" 156 M_MO_ended := Or.inl (wIn 836 (by decide +kernel) (by decide +kernel))
theorem l_MO_184 : wCl "CodePointSetsModel" 184 M_MO_string := Or.inl (wIn 840 (by decide +kernel) (by decide +kernel))
theorem l_MO_165 : wCl "CodePointSetsModel" 165 M_MO_readChar := Or.inl (wIn 844 (by decide +kernel) (by decide +kernel))
theorem l_MO_97 : wCl "CodePointSetsModel" 97 M_MO_special := Or.inl (wIn 848 (by decide +kernel) (by decide +kernel))
theorem l_MO_101 : wCl "CodePointSetsModel" 101 M_MO_hexDigits := Or.inl (wIn 851 (by decide +kernel) (by decide +kernel))
theorem l_MO_89 : wCl "CodePointSetsModel" 89 M_MO_hex := Or.inl (wIn 855 (by decide +kernel) (by decide +kernel))
theorem l_MO_168 : wCl "CodePointSetsModel" 168 M_MO_stringOf := Or.inl (wIn 858 (by decide +kernel) (by decide +kernel))
theorem l_MO_187 : wCl "CodePointSetsModel" 187 M_MO_signOrDash := Or.inl (wIn 861 (by decide +kernel) (by decide +kernel))
theorem l_MO_172 : wCl "CodePointSetsModel" 172 M_MO_setAt := Or.inl (wIn 865 (by decide +kernel) (by decide +kernel))
theorem l_MO_190 : wCl "CodePointSetsModel" 190 M_MO_chars := Or.inl (wIn 869 (by decide +kernel) (by decide +kernel))
theorem l_MO_208 : wCl "CodePointSetsModel" 208 M_MO_put := Or.inl (wIn 877 (by decide +kernel) (by decide +kernel))
theorem l_MO_213 : wCl "CodePointSetsModel" 213 M_MO_putPoint := Or.inl (wIn 881 (by decide +kernel) (by decide +kernel))
theorem k_MO_216 : Cond.constantLong "CodePointSetsModel" 216 (-1) ∈ wWL := wIn 885 (by decide +kernel) (by decide +kernel)
theorem k_MO_218 : Cond.constantLong "CodePointSetsModel" 218 9223372036854775807 ∈ wWL := wIn 886 (by decide +kernel) (by decide +kernel)
theorem l_MO_220 : wCl "CodePointSetsModel" 220 M_MO_putString := Or.inl (wIn 887 (by decide +kernel) (by decide +kernel))
theorem k_MO_211 : Cond.constantLong "CodePointSetsModel" 211 2097151 ∈ wWL := wIn 891 (by decide +kernel) (by decide +kernel)
theorem l_MO_223 : wCl "CodePointSetsModel" 223 M_MO_takeMade := Or.inl (wIn 896 (by decide +kernel) (by decide +kernel))
theorem l_MO_226 : wCl "CodePointSetsModel" 226 M_MO_alike := Or.inl (wIn 908 (by decide +kernel) (by decide +kernel))
theorem l_MO_229 : wCl "CodePointSetsModel" 229 M_MO_size := Or.inl (wIn 912 (by decide +kernel) (by decide +kernel))
theorem l_MO_231 : wCl "CodePointSetsModel" 231 M_MO_begins := Or.inl (wIn 945 (by decide +kernel) (by decide +kernel))
