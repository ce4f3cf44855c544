/-! the law: the second half of the 32 cases -/
section LWC
variable {cx : Cx} {p : Program} {l : Launch} {e : Env} {R : Room} {s : State} {m : MethodId} {args : Array Value} {below : List Frame} {meth : Method} {c : Code} {Q : State → Prop}
variable {b L : Nat} {xs : Nat → Int32} {M : Mem} {k n : Nat}
theorem lw_c16 (E : En cx yL_law cL_law 4 100 600000 7302250 p R s m args meth c) (hX : va_X b L xs s s.heap) (hbb : b < cx.2.2.2) (hL : L ≤ 2560) {i : Int} (h0 : 0 ≤ i) (h1 : i + 5 ≤ L) (h : IV M) (hr : k + 49 ≤ 600000 ∧ n + 8330 ≤ 7302250) (kk : ∀ O, IV O → G cx p l e R s m args below meth c Q 1172 (lwl cx b i) [] O (k + 49) (n + 8330)) : G cx p l e R s m args below meth c Q 784 (lwl cx b i) [] M k n := by
  have v1 := xv_R xs (i + 1)
  refine g_aload_n (pc := 784) E dL_law_784 (i := 1) rfl rfl ?_
  refine lw_arg (pc := 785) E hX hbb hL (by omega) (by omega) dL_law_785 dL_law_786 dL_law_787 dL_law_788 dL_law_789 ?_
  refine g_callV (pc := 790) (As := [_]) (i := 183) E dL_law_790 ml_L_81 (ct5_again h.2.1 h.ok v1) rfl rfl rfl rfl (by decide) (by decide) rfl (Nat.le_of_ble_eq_true rfl) ⟨by omega, by omega⟩ (fun x N hx => ?_)
  have e5 : N 185 = M 185 := (h.l5 hx.2).1
  refine g_aload_n (pc := 793) E dL_law_793 (i := 2) rfl rfl ?_
  refine lw_arg (pc := 794) E hX hbb hL (by omega) (by omega) dL_law_794 dL_law_795 dL_law_796 dL_law_797 dL_law_798 ?_
  refine g_callV (pc := 799) (As := [_]) (i := 184) E dL_law_799 ml_L_84 (ct_again_ e5 h.ok v1) rfl rfl rfl rfl (by decide) (by decide) rfl (Nat.le_of_ble_eq_true rfl) ⟨by omega, by omega⟩ (fun y O hy => ?_)
  have e : x = y ∧ IV O := ⟨hx.1.symm.trans hy.1, h.look hx.2 hy.2⟩
  obtain ⟨e, hO⟩ := e
  rw [e]
  refine lw_same (pc := 802) (tgt := 1172) E dL_law_802 rfl ?_
  exact g_widen (k' := k + 49) (n' := n + 8330) (by omega) (by omega) (kk O hO)
theorem lw_c17 (E : En cx yL_law cL_law 4 100 600000 7302250 p R s m args meth c) (hX : va_X b L xs s s.heap) (hbb : b < cx.2.2.2) (hL : L ≤ 2560) {i : Int} (h0 : 0 ≤ i) (h1 : i + 5 ≤ L) (h : IV M) (hr : k + 49 ≤ 600000 ∧ n + 8330 ≤ 7302250) (kk : ∀ O, IV O → G cx p l e R s m args below meth c Q 1172 (lwl cx b i) [] O (k + 49) (n + 8330)) : G cx p l e R s m args below meth c Q 807 (lwl cx b i) [] M k n := by
  have v2 := xv_R xs (i + 2)
  have v1 := xv_R xs (i + 1)
  refine g_aload_n (pc := 807) E dL_law_807 (i := 1) rfl rfl ?_
  refine lw_arg (pc := 808) E hX hbb hL (by omega) (by omega) dL_law_808 dL_law_809 dL_law_810 dL_law_811 dL_law_812 ?_
  refine lw_arg (pc := 813) E hX hbb hL (by omega) (by omega) dL_law_813 dL_law_814 dL_law_815 dL_law_816 dL_law_817 ?_
  refine g_callV (pc := 818) (As := [_, _]) (i := 183) E dL_law_818 ml_L_85 (ct5_why h.2.1 h.ok v1 v2) rfl rfl rfl rfl (by decide) (by decide) rfl (Nat.le_of_ble_eq_true rfl) ⟨by omega, by omega⟩ (fun x N hx => ?_)
  have e5 : N 185 = M 185 := (h.l5 hx.2).1
  refine g_aload_n (pc := 821) E dL_law_821 (i := 2) rfl rfl ?_
  refine lw_arg (pc := 822) E hX hbb hL (by omega) (by omega) dL_law_822 dL_law_823 dL_law_824 dL_law_825 dL_law_826 ?_
  refine lw_arg (pc := 827) E hX hbb hL (by omega) (by omega) dL_law_827 dL_law_828 dL_law_829 dL_law_830 dL_law_831 ?_
  refine g_callV (pc := 832) (As := [_, _]) (i := 184) E dL_law_832 ml_L_88 (ct_why e5 h.ok v1 v2) rfl rfl rfl rfl (by decide) (by decide) rfl (Nat.le_of_ble_eq_true rfl) ⟨by omega, by omega⟩ (fun y O hy => ?_)
  have e : x = y ∧ IV O := ⟨hx.1.symm.trans hy.1, h.look hx.2 hy.2⟩
  obtain ⟨e, hO⟩ := e
  rw [e]
  refine lw_same (pc := 835) (tgt := 1172) E dL_law_835 rfl ?_
  exact g_widen (k' := k + 49) (n' := n + 8330) (by omega) (by omega) (kk O hO)
theorem lw_c18 (E : En cx yL_law cL_law 4 100 600000 7302250 p R s m args meth c) (hX : va_X b L xs s s.heap) (hbb : b < cx.2.2.2) (hL : L ≤ 2560) {i : Int} (h0 : 0 ≤ i) (h1 : i + 5 ≤ L) (h : IV M) (hr : k + 49 ≤ 600000 ∧ n + 8330 ≤ 7302250) (kk : ∀ O, IV O → G cx p l e R s m args below meth c Q 1172 (lwl cx b i) [] O (k + 49) (n + 8330)) : G cx p l e R s m args below meth c Q 840 (lwl cx b i) [] M k n := by
  have v1 := xv_R xs (i + 1)
  refine g_aload_n (pc := 840) E dL_law_840 (i := 1) rfl rfl ?_
  refine lw_arg (pc := 841) E hX hbb hL (by omega) (by omega) dL_law_841 dL_law_842 dL_law_843 dL_law_844 dL_law_845 ?_
  refine g_callV (pc := 846) (As := [_]) (i := 183) E dL_law_846 ml_L_89 (ct5_ranked h.2.1 h.ok v1) rfl rfl rfl rfl (by decide) (by decide) rfl (Nat.le_of_ble_eq_true rfl) ⟨by omega, by omega⟩ (fun x N hx => ?_)
  have e5 : N 185 = M 185 := (h.l5 hx.2).1
  refine g_aload_n (pc := 849) E dL_law_849 (i := 2) rfl rfl ?_
  refine lw_arg (pc := 850) E hX hbb hL (by omega) (by omega) dL_law_850 dL_law_851 dL_law_852 dL_law_853 dL_law_854 ?_
  refine g_callV (pc := 855) (As := [_]) (i := 184) E dL_law_855 ml_L_92 (ct_ranked e5 h.ok v1) rfl rfl rfl rfl (by decide) (by decide) rfl (Nat.le_of_ble_eq_true rfl) ⟨by omega, by omega⟩ (fun y O hy => ?_)
  have e : x = y ∧ IV O := ⟨hx.1.symm.trans hy.1, h.look hx.2 hy.2⟩
  obtain ⟨e, hO⟩ := e
  rw [e]
  refine lw_same (pc := 858) (tgt := 1172) E dL_law_858 rfl ?_
  exact g_widen (k' := k + 49) (n' := n + 8330) (by omega) (by omega) (kk O hO)
theorem lw_c19 (E : En cx yL_law cL_law 4 100 600000 7302250 p R s m args meth c) (hX : va_X b L xs s s.heap) (hbb : b < cx.2.2.2) (hL : L ≤ 2560) {i : Int} (h0 : 0 ≤ i) (h1 : i + 5 ≤ L) (h : IV M) (hr : k + 49 ≤ 600000 ∧ n + 8330 ≤ 7302250) (kk : ∀ O, IV O → G cx p l e R s m args below meth c Q 1172 (lwl cx b i) [] O (k + 49) (n + 8330)) : G cx p l e R s m args below meth c Q 863 (lwl cx b i) [] M k n := by
  have v2 := xv_R xs (i + 2)
  have v1 := xv_R xs (i + 1)
  refine g_aload_n (pc := 863) E dL_law_863 (i := 1) rfl rfl ?_
  refine lw_arg (pc := 864) E hX hbb hL (by omega) (by omega) dL_law_864 dL_law_865 dL_law_866 dL_law_867 dL_law_868 ?_
  refine lw_arg (pc := 869) E hX hbb hL (by omega) (by omega) dL_law_869 dL_law_870 dL_law_871 dL_law_872 dL_law_873 ?_
  refine g_callV (pc := 874) (As := [_, _]) (i := 183) E dL_law_874 ml_L_93 (ct5_ofClass h.2.1 h.ok v1 v2) rfl rfl rfl rfl (by decide) (by decide) rfl (Nat.le_of_ble_eq_true rfl) ⟨by omega, by omega⟩ (fun x N hx => ?_)
  have e5 : N 185 = M 185 := (h.l5 hx.2).1
  refine g_aload_n (pc := 877) E dL_law_877 (i := 2) rfl rfl ?_
  refine lw_arg (pc := 878) E hX hbb hL (by omega) (by omega) dL_law_878 dL_law_879 dL_law_880 dL_law_881 dL_law_882 ?_
  refine lw_arg (pc := 883) E hX hbb hL (by omega) (by omega) dL_law_883 dL_law_884 dL_law_885 dL_law_886 dL_law_887 ?_
  refine g_callV (pc := 888) (As := [_, _]) (i := 184) E dL_law_888 ml_L_96 (ct_ofClass e5 h.ok v1 v2) rfl rfl rfl rfl (by decide) (by decide) rfl (Nat.le_of_ble_eq_true rfl) ⟨by omega, by omega⟩ (fun y O hy => ?_)
  have e : x = y ∧ IV O := ⟨hx.1.symm.trans hy.1, h.look hx.2 hy.2⟩
  obtain ⟨e, hO⟩ := e
  rw [e]
  refine lw_same (pc := 891) (tgt := 1172) E dL_law_891 rfl ?_
  exact g_widen (k' := k + 49) (n' := n + 8330) (by omega) (by omega) (kk O hO)
theorem lw_c20 (E : En cx yL_law cL_law 4 100 600000 7302250 p R s m args meth c) (hX : va_X b L xs s s.heap) (hbb : b < cx.2.2.2) (hL : L ≤ 2560) {i : Int} (h0 : 0 ≤ i) (h1 : i + 5 ≤ L) (h : IV M) (hr : k + 49 ≤ 600000 ∧ n + 8330 ≤ 7302250) (kk : ∀ O, IV O → G cx p l e R s m args below meth c Q 1172 (lwl cx b i) [] O (k + 49) (n + 8330)) : G cx p l e R s m args below meth c Q 896 (lwl cx b i) [] M k n := by
  have v3 := xv_R xs (i + 3)
  have v2 := xv_R xs (i + 2)
  have v1 := xv_R xs (i + 1)
  refine g_aload_n (pc := 896) E dL_law_896 (i := 1) rfl rfl ?_
  refine lw_arg (pc := 897) E hX hbb hL (by omega) (by omega) dL_law_897 dL_law_898 dL_law_899 dL_law_900 dL_law_901 ?_
  refine lw_arg (pc := 902) E hX hbb hL (by omega) (by omega) dL_law_902 dL_law_903 dL_law_904 dL_law_905 dL_law_906 ?_
  refine lw_arg (pc := 907) E hX hbb hL (by omega) (by omega) dL_law_907 dL_law_908 dL_law_909 dL_law_910 dL_law_911 ?_
  refine g_callV (pc := 912) (As := [_, _, _]) (i := 183) E dL_law_912 ml_L_97 (ct5_classIf h.2.1 h.ok v1 v2 v3) rfl rfl rfl rfl (by decide) (by decide) rfl (Nat.le_of_ble_eq_true rfl) ⟨by omega, by omega⟩ (fun x N hx => ?_)
  have e5 : N 185 = M 185 := (h.l5 hx.2).1
  refine g_aload_n (pc := 915) E dL_law_915 (i := 2) rfl rfl ?_
  refine lw_arg (pc := 916) E hX hbb hL (by omega) (by omega) dL_law_916 dL_law_917 dL_law_918 dL_law_919 dL_law_920 ?_
  refine lw_arg (pc := 921) E hX hbb hL (by omega) (by omega) dL_law_921 dL_law_922 dL_law_923 dL_law_924 dL_law_925 ?_
  refine lw_arg (pc := 926) E hX hbb hL (by omega) (by omega) dL_law_926 dL_law_927 dL_law_928 dL_law_929 dL_law_930 ?_
  refine g_callV (pc := 931) (As := [_, _, _]) (i := 184) E dL_law_931 ml_L_100 (ct_classIf e5 h.ok v1 v2 v3) rfl rfl rfl rfl (by decide) (by decide) rfl (Nat.le_of_ble_eq_true rfl) ⟨by omega, by omega⟩ (fun y O hy => ?_)
  have e : x = y ∧ IV O := ⟨hx.1.symm.trans hy.1, h.look hx.2 hy.2⟩
  obtain ⟨e, hO⟩ := e
  rw [e]
  refine lw_same (pc := 934) (tgt := 1172) E dL_law_934 rfl ?_
  exact g_widen (k' := k + 49) (n' := n + 8330) (by omega) (by omega) (kk O hO)
theorem lw_c21 (E : En cx yL_law cL_law 4 100 600000 7302250 p R s m args meth c) (hX : va_X b L xs s s.heap) (hbb : b < cx.2.2.2) (hL : L ≤ 2560) {i : Int} (h0 : 0 ≤ i) (h1 : i + 5 ≤ L) (h : IV M) (hr : k + 49 ≤ 600000 ∧ n + 8330 ≤ 7302250) (kk : ∀ O, IV O → G cx p l e R s m args below meth c Q 1172 (lwl cx b i) [] O (k + 49) (n + 8330)) : G cx p l e R s m args below meth c Q 939 (lwl cx b i) [] M k n := by
  have v2 := xv_R xs (i + 2)
  have v1 := xv_R xs (i + 1)
  refine g_aload_n (pc := 939) E dL_law_939 (i := 1) rfl rfl ?_
  refine lw_arg (pc := 940) E hX hbb hL (by omega) (by omega) dL_law_940 dL_law_941 dL_law_942 dL_law_943 dL_law_944 ?_
  refine lw_arg (pc := 945) E hX hbb hL (by omega) (by omega) dL_law_945 dL_law_946 dL_law_947 dL_law_948 dL_law_949 ?_
  refine g_callV (pc := 950) (As := [_, _]) (i := 183) E dL_law_950 ml_L_101 (ct5_needed h.2.1 h.ok v1 v2) rfl rfl rfl rfl (by decide) (by decide) rfl (Nat.le_of_ble_eq_true rfl) ⟨by omega, by omega⟩ (fun x N hx => ?_)
  have e5 : N 185 = M 185 := (h.l5 hx.2).1
  refine g_aload_n (pc := 953) E dL_law_953 (i := 2) rfl rfl ?_
  refine lw_arg (pc := 954) E hX hbb hL (by omega) (by omega) dL_law_954 dL_law_955 dL_law_956 dL_law_957 dL_law_958 ?_
  refine lw_arg (pc := 959) E hX hbb hL (by omega) (by omega) dL_law_959 dL_law_960 dL_law_961 dL_law_962 dL_law_963 ?_
  refine g_callV (pc := 964) (As := [_, _]) (i := 184) E dL_law_964 ml_L_104 (ct_needed e5 h.ok v1 v2) rfl rfl rfl rfl (by decide) (by decide) rfl (Nat.le_of_ble_eq_true rfl) ⟨by omega, by omega⟩ (fun y O hy => ?_)
  have e : x = y ∧ IV O := ⟨hx.1.symm.trans hy.1, h.look hx.2 hy.2⟩
  obtain ⟨e, hO⟩ := e
  rw [e]
  refine lw_same (pc := 967) (tgt := 1172) E dL_law_967 rfl ?_
  exact g_widen (k' := k + 49) (n' := n + 8330) (by omega) (by omega) (kk O hO)
theorem lw_c22 (E : En cx yL_law cL_law 4 100 600000 7302250 p R s m args meth c) (hX : va_X b L xs s s.heap) (hbb : b < cx.2.2.2) (hL : L ≤ 2560) {i : Int} (h0 : 0 ≤ i) (h1 : i + 5 ≤ L) (h : IV M) (hr : k + 49 ≤ 600000 ∧ n + 8330 ≤ 7302250) (kk : ∀ O, IV O → G cx p l e R s m args below meth c Q 1172 (lwl cx b i) [] O (k + 49) (n + 8330)) : G cx p l e R s m args below meth c Q 972 (lwl cx b i) [] M k n := by
  have v2 := xv_R xs (i + 2)
  have v1 := xv_R xs (i + 1)
  refine g_aload_n (pc := 972) E dL_law_972 (i := 1) rfl rfl ?_
  refine lw_arg (pc := 973) E hX hbb hL (by omega) (by omega) dL_law_973 dL_law_974 dL_law_975 dL_law_976 dL_law_977 ?_
  refine lw_arg (pc := 978) E hX hbb hL (by omega) (by omega) dL_law_978 dL_law_979 dL_law_980 dL_law_981 dL_law_982 ?_
  refine g_callV (pc := 983) (As := [_, _]) (i := 183) E dL_law_983 ml_L_105 (ct5_changedIf h.2.1 h.ok v1 v2) rfl rfl rfl rfl (by decide) (by decide) rfl (Nat.le_of_ble_eq_true rfl) ⟨by omega, by omega⟩ (fun x N hx => ?_)
  have e5 : N 185 = M 185 := (h.l5 hx.2).1
  refine g_aload_n (pc := 986) E dL_law_986 (i := 2) rfl rfl ?_
  refine lw_arg (pc := 987) E hX hbb hL (by omega) (by omega) dL_law_987 dL_law_988 dL_law_989 dL_law_990 dL_law_991 ?_
  refine lw_arg (pc := 992) E hX hbb hL (by omega) (by omega) dL_law_992 dL_law_993 dL_law_994 dL_law_995 dL_law_996 ?_
  refine g_callV (pc := 997) (As := [_, _]) (i := 184) E dL_law_997 ml_L_108 (ct_changedIf e5 h.ok v1 v2) rfl rfl rfl rfl (by decide) (by decide) rfl (Nat.le_of_ble_eq_true rfl) ⟨by omega, by omega⟩ (fun y O hy => ?_)
  have e : x = y ∧ IV O := ⟨hx.1.symm.trans hy.1, h.look hx.2 hy.2⟩
  obtain ⟨e, hO⟩ := e
  rw [e]
  refine lw_same (pc := 1000) (tgt := 1172) E dL_law_1000 rfl ?_
  exact g_widen (k' := k + 49) (n' := n + 8330) (by omega) (by omega) (kk O hO)
theorem lw_c23 (E : En cx yL_law cL_law 4 100 600000 7302250 p R s m args meth c) (hX : va_X b L xs s s.heap) (hbb : b < cx.2.2.2) (hL : L ≤ 2560) {i : Int} (h0 : 0 ≤ i) (h1 : i + 5 ≤ L) (h : IV M) (hr : k + 49 ≤ 600000 ∧ n + 8330 ≤ 7302250) (kk : ∀ O, IV O → G cx p l e R s m args below meth c Q 1172 (lwl cx b i) [] O (k + 49) (n + 8330)) : G cx p l e R s m args below meth c Q 1005 (lwl cx b i) [] M k n := by
  have v1 := xv_R xs (i + 1)
  refine g_aload_n (pc := 1005) E dL_law_1005 (i := 1) rfl rfl ?_
  refine lw_arg (pc := 1006) E hX hbb hL (by omega) (by omega) dL_law_1006 dL_law_1007 dL_law_1008 dL_law_1009 dL_law_1010 ?_
  refine g_callV (pc := 1011) (As := [_]) (i := 183) E dL_law_1011 ml_L_109 (ct5_append v1 (by have := h.t7; omega)) rfl rfl rfl rfl (by decide) (by decide) rfl (Nat.le_of_ble_eq_true rfl) ⟨by omega, by omega⟩ (fun x N hx => ?_)
  have hN : N 184 = M 184 := IV.app5 hx
  refine g_aload_n (pc := 1014) E dL_law_1014 (i := 2) rfl rfl ?_
  refine lw_arg (pc := 1015) E hX hbb hL (by omega) (by omega) dL_law_1015 dL_law_1016 dL_law_1017 dL_law_1018 dL_law_1019 ?_
  refine g_callV (pc := 1020) (As := [_]) (i := 184) E dL_law_1020 ml_L_112 (ct_append v1 (by rw [hN]; exact h.t7.2.1) (by rw [hN]; exact h.t7.2.2)) rfl rfl rfl rfl (by decide) (by decide) rfl (Nat.le_of_ble_eq_true rfl) ⟨by omega, by omega⟩ (fun y O hy => ?_)
  have e : x = y ∧ IV O := h.app hx hy
  obtain ⟨e, hO⟩ := e
  rw [e]
  refine lw_same (pc := 1023) (tgt := 1172) E dL_law_1023 rfl ?_
  exact g_widen (k' := k + 49) (n' := n + 8330) (by omega) (by omega) (kk O hO)
theorem lw_c24 (E : En cx yL_law cL_law 4 100 600000 7302250 p R s m args meth c) (hX : va_X b L xs s s.heap) (hbb : b < cx.2.2.2) (hL : L ≤ 2560) {i : Int} (h0 : 0 ≤ i) (h1 : i + 5 ≤ L) (h : IV M) (hr : k + 49 ≤ 600000 ∧ n + 8330 ≤ 7302250) (kk : ∀ O, IV O → G cx p l e R s m args below meth c Q 1172 (lwl cx b i) [] O (k + 49) (n + 8330)) : G cx p l e R s m args below meth c Q 1028 (lwl cx b i) [] M k n := by
  refine g_aload_n (pc := 1028) E dL_law_1028 (i := 1) rfl rfl ?_
  refine g_callV (pc := 1029) (As := []) (i := 183) E dL_law_1029 ml_L_113 (ct5_read h.2.1 h.ok h.1 h.2.2.1 h.u8 h.2.2.2.2.2.2.2.1.1 h.2.2.2.2.2.2.2.1.2) rfl rfl rfl rfl (by decide) (by decide) rfl (Nat.le_of_ble_eq_true rfl) ⟨by omega, by omega⟩ (fun x N hx => ?_)
  have hN := h.rd5 hx
  have u : 0 ≤ N 184 2 ∧ N 184 2 ≤ 8 := by rw [hN.2.1]; exact h.2.2.2.1
  refine g_inR (fun hin => ?_)
  refine g_aload_n (pc := 1032) E dL_law_1032 (i := 2) rfl rfl ?_
  refine g_callV (pc := 1033) (As := []) (i := 184) E dL_law_1033 ml_L_117 (ct_read hN.1 hN.2.2.1 (by rw [hN.2.1]) h.2.2.2.2.2.2.2.1.2 h.1 u.1 u.2 (by rw [hN.2.1]; exact h.2.2.2.2.2.2.2.2.1.2.2.2) (hin 184 13)) rfl rfl rfl rfl (by decide) (by decide) rfl (Nat.le_of_ble_eq_true rfl) ⟨by omega, by omega⟩ (fun y O hy => ?_)
  have e : x = y ∧ IV O := h.rd hx hy
  obtain ⟨e, hO⟩ := e
  rw [e]
  refine lw_same (pc := 1036) (tgt := 1172) E dL_law_1036 rfl ?_
  exact g_widen (k' := k + 49) (n' := n + 8330) (by omega) (by omega) (kk O hO)
theorem lw_c25 (E : En cx yL_law cL_law 4 100 600000 7302250 p R s m args meth c) (hX : va_X b L xs s s.heap) (hbb : b < cx.2.2.2) (hL : L ≤ 2560) {i : Int} (h0 : 0 ≤ i) (h1 : i + 5 ≤ L) (h : IV M) (hr : k + 49 ≤ 600000 ∧ n + 8330 ≤ 7302250) (kk : ∀ O, IV O → G cx p l e R s m args below meth c Q 1172 (lwl cx b i) [] O (k + 49) (n + 8330)) : G cx p l e R s m args below meth c Q 1041 (lwl cx b i) [] M k n := by
  have v1 := xv_R xs (i + 1)
  refine g_aload_n (pc := 1041) E dL_law_1041 (i := 1) rfl rfl ?_
  refine lw_arg (pc := 1042) E hX hbb hL (by omega) (by omega) dL_law_1042 dL_law_1043 dL_law_1044 dL_law_1045 dL_law_1046 ?_
  refine g_callV (pc := 1047) (As := [_]) (i := 183) E dL_law_1047 ml_L_118 (ct5_refusal v1) rfl rfl rfl rfl (by decide) (by decide) rfl (Nat.le_of_ble_eq_true rfl) ⟨by omega, by omega⟩ (fun x N hx => ?_)
  refine g_aload_n (pc := 1050) E dL_law_1050 (i := 2) rfl rfl ?_
  refine lw_arg (pc := 1051) E hX hbb hL (by omega) (by omega) dL_law_1051 dL_law_1052 dL_law_1053 dL_law_1054 dL_law_1055 ?_
  refine g_callV (pc := 1056) (As := [_]) (i := 184) E dL_law_1056 ml_L_121 (ct_refusal v1) rfl rfl rfl rfl (by decide) (by decide) rfl (Nat.le_of_ble_eq_true rfl) ⟨by omega, by omega⟩ (fun y O hy => ?_)
  have e : x = y ∧ IV O := h.rfu hx hy
  obtain ⟨e, hO⟩ := e
  rw [e]
  refine lw_same (pc := 1059) (tgt := 1172) E dL_law_1059 rfl ?_
  exact g_widen (k' := k + 49) (n' := n + 8330) (by omega) (by omega) (kk O hO)
theorem lw_c26 (E : En cx yL_law cL_law 4 100 600000 7302250 p R s m args meth c) (hX : va_X b L xs s s.heap) (hbb : b < cx.2.2.2) (hL : L ≤ 2560) {i : Int} (h0 : 0 ≤ i) (h1 : i + 5 ≤ L) (h : IV M) (hr : k + 49 ≤ 600000 ∧ n + 8330 ≤ 7302250) (kk : ∀ O, IV O → G cx p l e R s m args below meth c Q 1172 (lwl cx b i) [] O (k + 49) (n + 8330)) : G cx p l e R s m args below meth c Q 1064 (lwl cx b i) [] M k n := by
  have v1 := xv_R xs (i + 1)
  refine g_aload_n (pc := 1064) E dL_law_1064 (i := 1) rfl rfl ?_
  refine lw_arg (pc := 1065) E hX hbb hL (by omega) (by omega) dL_law_1065 dL_law_1066 dL_law_1067 dL_law_1068 dL_law_1069 ?_
  refine g_callV (pc := 1070) (As := [_]) (i := 183) E dL_law_1070 ml_L_122 (ct5_write h.2.1 h.ok v1) rfl rfl rfl rfl (by decide) (by decide) rfl (Nat.le_of_ble_eq_true rfl) ⟨by omega, by omega⟩ (fun x N hx => ?_)
  have hN : N 185 = M 185 := IV.wr5 hx
  refine g_aload_n (pc := 1073) E dL_law_1073 (i := 2) rfl rfl ?_
  refine lw_arg (pc := 1074) E hX hbb hL (by omega) (by omega) dL_law_1074 dL_law_1075 dL_law_1076 dL_law_1077 dL_law_1078 ?_
  refine g_callV (pc := 1079) (As := [_]) (i := 184) E dL_law_1079 ml_L_125 (ct_write hN h.ok v1) rfl rfl rfl rfl (by decide) (by decide) rfl (Nat.le_of_ble_eq_true rfl) ⟨by omega, by omega⟩ (fun y O hy => ?_)
  have e : x = y ∧ IV O := h.wr hx hy
  obtain ⟨e, hO⟩ := e
  rw [e]
  refine lw_same (pc := 1082) (tgt := 1172) E dL_law_1082 rfl ?_
  exact g_widen (k' := k + 49) (n' := n + 8330) (by omega) (by omega) (kk O hO)
theorem lw_c27 (E : En cx yL_law cL_law 4 100 600000 7302250 p R s m args meth c) (hX : va_X b L xs s s.heap) (hbb : b < cx.2.2.2) (hL : L ≤ 2560) {i : Int} (h0 : 0 ≤ i) (h1 : i + 5 ≤ L) (h : IV M) (hr : k + 49 ≤ 600000 ∧ n + 8330 ≤ 7302250) (kk : ∀ O, IV O → G cx p l e R s m args below meth c Q 1172 (lwl cx b i) [] O (k + 49) (n + 8330)) : G cx p l e R s m args below meth c Q 1087 (lwl cx b i) [] M k n := by
  have v1 := xv_R xs (i + 1)
  refine g_aload_n (pc := 1087) E dL_law_1087 (i := 1) rfl rfl ?_
  refine lw_arg (pc := 1088) E hX hbb hL (by omega) (by omega) dL_law_1088 dL_law_1089 dL_law_1090 dL_law_1091 dL_law_1092 ?_
  refine g_callV (pc := 1093) (As := [_]) (i := 183) E dL_law_1093 ml_L_126 (ct5_written v1) rfl rfl rfl rfl (by decide) (by decide) rfl (Nat.le_of_ble_eq_true rfl) ⟨by omega, by omega⟩ (fun x N hx => ?_)
  have hN : N 184 = M 184 := by rw [← hx.2]
  have u := h.w10
  rw [← hN] at u
  refine g_aload_n (pc := 1096) E dL_law_1096 (i := 2) rfl rfl ?_
  refine lw_arg (pc := 1097) E hX hbb hL (by omega) (by omega) dL_law_1097 dL_law_1098 dL_law_1099 dL_law_1100 dL_law_1101 ?_
  refine g_callV (pc := 1102) (As := [_]) (i := 184) E dL_law_1102 ml_L_129 (ct_written v1 u.1 u.2) rfl rfl rfl rfl (by decide) (by decide) rfl (Nat.le_of_ble_eq_true rfl) ⟨by omega, by omega⟩ (fun y O hy => ?_)
  have e : x = y ∧ IV O := ⟨hx.1.symm.trans ((h.wn _).trans ((by rw [← hx.2] at hy; exact hy.1))), by rw [← hy.2, ← hx.2]; exact h⟩
  obtain ⟨e, hO⟩ := e
  rw [e]
  refine lw_same (pc := 1105) (tgt := 1172) E dL_law_1105 rfl ?_
  exact g_widen (k' := k + 49) (n' := n + 8330) (by omega) (by omega) (kk O hO)
theorem lw_c28 (E : En cx yL_law cL_law 4 100 600000 7302250 p R s m args meth c) (hX : va_X b L xs s s.heap) (hbb : b < cx.2.2.2) (hL : L ≤ 2560) {i : Int} (h0 : 0 ≤ i) (h1 : i + 5 ≤ L) (h : IV M) (hr : k + 49 ≤ 600000 ∧ n + 8330 ≤ 7302250) (kk : ∀ O, IV O → G cx p l e R s m args below meth c Q 1172 (lwl cx b i) [] O (k + 49) (n + 8330)) : G cx p l e R s m args below meth c Q 1110 (lwl cx b i) [] M k n := by
  have v1 := xv_R xs (i + 1)
  refine g_aload_n (pc := 1110) E dL_law_1110 (i := 1) rfl rfl ?_
  refine lw_arg (pc := 1111) E hX hbb hL (by omega) (by omega) dL_law_1111 dL_law_1112 dL_law_1113 dL_law_1114 dL_law_1115 ?_
  refine g_callV (pc := 1116) (As := [_]) (i := 183) E dL_law_1116 ml_L_130 (ct5_account h.2.1 h.ok h.1 v1 h.u8) rfl rfl rfl rfl (by decide) (by decide) rfl (Nat.le_of_ble_eq_true rfl) ⟨by omega, by omega⟩ (fun x N hx => ?_)
  have e5 := h.l5 hx.2
  have u := h.t7.2
  have u2 := h.2.2.2.1
  rw [← e5.2.1] at u u2
  refine g_aload_n (pc := 1119) E dL_law_1119 (i := 2) rfl rfl ?_
  refine lw_arg (pc := 1120) E hX hbb hL (by omega) (by omega) dL_law_1120 dL_law_1121 dL_law_1122 dL_law_1123 dL_law_1124 ?_
  refine g_callV (pc := 1125) (As := [_]) (i := 184) E dL_law_1125 ml_L_133 (ct_account e5.1 h.ok v1 h.or8 u u2) rfl rfl rfl rfl (by decide) (by decide) rfl (Nat.le_of_ble_eq_true rfl) ⟨by omega, by omega⟩ (fun y O hy => ?_)
  have e : x = y ∧ IV O := ⟨by rw [← hx.1, ← hy.1, e5.2.1, h.t7.1, h.2.2.2.2.1], h.look hx.2 hy.2⟩
  obtain ⟨e, hO⟩ := e
  rw [e]
  refine lw_same (pc := 1128) (tgt := 1172) E dL_law_1128 rfl ?_
  exact g_widen (k' := k + 49) (n' := n + 8330) (by omega) (by omega) (kk O hO)
theorem lw_c29 (E : En cx yL_law cL_law 4 100 600000 7302250 p R s m args meth c) (hX : va_X b L xs s s.heap) (hbb : b < cx.2.2.2) (hL : L ≤ 2560) {i : Int} (h0 : 0 ≤ i) (h1 : i + 5 ≤ L) (h : IV M) (hr : k + 49 ≤ 600000 ∧ n + 8330 ≤ 7302250) (kk : ∀ O, IV O → G cx p l e R s m args below meth c Q 1172 (lwl cx b i) [] O (k + 49) (n + 8330)) : G cx p l e R s m args below meth c Q 1133 (lwl cx b i) [] M k n := by
  refine g_aload_n (pc := 1133) E dL_law_1133 (i := 1) rfl rfl ?_
  refine g_callV (pc := 1134) (As := []) (i := 183) E dL_law_1134 ml_L_134 (ct5_undo h.2.2.1 h.u8) rfl rfl rfl rfl (by decide) (by decide) rfl (Nat.le_of_ble_eq_true rfl) ⟨by omega, by omega⟩ (fun x N hx => ?_)
  have hN : N 184 = M 184 := IV.und5 hx
  have u : 0 ≤ N 184 2 ∧ N 184 2 ≤ 8 := by rw [hN]; exact h.2.2.2.1
  refine g_aload_n (pc := 1137) E dL_law_1137 (i := 2) rfl rfl ?_
  refine g_callV (pc := 1138) (As := []) (i := 184) E dL_law_1138 ml_L_137 (ct_undo u.1 u.2) rfl rfl rfl rfl (by decide) (by decide) rfl (Nat.le_of_ble_eq_true rfl) ⟨by omega, by omega⟩ (fun y O hy => ?_)
  have e : x = y ∧ IV O := h.und hx hy
  obtain ⟨e, hO⟩ := e
  rw [e]
  refine lw_same (pc := 1141) (tgt := 1172) E dL_law_1141 rfl ?_
  exact g_widen (k' := k + 49) (n' := n + 8330) (by omega) (by omega) (kk O hO)
theorem lw_c30 (E : En cx yL_law cL_law 4 100 600000 7302250 p R s m args meth c) (hX : va_X b L xs s s.heap) (hbb : b < cx.2.2.2) (hL : L ≤ 2560) {i : Int} (h0 : 0 ≤ i) (h1 : i + 5 ≤ L) (h : IV M) (hr : k + 49 ≤ 600000 ∧ n + 8330 ≤ 7302250) (kk : ∀ O, IV O → G cx p l e R s m args below meth c Q 1172 (lwl cx b i) [] O (k + 49) (n + 8330)) : G cx p l e R s m args below meth c Q 1146 (lwl cx b i) [] M k n := by
  refine g_aload_n (pc := 1146) E dL_law_1146 (i := 1) rfl rfl ?_
  refine g_callV (pc := 1147) (As := []) (i := 183) E dL_law_1147 ml_L_138 (ct5_save h.2.1 h.ok) rfl rfl rfl rfl (by decide) (by decide) rfl (Nat.le_of_ble_eq_true rfl) ⟨by omega, by omega⟩ (fun x N hx => ?_)
  refine g_aload_n (pc := 1150) E dL_law_1150 (i := 2) rfl rfl ?_
  refine g_callV (pc := 1151) (As := []) (i := 184) E dL_law_1151 ml_L_141 (ct_save) rfl rfl rfl rfl (by decide) (by decide) rfl (Nat.le_of_ble_eq_true rfl) ⟨by omega, by omega⟩ (fun y O hy => ?_)
  have e : x = y ∧ IV O := h.sav hx hy
  obtain ⟨e, hO⟩ := e
  rw [e]
  refine lw_same (pc := 1154) (tgt := 1172) E dL_law_1154 rfl ?_
  exact g_widen (k' := k + 49) (n' := n + 8330) (by omega) (by omega) (kk O hO)
theorem lw_c31 (E : En cx yL_law cL_law 4 100 600000 7302250 p R s m args meth c) (hX : va_X b L xs s s.heap) (hbb : b < cx.2.2.2) (hL : L ≤ 2560) {i : Int} (h0 : 0 ≤ i) (h1 : i + 5 ≤ L) (h : IV M) (hr : k + 49 ≤ 600000 ∧ n + 8330 ≤ 7302250) (kk : ∀ O, IV O → G cx p l e R s m args below meth c Q 1172 (lwl cx b i) [] O (k + 49) (n + 8330)) : G cx p l e R s m args below meth c Q 1159 (lwl cx b i) [] M k n := by
  refine g_aload_n (pc := 1159) E dL_law_1159 (i := 1) rfl rfl ?_
  refine g_callV (pc := 1160) (As := []) (i := 183) E dL_law_1160 ml_L_142 (ct5_restore) rfl rfl rfl rfl (by decide) (by decide) rfl (Nat.le_of_ble_eq_true rfl) ⟨by omega, by omega⟩ (fun x N hx => ?_)
  refine g_aload_n (pc := 1163) E dL_law_1163 (i := 2) rfl rfl ?_
  refine g_callV (pc := 1164) (As := []) (i := 184) E dL_law_1164 ml_L_145 (ct_restore) rfl rfl rfl rfl (by decide) (by decide) rfl (Nat.le_of_ble_eq_true rfl) ⟨by omega, by omega⟩ (fun y O hy => ?_)
  have e : x = y ∧ IV O := h.res hx hy
  obtain ⟨e, hO⟩ := e
  rw [e]
  refine lw_same (pc := 1167) (tgt := 1172) E dL_law_1167 rfl ?_
  exact g_widen (k' := k + 49) (n' := n + 8330) (by omega) (by omega) (kk O hO)
end LWC
