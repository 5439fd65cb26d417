/-! ===== the law, case by case (8) ===== -/
theorem dL_law_912 : decode cL_law 912 = .ok (.aload_n 1, 1) := by decide +kernel
theorem dL_law_913 : decode cL_law 913 = .ok (.aload_n 0, 1) := by decide +kernel
theorem dL_law_914 : decode cL_law 914 = .ok (.iload_n 3, 1) := by decide +kernel
theorem dL_law_915 : decode cL_law 915 = .ok (.iconst 1, 1) := by decide +kernel
theorem dL_law_916 : decode cL_law 916 = .ok (.iadd, 1) := by decide +kernel
theorem dL_law_917 : decode cL_law 917 = .ok (.iaload, 1) := by decide +kernel
theorem dL_law_918 : decode cL_law 918 = .ok (.aload_n 0, 1) := by decide +kernel
theorem dL_law_919 : decode cL_law 919 = .ok (.iload_n 3, 1) := by decide +kernel
theorem dL_law_920 : decode cL_law 920 = .ok (.iconst 2, 1) := by decide +kernel
theorem dL_law_921 : decode cL_law 921 = .ok (.iadd, 1) := by decide +kernel
theorem dL_law_922 : decode cL_law 922 = .ok (.iaload, 1) := by decide +kernel
theorem dL_law_923 : decode cL_law 923 = .ok (.invokevirtual 118, 3) := by decide +kernel
theorem dL_law_926 : decode cL_law 926 = .ok (.pop, 1) := by decide +kernel
theorem dL_law_927 : decode cL_law 927 = .ok (.aload_n 2, 1) := by decide +kernel
theorem dL_law_928 : decode cL_law 928 = .ok (.aload_n 0, 1) := by decide +kernel
theorem dL_law_929 : decode cL_law 929 = .ok (.iload_n 3, 1) := by decide +kernel
theorem dL_law_930 : decode cL_law 930 = .ok (.iconst 1, 1) := by decide +kernel
theorem dL_law_931 : decode cL_law 931 = .ok (.iadd, 1) := by decide +kernel
theorem dL_law_932 : decode cL_law 932 = .ok (.iaload, 1) := by decide +kernel
theorem dL_law_933 : decode cL_law 933 = .ok (.aload_n 0, 1) := by decide +kernel
theorem dL_law_934 : decode cL_law 934 = .ok (.iload_n 3, 1) := by decide +kernel
theorem dL_law_935 : decode cL_law 935 = .ok (.iconst 2, 1) := by decide +kernel
theorem dL_law_936 : decode cL_law 936 = .ok (.iadd, 1) := by decide +kernel
theorem dL_law_937 : decode cL_law 937 = .ok (.iaload, 1) := by decide +kernel
theorem dL_law_938 : decode cL_law 938 = .ok (.invokevirtual 121, 3) := by decide +kernel
theorem dL_law_941 : decode cL_law 941 = .ok (.pop, 1) := by decide +kernel
theorem dL_law_942 : decode cL_law 942 = .ok (.goto 105, 3) := by decide +kernel
set_option maxHeartbeats 4000000 in
set_option maxRecDepth 20000 in
theorem lk_find {g : xGT} {l : Launch} {b : Nat} {D : va_G} {cy : Nat → ClassId} {a0 L : Nat} {xs : Nat → Int32} (hg : xG g cL_law RL rmL 4) (he : xE g l b D cy) (hX : yX g a0 L xs) (hL : L ≤ 3072) {i : Int} (hi : 0 ≤ i ∧ i + 6 ≤ (L : Int)) {tt : Nat} {M : xMm} (hz : IZ tt M) (K : ∀ (tt2 : Nat) (M2 : xMm), IZ tt2 M2 → yW g a0 209 M2 (RS tt2) 209 8807 1047 [(1, xr 1), (2, xr 172), (3, xi i)] []) : yW g a0 209 M (RS tt) 209 8807 912 [(1, xr 1), (2, xr 172), (3, xi i)] [] := by
  obtain ⟨hIO, hJG, hIC, hIR, hIW, hIL⟩ := id hz.2.1
  refine y_aload_n hg dL_law_912 rfl ?_
  refine y_arg hg hX dL_law_913 dL_law_914 dL_law_915 dL_law_916 dL_law_917 rfl (by omega) (by omega) ?_
  refine y_arg hg hX dL_law_918 dL_law_919 dL_law_920 dL_law_921 dL_law_922 rfl (by omega) (by omega) ?_
  refine y_cVi hg he [_, _] [] dL_law_923 mv_L_118 (c_X11_find l b D cy hIO (xt_int _) (xt_int _)) (by decide) rfl rfl (Nat.le_of_ble_eq_true rfl) (by decide) ⟨Nat.le_of_ble_eq_true rfl, Nat.le_of_ble_eq_true rfl⟩ (fun r1 M1 q1 => ?_)
  obtain ⟨hx1, hf1⟩ := sx_find hz.2.1 (xt_int _) (xt_int _) q1
  have hy1 := IY_fr hz.2.2.1 hf1
  obtain ⟨hMO, hJN, hMR, hMC, hMW, hMK⟩ := id hy1
  refine y_pop hg dL_law_926 rfl ?_
  refine y_aload_n hg dL_law_927 rfl ?_
  refine y_arg hg hX dL_law_928 dL_law_929 dL_law_930 dL_law_931 dL_law_932 rfl (by omega) (by omega) ?_
  refine y_arg hg hX dL_law_933 dL_law_934 dL_law_935 dL_law_936 dL_law_937 rfl (by omega) (by omega) ?_
  refine y_cVi hg he [_, _] [] dL_law_938 mv_L_121 (c_X12_find l b D cy hMO (xt_int _) (xt_int _)) (by decide) rfl rfl (Nat.le_of_ble_eq_true rfl) (by decide) ⟨Nat.le_of_ble_eq_true rfl, Nat.le_of_ble_eq_true rfl⟩ (fun r2 M2 q2 => ?_)
  obtain ⟨hy2, hf2⟩ := sy_find hy1 (xt_int _) (xt_int _) q2
  refine y_pop hg dL_law_941 rfl ?_
  refine y_goto (tgt := 1047) hg dL_law_942 (by decide) ?_
  exact K tt M2 ⟨hz.1, IX_fr hx1 hf2, hy2, rel_find hz.2.1 hz.2.2.1 hz.2.2.2 hf1 q1 q2⟩
theorem dL_law_945 : decode cL_law 945 = .ok (.aload_n 1, 1) := by decide +kernel
theorem dL_law_946 : decode cL_law 946 = .ok (.aload_n 0, 1) := by decide +kernel
theorem dL_law_947 : decode cL_law 947 = .ok (.iload_n 3, 1) := by decide +kernel
theorem dL_law_948 : decode cL_law 948 = .ok (.iconst 1, 1) := by decide +kernel
theorem dL_law_949 : decode cL_law 949 = .ok (.iadd, 1) := by decide +kernel
theorem dL_law_950 : decode cL_law 950 = .ok (.iaload, 1) := by decide +kernel
theorem dL_law_951 : decode cL_law 951 = .ok (.invokevirtual 122, 3) := by decide +kernel
theorem dL_law_954 : decode cL_law 954 = .ok (.pop, 1) := by decide +kernel
theorem dL_law_955 : decode cL_law 955 = .ok (.aload_n 2, 1) := by decide +kernel
theorem dL_law_956 : decode cL_law 956 = .ok (.aload_n 0, 1) := by decide +kernel
theorem dL_law_957 : decode cL_law 957 = .ok (.iload_n 3, 1) := by decide +kernel
theorem dL_law_958 : decode cL_law 958 = .ok (.iconst 1, 1) := by decide +kernel
theorem dL_law_959 : decode cL_law 959 = .ok (.iadd, 1) := by decide +kernel
theorem dL_law_960 : decode cL_law 960 = .ok (.iaload, 1) := by decide +kernel
theorem dL_law_961 : decode cL_law 961 = .ok (.invokevirtual 125, 3) := by decide +kernel
theorem dL_law_964 : decode cL_law 964 = .ok (.pop, 1) := by decide +kernel
theorem dL_law_965 : decode cL_law 965 = .ok (.goto 82, 3) := by decide +kernel
set_option maxHeartbeats 4000000 in
set_option maxRecDepth 20000 in
theorem lk_untell {g : xGT} {l : Launch} {b : Nat} {D : va_G} {cy : Nat → ClassId} {a0 L : Nat} {xs : Nat → Int32} (hg : xG g cL_law RL rmL 4) (he : xE g l b D cy) (hX : yX g a0 L xs) (hL : L ≤ 3072) {i : Int} (hi : 0 ≤ i ∧ i + 6 ≤ (L : Int)) {tt : Nat} {M : xMm} (hz : IZ tt M) (K : ∀ (tt2 : Nat) (M2 : xMm), IZ tt2 M2 → yW g a0 209 M2 (RS tt2) 209 8807 1047 [(1, xr 1), (2, xr 172), (3, xi i)] []) : yW g a0 209 M (RS tt) 209 8807 945 [(1, xr 1), (2, xr 172), (3, xi i)] [] := by
  obtain ⟨hIO, hJG, hIC, hIR, hIW, hIL⟩ := id hz.2.1
  refine y_aload_n hg dL_law_945 rfl ?_
  refine y_arg hg hX dL_law_946 dL_law_947 dL_law_948 dL_law_949 dL_law_950 rfl (by omega) (by omega) ?_
  refine y_cVi hg he [_] [] dL_law_951 mv_L_122 (c_X11_untell l b D cy hIO (xt_int _)) (by decide) rfl rfl (Nat.le_of_ble_eq_true rfl) (by decide) ⟨Nat.le_of_ble_eq_true rfl, Nat.le_of_ble_eq_true rfl⟩ (fun r1 M1 q1 => ?_)
  obtain ⟨hx1, hf1⟩ := sx_untell hz.2.1 (xt_int _) q1
  have hy1 := IY_fr hz.2.2.1 hf1
  obtain ⟨hMO, hJN, hMR, hMC, hMW, hMK⟩ := id hy1
  refine y_pop hg dL_law_954 rfl ?_
  refine y_aload_n hg dL_law_955 rfl ?_
  refine y_arg hg hX dL_law_956 dL_law_957 dL_law_958 dL_law_959 dL_law_960 rfl (by omega) (by omega) ?_
  refine y_cVi hg he [_] [] dL_law_961 mv_L_125 (c_X12_untell l b D cy hMO (xt_int _)) (by decide) rfl rfl (Nat.le_of_ble_eq_true rfl) (by decide) ⟨Nat.le_of_ble_eq_true rfl, Nat.le_of_ble_eq_true rfl⟩ (fun r2 M2 q2 => ?_)
  obtain ⟨hy2, hf2⟩ := sy_untell hy1 (xt_int _) q2
  refine y_pop hg dL_law_964 rfl ?_
  refine y_goto (tgt := 1047) hg dL_law_965 (by decide) ?_
  exact K tt M2 ⟨hz.1, IX_fr hx1 hf2, hy2, rel_untell hz.2.1 hz.2.2.1 hz.2.2.2 hf1 q1 q2⟩
theorem dL_law_968 : decode cL_law 968 = .ok (.aload_n 1, 1) := by decide +kernel
theorem dL_law_969 : decode cL_law 969 = .ok (.aload_n 0, 1) := by decide +kernel
theorem dL_law_970 : decode cL_law 970 = .ok (.iload_n 3, 1) := by decide +kernel
theorem dL_law_971 : decode cL_law 971 = .ok (.iconst 1, 1) := by decide +kernel
theorem dL_law_972 : decode cL_law 972 = .ok (.iadd, 1) := by decide +kernel
theorem dL_law_973 : decode cL_law 973 = .ok (.iaload, 1) := by decide +kernel
theorem dL_law_974 : decode cL_law 974 = .ok (.aload_n 0, 1) := by decide +kernel
theorem dL_law_975 : decode cL_law 975 = .ok (.iload_n 3, 1) := by decide +kernel
theorem dL_law_976 : decode cL_law 976 = .ok (.iconst 2, 1) := by decide +kernel
theorem dL_law_977 : decode cL_law 977 = .ok (.iadd, 1) := by decide +kernel
theorem dL_law_978 : decode cL_law 978 = .ok (.iaload, 1) := by decide +kernel
theorem dL_law_979 : decode cL_law 979 = .ok (.invokevirtual 126, 3) := by decide +kernel
theorem dL_law_982 : decode cL_law 982 = .ok (.pop, 1) := by decide +kernel
theorem dL_law_983 : decode cL_law 983 = .ok (.aload_n 2, 1) := by decide +kernel
theorem dL_law_984 : decode cL_law 984 = .ok (.aload_n 0, 1) := by decide +kernel
theorem dL_law_985 : decode cL_law 985 = .ok (.iload_n 3, 1) := by decide +kernel
theorem dL_law_986 : decode cL_law 986 = .ok (.iconst 1, 1) := by decide +kernel
theorem dL_law_987 : decode cL_law 987 = .ok (.iadd, 1) := by decide +kernel
theorem dL_law_988 : decode cL_law 988 = .ok (.iaload, 1) := by decide +kernel
theorem dL_law_989 : decode cL_law 989 = .ok (.aload_n 0, 1) := by decide +kernel
theorem dL_law_990 : decode cL_law 990 = .ok (.iload_n 3, 1) := by decide +kernel
theorem dL_law_991 : decode cL_law 991 = .ok (.iconst 2, 1) := by decide +kernel
theorem dL_law_992 : decode cL_law 992 = .ok (.iadd, 1) := by decide +kernel
theorem dL_law_993 : decode cL_law 993 = .ok (.iaload, 1) := by decide +kernel
theorem dL_law_994 : decode cL_law 994 = .ok (.invokevirtual 129, 3) := by decide +kernel
theorem dL_law_997 : decode cL_law 997 = .ok (.pop, 1) := by decide +kernel
theorem dL_law_998 : decode cL_law 998 = .ok (.goto 49, 3) := by decide +kernel
set_option maxHeartbeats 4000000 in
set_option maxRecDepth 20000 in
theorem lk_recalled {g : xGT} {l : Launch} {b : Nat} {D : va_G} {cy : Nat → ClassId} {a0 L : Nat} {xs : Nat → Int32} (hg : xG g cL_law RL rmL 4) (he : xE g l b D cy) (hX : yX g a0 L xs) (hL : L ≤ 3072) {i : Int} (hi : 0 ≤ i ∧ i + 6 ≤ (L : Int)) {tt : Nat} {M : xMm} (hz : IZ tt M) (K : ∀ (tt2 : Nat) (M2 : xMm), IZ tt2 M2 → yW g a0 209 M2 (RS tt2) 209 8807 1047 [(1, xr 1), (2, xr 172), (3, xi i)] []) : yW g a0 209 M (RS tt) 209 8807 968 [(1, xr 1), (2, xr 172), (3, xi i)] [] := by
  obtain ⟨hIO, hJG, hIC, hIR, hIW, hIL⟩ := id hz.2.1
  refine y_aload_n hg dL_law_968 rfl ?_
  refine y_arg hg hX dL_law_969 dL_law_970 dL_law_971 dL_law_972 dL_law_973 rfl (by omega) (by omega) ?_
  refine y_arg hg hX dL_law_974 dL_law_975 dL_law_976 dL_law_977 dL_law_978 rfl (by omega) (by omega) ?_
  refine y_cVi hg he [_, _] [] dL_law_979 mv_L_126 (c_X11_recalled l b D cy hIO (xt_int _) (xt_int _)) (by decide) rfl rfl (Nat.le_of_ble_eq_true rfl) (by decide) ⟨Nat.le_of_ble_eq_true rfl, Nat.le_of_ble_eq_true rfl⟩ (fun r1 M1 q1 => ?_)
  obtain ⟨hx1, hf1⟩ := sx_recalled hz.2.1 (xt_int _) (xt_int _) q1
  have hy1 := IY_fr hz.2.2.1 hf1
  obtain ⟨hMO, hJN, hMR, hMC, hMW, hMK⟩ := id hy1
  refine y_pop hg dL_law_982 rfl ?_
  refine y_aload_n hg dL_law_983 rfl ?_
  refine y_arg hg hX dL_law_984 dL_law_985 dL_law_986 dL_law_987 dL_law_988 rfl (by omega) (by omega) ?_
  refine y_arg hg hX dL_law_989 dL_law_990 dL_law_991 dL_law_992 dL_law_993 rfl (by omega) (by omega) ?_
  refine y_cVi hg he [_, _] [] dL_law_994 mv_L_129 (c_X12_recalled l b D cy hMO (xt_int _) (xt_int _)) (by decide) rfl rfl (Nat.le_of_ble_eq_true rfl) (by decide) ⟨Nat.le_of_ble_eq_true rfl, Nat.le_of_ble_eq_true rfl⟩ (fun r2 M2 q2 => ?_)
  obtain ⟨hy2, hf2⟩ := sy_recalled hy1 (xt_int _) (xt_int _) q2
  refine y_pop hg dL_law_997 rfl ?_
  refine y_goto (tgt := 1047) hg dL_law_998 (by decide) ?_
  exact K tt M2 ⟨hz.1, IX_fr hx1 hf2, hy2, rel_recalled hz.2.1 hz.2.2.1 hz.2.2.2 hf1 q1 q2⟩
theorem dL_law_1001 : decode cL_law 1001 = .ok (.aload_n 1, 1) := by decide +kernel
theorem dL_law_1002 : decode cL_law 1002 = .ok (.aload_n 0, 1) := by decide +kernel
theorem dL_law_1003 : decode cL_law 1003 = .ok (.iload_n 3, 1) := by decide +kernel
theorem dL_law_1004 : decode cL_law 1004 = .ok (.iconst 1, 1) := by decide +kernel
theorem dL_law_1005 : decode cL_law 1005 = .ok (.iadd, 1) := by decide +kernel
theorem dL_law_1006 : decode cL_law 1006 = .ok (.iaload, 1) := by decide +kernel
theorem dL_law_1007 : decode cL_law 1007 = .ok (.invokevirtual 130, 3) := by decide +kernel
theorem dL_law_1010 : decode cL_law 1010 = .ok (.pop, 1) := by decide +kernel
theorem dL_law_1011 : decode cL_law 1011 = .ok (.aload_n 2, 1) := by decide +kernel
theorem dL_law_1012 : decode cL_law 1012 = .ok (.aload_n 0, 1) := by decide +kernel
theorem dL_law_1013 : decode cL_law 1013 = .ok (.iload_n 3, 1) := by decide +kernel
theorem dL_law_1014 : decode cL_law 1014 = .ok (.iconst 1, 1) := by decide +kernel
theorem dL_law_1015 : decode cL_law 1015 = .ok (.iadd, 1) := by decide +kernel
theorem dL_law_1016 : decode cL_law 1016 = .ok (.iaload, 1) := by decide +kernel
theorem dL_law_1017 : decode cL_law 1017 = .ok (.invokevirtual 133, 3) := by decide +kernel
theorem dL_law_1020 : decode cL_law 1020 = .ok (.pop, 1) := by decide +kernel
theorem dL_law_1021 : decode cL_law 1021 = .ok (.goto 26, 3) := by decide +kernel
set_option maxHeartbeats 4000000 in
set_option maxRecDepth 20000 in
theorem lk_recall {g : xGT} {l : Launch} {b : Nat} {D : va_G} {cy : Nat → ClassId} {a0 L : Nat} {xs : Nat → Int32} (hg : xG g cL_law RL rmL 4) (he : xE g l b D cy) (hX : yX g a0 L xs) (hL : L ≤ 3072) {i : Int} (hi : 0 ≤ i ∧ i + 6 ≤ (L : Int)) {tt : Nat} {M : xMm} (hz : IZ tt M) (K : ∀ (tt2 : Nat) (M2 : xMm), IZ tt2 M2 → yW g a0 209 M2 (RS tt2) 209 8807 1047 [(1, xr 1), (2, xr 172), (3, xi i)] []) : yW g a0 209 M (RS tt) 209 8807 1001 [(1, xr 1), (2, xr 172), (3, xi i)] [] := by
  obtain ⟨hIO, hJG, hIC, hIR, hIW, hIL⟩ := id hz.2.1
  refine y_aload_n hg dL_law_1001 rfl ?_
  refine y_arg hg hX dL_law_1002 dL_law_1003 dL_law_1004 dL_law_1005 dL_law_1006 rfl (by omega) (by omega) ?_
  refine y_cVi hg he [_] [] dL_law_1007 mv_L_130 (c_X11_recall l b D cy hIO (xt_int _)) (by decide) rfl rfl (Nat.le_of_ble_eq_true rfl) (by decide) ⟨Nat.le_of_ble_eq_true rfl, Nat.le_of_ble_eq_true rfl⟩ (fun r1 M1 q1 => ?_)
  obtain ⟨hx1, hf1⟩ := sx_recall hz.2.1 (xt_int _) q1
  have hy1 := IY_fr hz.2.2.1 hf1
  obtain ⟨hMO, hJN, hMR, hMC, hMW, hMK⟩ := id hy1
  refine y_pop hg dL_law_1010 rfl ?_
  refine y_aload_n hg dL_law_1011 rfl ?_
  refine y_arg hg hX dL_law_1012 dL_law_1013 dL_law_1014 dL_law_1015 dL_law_1016 rfl (by omega) (by omega) ?_
  refine y_cVi hg he [_] [] dL_law_1017 mv_L_133 (c_X12_recall l b D cy hMO (xt_int _)) (by decide) rfl rfl (Nat.le_of_ble_eq_true rfl) (by decide) ⟨Nat.le_of_ble_eq_true rfl, Nat.le_of_ble_eq_true rfl⟩ (fun r2 M2 q2 => ?_)
  obtain ⟨hy2, hf2⟩ := sy_recall hy1 (xt_int _) q2
  refine y_pop hg dL_law_1020 rfl ?_
  refine y_goto (tgt := 1047) hg dL_law_1021 (by decide) ?_
  exact K tt M2 ⟨hz.1, IX_fr hx1 hf2, hy2, rel_recall hz.2.1 hz.2.2.1 hz.2.2.2 hf1 q1 q2⟩
