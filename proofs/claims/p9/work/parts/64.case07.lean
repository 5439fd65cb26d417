/-! ===== the law, case by case (7) ===== -/
theorem dL_law_813 : decode cL_law 813 = .ok (.aload_n 1, 1) := by decide +kernel
theorem dL_law_814 : decode cL_law 814 = .ok (.aload_n 0, 1) := by decide +kernel
theorem dL_law_815 : decode cL_law 815 = .ok (.iload_n 3, 1) := by decide +kernel
theorem dL_law_816 : decode cL_law 816 = .ok (.iconst 1, 1) := by decide +kernel
theorem dL_law_817 : decode cL_law 817 = .ok (.iadd, 1) := by decide +kernel
theorem dL_law_818 : decode cL_law 818 = .ok (.iaload, 1) := by decide +kernel
theorem dL_law_819 : decode cL_law 819 = .ok (.aload_n 0, 1) := by decide +kernel
theorem dL_law_820 : decode cL_law 820 = .ok (.iload_n 3, 1) := by decide +kernel
theorem dL_law_821 : decode cL_law 821 = .ok (.iconst 2, 1) := by decide +kernel
theorem dL_law_822 : decode cL_law 822 = .ok (.iadd, 1) := by decide +kernel
theorem dL_law_823 : decode cL_law 823 = .ok (.iaload, 1) := by decide +kernel
theorem dL_law_824 : decode cL_law 824 = .ok (.invokevirtual 106, 3) := by decide +kernel
theorem dL_law_827 : decode cL_law 827 = .ok (.pop, 1) := by decide +kernel
theorem dL_law_828 : decode cL_law 828 = .ok (.aload_n 2, 1) := by decide +kernel
theorem dL_law_829 : decode cL_law 829 = .ok (.aload_n 0, 1) := by decide +kernel
theorem dL_law_830 : decode cL_law 830 = .ok (.iload_n 3, 1) := by decide +kernel
theorem dL_law_831 : decode cL_law 831 = .ok (.iconst 1, 1) := by decide +kernel
theorem dL_law_832 : decode cL_law 832 = .ok (.iadd, 1) := by decide +kernel
theorem dL_law_833 : decode cL_law 833 = .ok (.iaload, 1) := by decide +kernel
theorem dL_law_834 : decode cL_law 834 = .ok (.aload_n 0, 1) := by decide +kernel
theorem dL_law_835 : decode cL_law 835 = .ok (.iload_n 3, 1) := by decide +kernel
theorem dL_law_836 : decode cL_law 836 = .ok (.iconst 2, 1) := by decide +kernel
theorem dL_law_837 : decode cL_law 837 = .ok (.iadd, 1) := by decide +kernel
theorem dL_law_838 : decode cL_law 838 = .ok (.iaload, 1) := by decide +kernel
theorem dL_law_839 : decode cL_law 839 = .ok (.invokevirtual 109, 3) := by decide +kernel
theorem dL_law_842 : decode cL_law 842 = .ok (.pop, 1) := by decide +kernel
theorem dL_law_843 : decode cL_law 843 = .ok (.goto 204, 3) := by decide +kernel
set_option maxHeartbeats 4000000 in
set_option maxRecDepth 20000 in
theorem lk_bottle {g : xGT} {l : Launch} {b : Nat} {D : va_G} {cy : Nat → ClassId} {a0 L : Nat} {xs : Nat → Int32} (hg : xG g cL_law RL rmL 4) (he : xE g l b D cy) (hX : yX g a0 L xs) (hL : L ≤ 3072) {i : Int} (hi : 0 ≤ i ∧ i + 6 ≤ (L : Int)) {tt : Nat} {M : xMm} (hz : IZ tt M) (K : ∀ (tt2 : Nat) (M2 : xMm), IZ tt2 M2 → yW g a0 209 M2 (RS tt2) 209 8807 1047 [(1, xr 1), (2, xr 172), (3, xi i)] []) : yW g a0 209 M (RS tt) 209 8807 813 [(1, xr 1), (2, xr 172), (3, xi i)] [] := by
  obtain ⟨hIO, hJG, hIC, hIR, hIW, hIL⟩ := id hz.2.1
  refine y_aload_n hg dL_law_813 rfl ?_
  refine y_arg hg hX dL_law_814 dL_law_815 dL_law_816 dL_law_817 dL_law_818 rfl (by omega) (by omega) ?_
  refine y_arg hg hX dL_law_819 dL_law_820 dL_law_821 dL_law_822 dL_law_823 rfl (by omega) (by omega) ?_
  refine y_cVi hg he [_, _] [] dL_law_824 mv_L_106 (c_X11_bottle l b D cy hIO (xt_int _) (xt_int _)) (by decide) rfl rfl (Nat.le_of_ble_eq_true rfl) (by decide) ⟨Nat.le_of_ble_eq_true rfl, Nat.le_of_ble_eq_true rfl⟩ (fun r1 M1 q1 => ?_)
  obtain ⟨hx1, hf1⟩ := sx_bottle hz.2.1 (xt_int _) (xt_int _) q1
  have hy1 := IY_fr hz.2.2.1 hf1
  obtain ⟨hMO, hJN, hMR, hMC, hMW, hMK⟩ := id hy1
  refine y_pop hg dL_law_827 rfl ?_
  refine y_aload_n hg dL_law_828 rfl ?_
  refine y_arg hg hX dL_law_829 dL_law_830 dL_law_831 dL_law_832 dL_law_833 rfl (by omega) (by omega) ?_
  refine y_arg hg hX dL_law_834 dL_law_835 dL_law_836 dL_law_837 dL_law_838 rfl (by omega) (by omega) ?_
  refine y_cVi hg he [_, _] [] dL_law_839 mv_L_109 (c_X12_bottle l b D cy hMO (xt_int _) (xt_int _)) (by decide) rfl rfl (Nat.le_of_ble_eq_true rfl) (by decide) ⟨Nat.le_of_ble_eq_true rfl, Nat.le_of_ble_eq_true rfl⟩ (fun r2 M2 q2 => ?_)
  obtain ⟨hy2, hf2⟩ := sy_bottle hy1 (xt_int _) (xt_int _) q2
  refine y_pop hg dL_law_842 rfl ?_
  refine y_goto (tgt := 1047) hg dL_law_843 (by decide) ?_
  exact K tt M2 ⟨hz.1, IX_fr hx1 hf2, hy2, rel_bottle hz.2.1 hz.2.2.1 hz.2.2.2 hf1 q1 q2⟩
theorem dL_law_846 : decode cL_law 846 = .ok (.aload_n 1, 1) := by decide +kernel
theorem dL_law_847 : decode cL_law 847 = .ok (.aload_n 0, 1) := by decide +kernel
theorem dL_law_848 : decode cL_law 848 = .ok (.iload_n 3, 1) := by decide +kernel
theorem dL_law_849 : decode cL_law 849 = .ok (.iconst 1, 1) := by decide +kernel
theorem dL_law_850 : decode cL_law 850 = .ok (.iadd, 1) := by decide +kernel
theorem dL_law_851 : decode cL_law 851 = .ok (.iaload, 1) := by decide +kernel
theorem dL_law_852 : decode cL_law 852 = .ok (.aload_n 0, 1) := by decide +kernel
theorem dL_law_853 : decode cL_law 853 = .ok (.iload_n 3, 1) := by decide +kernel
theorem dL_law_854 : decode cL_law 854 = .ok (.iconst 2, 1) := by decide +kernel
theorem dL_law_855 : decode cL_law 855 = .ok (.iadd, 1) := by decide +kernel
theorem dL_law_856 : decode cL_law 856 = .ok (.iaload, 1) := by decide +kernel
theorem dL_law_857 : decode cL_law 857 = .ok (.invokevirtual 110, 3) := by decide +kernel
theorem dL_law_860 : decode cL_law 860 = .ok (.pop, 1) := by decide +kernel
theorem dL_law_861 : decode cL_law 861 = .ok (.aload_n 2, 1) := by decide +kernel
theorem dL_law_862 : decode cL_law 862 = .ok (.aload_n 0, 1) := by decide +kernel
theorem dL_law_863 : decode cL_law 863 = .ok (.iload_n 3, 1) := by decide +kernel
theorem dL_law_864 : decode cL_law 864 = .ok (.iconst 1, 1) := by decide +kernel
theorem dL_law_865 : decode cL_law 865 = .ok (.iadd, 1) := by decide +kernel
theorem dL_law_866 : decode cL_law 866 = .ok (.iaload, 1) := by decide +kernel
theorem dL_law_867 : decode cL_law 867 = .ok (.aload_n 0, 1) := by decide +kernel
theorem dL_law_868 : decode cL_law 868 = .ok (.iload_n 3, 1) := by decide +kernel
theorem dL_law_869 : decode cL_law 869 = .ok (.iconst 2, 1) := by decide +kernel
theorem dL_law_870 : decode cL_law 870 = .ok (.iadd, 1) := by decide +kernel
theorem dL_law_871 : decode cL_law 871 = .ok (.iaload, 1) := by decide +kernel
theorem dL_law_872 : decode cL_law 872 = .ok (.invokevirtual 113, 3) := by decide +kernel
theorem dL_law_875 : decode cL_law 875 = .ok (.pop, 1) := by decide +kernel
theorem dL_law_876 : decode cL_law 876 = .ok (.goto 171, 3) := by decide +kernel
set_option maxHeartbeats 4000000 in
set_option maxRecDepth 20000 in
theorem lk_tank {g : xGT} {l : Launch} {b : Nat} {D : va_G} {cy : Nat → ClassId} {a0 L : Nat} {xs : Nat → Int32} (hg : xG g cL_law RL rmL 4) (he : xE g l b D cy) (hX : yX g a0 L xs) (hL : L ≤ 3072) {i : Int} (hi : 0 ≤ i ∧ i + 6 ≤ (L : Int)) {tt : Nat} {M : xMm} (hz : IZ tt M) (K : ∀ (tt2 : Nat) (M2 : xMm), IZ tt2 M2 → yW g a0 209 M2 (RS tt2) 209 8807 1047 [(1, xr 1), (2, xr 172), (3, xi i)] []) : yW g a0 209 M (RS tt) 209 8807 846 [(1, xr 1), (2, xr 172), (3, xi i)] [] := by
  obtain ⟨hIO, hJG, hIC, hIR, hIW, hIL⟩ := id hz.2.1
  refine y_aload_n hg dL_law_846 rfl ?_
  refine y_arg hg hX dL_law_847 dL_law_848 dL_law_849 dL_law_850 dL_law_851 rfl (by omega) (by omega) ?_
  refine y_arg hg hX dL_law_852 dL_law_853 dL_law_854 dL_law_855 dL_law_856 rfl (by omega) (by omega) ?_
  refine y_cVi hg he [_, _] [] dL_law_857 mv_L_110 (c_X11_tank l b D cy hIO (xt_int _) (xt_int _)) (by decide) rfl rfl (Nat.le_of_ble_eq_true rfl) (by decide) ⟨Nat.le_of_ble_eq_true rfl, Nat.le_of_ble_eq_true rfl⟩ (fun r1 M1 q1 => ?_)
  obtain ⟨hx1, hf1⟩ := sx_tank hz.2.1 (xt_int _) (xt_int _) q1
  have hy1 := IY_fr hz.2.2.1 hf1
  obtain ⟨hMO, hJN, hMR, hMC, hMW, hMK⟩ := id hy1
  refine y_pop hg dL_law_860 rfl ?_
  refine y_aload_n hg dL_law_861 rfl ?_
  refine y_arg hg hX dL_law_862 dL_law_863 dL_law_864 dL_law_865 dL_law_866 rfl (by omega) (by omega) ?_
  refine y_arg hg hX dL_law_867 dL_law_868 dL_law_869 dL_law_870 dL_law_871 rfl (by omega) (by omega) ?_
  refine y_cVi hg he [_, _] [] dL_law_872 mv_L_113 (c_X12_tank l b D cy hMO (xt_int _) (xt_int _)) (by decide) rfl rfl (Nat.le_of_ble_eq_true rfl) (by decide) ⟨Nat.le_of_ble_eq_true rfl, Nat.le_of_ble_eq_true rfl⟩ (fun r2 M2 q2 => ?_)
  obtain ⟨hy2, hf2⟩ := sy_tank hy1 (xt_int _) (xt_int _) q2
  refine y_pop hg dL_law_875 rfl ?_
  refine y_goto (tgt := 1047) hg dL_law_876 (by decide) ?_
  exact K tt M2 ⟨hz.1, IX_fr hx1 hf2, hy2, rel_tank hz.2.1 hz.2.2.1 hz.2.2.2 hf1 q1 q2⟩
theorem dL_law_879 : decode cL_law 879 = .ok (.aload_n 1, 1) := by decide +kernel
theorem dL_law_880 : decode cL_law 880 = .ok (.aload_n 0, 1) := by decide +kernel
theorem dL_law_881 : decode cL_law 881 = .ok (.iload_n 3, 1) := by decide +kernel
theorem dL_law_882 : decode cL_law 882 = .ok (.iconst 1, 1) := by decide +kernel
theorem dL_law_883 : decode cL_law 883 = .ok (.iadd, 1) := by decide +kernel
theorem dL_law_884 : decode cL_law 884 = .ok (.iaload, 1) := by decide +kernel
theorem dL_law_885 : decode cL_law 885 = .ok (.aload_n 0, 1) := by decide +kernel
theorem dL_law_886 : decode cL_law 886 = .ok (.iload_n 3, 1) := by decide +kernel
theorem dL_law_887 : decode cL_law 887 = .ok (.iconst 2, 1) := by decide +kernel
theorem dL_law_888 : decode cL_law 888 = .ok (.iadd, 1) := by decide +kernel
theorem dL_law_889 : decode cL_law 889 = .ok (.iaload, 1) := by decide +kernel
theorem dL_law_890 : decode cL_law 890 = .ok (.invokevirtual 114, 3) := by decide +kernel
theorem dL_law_893 : decode cL_law 893 = .ok (.pop, 1) := by decide +kernel
theorem dL_law_894 : decode cL_law 894 = .ok (.aload_n 2, 1) := by decide +kernel
theorem dL_law_895 : decode cL_law 895 = .ok (.aload_n 0, 1) := by decide +kernel
theorem dL_law_896 : decode cL_law 896 = .ok (.iload_n 3, 1) := by decide +kernel
theorem dL_law_897 : decode cL_law 897 = .ok (.iconst 1, 1) := by decide +kernel
theorem dL_law_898 : decode cL_law 898 = .ok (.iadd, 1) := by decide +kernel
theorem dL_law_899 : decode cL_law 899 = .ok (.iaload, 1) := by decide +kernel
theorem dL_law_900 : decode cL_law 900 = .ok (.aload_n 0, 1) := by decide +kernel
theorem dL_law_901 : decode cL_law 901 = .ok (.iload_n 3, 1) := by decide +kernel
theorem dL_law_902 : decode cL_law 902 = .ok (.iconst 2, 1) := by decide +kernel
theorem dL_law_903 : decode cL_law 903 = .ok (.iadd, 1) := by decide +kernel
theorem dL_law_904 : decode cL_law 904 = .ok (.iaload, 1) := by decide +kernel
theorem dL_law_905 : decode cL_law 905 = .ok (.invokevirtual 117, 3) := by decide +kernel
theorem dL_law_908 : decode cL_law 908 = .ok (.pop, 1) := by decide +kernel
theorem dL_law_909 : decode cL_law 909 = .ok (.goto 138, 3) := by decide +kernel
set_option maxHeartbeats 4000000 in
set_option maxRecDepth 20000 in
theorem lk_bottling {g : xGT} {l : Launch} {b : Nat} {D : va_G} {cy : Nat → ClassId} {a0 L : Nat} {xs : Nat → Int32} (hg : xG g cL_law RL rmL 4) (he : xE g l b D cy) (hX : yX g a0 L xs) (hL : L ≤ 3072) {i : Int} (hi : 0 ≤ i ∧ i + 6 ≤ (L : Int)) {tt : Nat} {M : xMm} (hz : IZ tt M) (K : ∀ (tt2 : Nat) (M2 : xMm), IZ tt2 M2 → yW g a0 209 M2 (RS tt2) 209 8807 1047 [(1, xr 1), (2, xr 172), (3, xi i)] []) : yW g a0 209 M (RS tt) 209 8807 879 [(1, xr 1), (2, xr 172), (3, xi i)] [] := by
  obtain ⟨hIO, hJG, hIC, hIR, hIW, hIL⟩ := id hz.2.1
  refine y_aload_n hg dL_law_879 rfl ?_
  refine y_arg hg hX dL_law_880 dL_law_881 dL_law_882 dL_law_883 dL_law_884 rfl (by omega) (by omega) ?_
  refine y_arg hg hX dL_law_885 dL_law_886 dL_law_887 dL_law_888 dL_law_889 rfl (by omega) (by omega) ?_
  refine y_cVi hg he [_, _] [] dL_law_890 mv_L_114 (c_X11_bottling l b D cy hIO (xt_int _) (xt_int _)) (by decide) rfl rfl (Nat.le_of_ble_eq_true rfl) (by decide) ⟨Nat.le_of_ble_eq_true rfl, Nat.le_of_ble_eq_true rfl⟩ (fun r1 M1 q1 => ?_)
  obtain ⟨hx1, hf1⟩ := sx_bottling hz.2.1 (xt_int _) (xt_int _) q1
  have hy1 := IY_fr hz.2.2.1 hf1
  obtain ⟨hMO, hJN, hMR, hMC, hMW, hMK⟩ := id hy1
  refine y_pop hg dL_law_893 rfl ?_
  refine y_aload_n hg dL_law_894 rfl ?_
  refine y_arg hg hX dL_law_895 dL_law_896 dL_law_897 dL_law_898 dL_law_899 rfl (by omega) (by omega) ?_
  refine y_arg hg hX dL_law_900 dL_law_901 dL_law_902 dL_law_903 dL_law_904 rfl (by omega) (by omega) ?_
  refine y_cVi hg he [_, _] [] dL_law_905 mv_L_117 (c_X12_bottling l b D cy hMO (xt_int _) (xt_int _)) (by decide) rfl rfl (Nat.le_of_ble_eq_true rfl) (by decide) ⟨Nat.le_of_ble_eq_true rfl, Nat.le_of_ble_eq_true rfl⟩ (fun r2 M2 q2 => ?_)
  obtain ⟨hy2, hf2⟩ := sy_bottling hy1 (xt_int _) (xt_int _) q2
  refine y_pop hg dL_law_908 rfl ?_
  refine y_goto (tgt := 1047) hg dL_law_909 (by decide) ?_
  exact K tt M2 ⟨hz.1, IX_fr hx1 hf2, hy2, rel_bottling hz.2.1 hz.2.2.1 hz.2.2.2 hf1 q1 q2⟩
