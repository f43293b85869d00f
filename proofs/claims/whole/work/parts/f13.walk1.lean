/-! the law's walk: delete commit abort state outcome waitsFor hasRead own -/
section
variable {Q : PE} {K : KT} {P : PT} {J I : IT} {c cs ns Lg : Nat} {i : Int} {xs : Int → Int}
theorem walk_delete (h : LI c Lg xs K P J I cs ns) (c6 : 6 * c ≤ i) (hi : (0 ≤ i ∧ i + 6 ≤ Lg) ∧ Lg ≤ 3072) (nx : ∀ K P J I cs ns, (cs ≤ 603072 ∧ ns ≤ 7207018) → LI (c + 1) Lg xs K P J I cs ns → VL Q K P J I cs ns 3229 (Lw i) []) : VL Q K P J I cs ns 852 (Lw i) [] := by
  refine VE.aload_n (o := 1000) (pc' := 853) d_Law_law_852 rfl rfl ?_
  refine VL.arg (i := i) (pc' := 859) d_Law_law_853 d_Law_law_854 d_Law_law_856 d_Law_law_857 d_Law_law_858 rfl rfl rfl h.1 (by decide) hi ?_
  refine VL.arg (i := i) (pc' := 865) d_Law_law_859 d_Law_law_860 d_Law_law_862 d_Law_law_863 d_Law_law_864 rfl rfl rfl h.1 (by decide) hi ?_
  refine VL.arg (i := i) (pc' := 871) d_Law_law_865 d_Law_law_866 d_Law_law_868 d_Law_law_869 d_Law_law_870 rfl rfl rfl h.1 (by decide) hi ?_
  refine VE.aload_n (o := 50) (pc' := 872) d_Law_law_871 rfl rfl ?_
  obtain ⟨hc, Qc, sp, hq⟩ := case_delete (p1 := xs (i + 1)) (p2 := xs (i + 2)) (p3 := xs (i + 3)) h (by omega)
  refine VE.callSWE (k := 5) (pc' := 875) d_Law_law_872 rfl sp.lim rfl rfl cd_Law_delete kw_initialized_RowForgeLaw (by decide) (by decide) (by decide +kernel) rfl st_Law_delete lk_Law_188 rfl rfl rfl (by show cs + (603072 - cs) ≤ 603072; omega) (by show ns + (7207018 - ns) ≤ 7207018; omega) (fun k9 n9 r K1 P1 J1 I1 hz => ?_)
  obtain ⟨hk9, k0, n0, kk0, nn0, hz⟩ := hz
  have hk : k9 ≤ 603072 - cs ∧ n9 ≤ 7207018 - ns := hk9
  refine VE.wf (fun wf => ?_)
  obtain ⟨kc, er, hL1, Q2, sp2, hq2⟩ := hq r K1 P1 J1 I1 k0 n0 hz wf
  subst er
  refine VE.istore (pc' := 877) d_Law_law_875 rfl rfl ?_
  refine VE.pick [0, 1, 2, 3, 4, 5] ?_
  refine VE.aload_n (o := 100) (pc' := 878) d_Law_law_877 rfl rfl ?_
  refine VL.arg (i := i) (pc' := 884) d_Law_law_878 d_Law_law_879 d_Law_law_881 d_Law_law_882 d_Law_law_883 rfl rfl rfl hL1 (by decide) hi ?_
  refine VL.arg (i := i) (pc' := 890) d_Law_law_884 d_Law_law_885 d_Law_law_887 d_Law_law_888 d_Law_law_889 rfl rfl rfl hL1 (by decide) hi ?_
  refine VL.arg (i := i) (pc' := 896) d_Law_law_890 d_Law_law_891 d_Law_law_893 d_Law_law_894 d_Law_law_895 rfl rfl rfl hL1 (by decide) hi ?_
  refine VE.callV (ci := 11) (T := T11) (N := 94) (pc' := 899) d_Law_law_896 rfl sp2 rfl mv_Model_delete.1 mv_Model_delete.2.1 rfl mv_Model_delete.2.2.1 mv_Model_delete.2.2.2 lk_Law_191 rfl (hL1.1.1.k rfl) rfl rfl rfl (by show cs + k9 + 0 ≤ 603072; omega) (by show ns + n9 + 0 ≤ 7207018; omega) (fun r2 K2 P2 J2 I2 hz2 => ?_)
  obtain ⟨b, er2, -, -, h93, hb, hN⟩ := hq2 _ _ _ _ _ hz2
  injection er2 with er2
  subst er2
  exact law_tail d_Law_law_899 d_Law_law_901 d_Law_law_902 d_Law_law_905 d_Law_law_907 d_Law_law_912 d_Law_law_914 d_Law_law_917 d_Law_law_918 d_Law_law_919 d_Law_law_920 d_Law_law_922 d_Law_law_923 d_Law_law_924 d_Law_law_929 (by decide) hN.1 h93 hb (by show cs + k9 ≤ 603072 ∧ ns + n9 ≤ 7207018; omega) (nx _ _ _ _ (cs + k9) (ns + n9) (by omega) (hN.mono (by omega) (by omega)))
theorem walk_commit (h : LI c Lg xs K P J I cs ns) (c6 : 6 * c ≤ i) (hi : (0 ≤ i ∧ i + 6 ≤ Lg) ∧ Lg ≤ 3072) (nx : ∀ K P J I cs ns, (cs ≤ 603072 ∧ ns ≤ 7207018) → LI (c + 1) Lg xs K P J I cs ns → VL Q K P J I cs ns 3229 (Lw i) []) : VL Q K P J I cs ns 932 (Lw i) [] := by
  refine VE.aload_n (o := 1000) (pc' := 933) d_Law_law_932 rfl rfl ?_
  refine VL.arg (i := i) (pc' := 939) d_Law_law_933 d_Law_law_934 d_Law_law_936 d_Law_law_937 d_Law_law_938 rfl rfl rfl h.1 (by decide) hi ?_
  refine VE.aload_n (o := 50) (pc' := 940) d_Law_law_939 rfl rfl ?_
  obtain ⟨hc, Qc, sp, hq⟩ := case_commit (p1 := xs (i + 1)) h (by omega)
  refine VE.callSWE (k := 3) (pc' := 943) d_Law_law_940 rfl sp.lim rfl rfl cd_Law_commit kw_initialized_RowForgeLaw (by decide) (by decide) (by decide +kernel) rfl st_Law_commit lk_Law_192 rfl rfl rfl (by show cs + (603072 - cs) ≤ 603072; omega) (by show ns + (7207018 - ns) ≤ 7207018; omega) (fun k9 n9 r K1 P1 J1 I1 hz => ?_)
  obtain ⟨hk9, k0, n0, kk0, nn0, hz⟩ := hz
  have hk : k9 ≤ 603072 - cs ∧ n9 ≤ 7207018 - ns := hk9
  refine VE.wf (fun wf => ?_)
  obtain ⟨kc, er, hL1, Q2, sp2, hq2⟩ := hq r K1 P1 J1 I1 k0 n0 hz wf
  subst er
  refine VE.istore (pc' := 945) d_Law_law_943 rfl rfl ?_
  refine VE.pick [0, 1, 2, 3, 4, 5] ?_
  refine VE.aload_n (o := 100) (pc' := 946) d_Law_law_945 rfl rfl ?_
  refine VL.arg (i := i) (pc' := 952) d_Law_law_946 d_Law_law_947 d_Law_law_949 d_Law_law_950 d_Law_law_951 rfl rfl rfl hL1 (by decide) hi ?_
  refine VE.callV (ci := 11) (T := T11) (N := 94) (pc' := 955) d_Law_law_952 rfl sp2 rfl mv_Model_commit.1 mv_Model_commit.2.1 rfl mv_Model_commit.2.2.1 mv_Model_commit.2.2.2 lk_Law_194 rfl (hL1.1.1.k rfl) rfl rfl rfl (by show cs + k9 + 0 ≤ 603072; omega) (by show ns + n9 + 0 ≤ 7207018; omega) (fun r2 K2 P2 J2 I2 hz2 => ?_)
  obtain ⟨b, er2, -, -, h93, hb, hN⟩ := hq2 _ _ _ _ _ hz2
  injection er2 with er2
  subst er2
  exact law_tail d_Law_law_955 d_Law_law_957 d_Law_law_958 d_Law_law_961 d_Law_law_963 d_Law_law_968 d_Law_law_970 d_Law_law_973 d_Law_law_974 d_Law_law_975 d_Law_law_976 d_Law_law_978 d_Law_law_979 d_Law_law_980 d_Law_law_985 (by decide) hN.1 h93 hb (by show cs + k9 ≤ 603072 ∧ ns + n9 ≤ 7207018; omega) (nx _ _ _ _ (cs + k9) (ns + n9) (by omega) (hN.mono (by omega) (by omega)))
theorem walk_abort (h : LI c Lg xs K P J I cs ns) (c6 : 6 * c ≤ i) (hi : (0 ≤ i ∧ i + 6 ≤ Lg) ∧ Lg ≤ 3072) (nx : ∀ K P J I cs ns, (cs ≤ 603072 ∧ ns ≤ 7207018) → LI (c + 1) Lg xs K P J I cs ns → VL Q K P J I cs ns 3229 (Lw i) []) : VL Q K P J I cs ns 988 (Lw i) [] := by
  refine VE.aload_n (o := 1000) (pc' := 989) d_Law_law_988 rfl rfl ?_
  refine VL.arg (i := i) (pc' := 995) d_Law_law_989 d_Law_law_990 d_Law_law_992 d_Law_law_993 d_Law_law_994 rfl rfl rfl h.1 (by decide) hi ?_
  refine VE.aload_n (o := 50) (pc' := 996) d_Law_law_995 rfl rfl ?_
  obtain ⟨hc, Qc, sp, hq⟩ := case_abort (p1 := xs (i + 1)) h (by omega)
  refine VE.callSWE (k := 3) (pc' := 999) d_Law_law_996 rfl sp.lim rfl rfl cd_Law_abort kw_initialized_RowForgeLaw (by decide) (by decide) (by decide +kernel) rfl st_Law_abort lk_Law_195 rfl rfl rfl (by show cs + (603072 - cs) ≤ 603072; omega) (by show ns + (7207018 - ns) ≤ 7207018; omega) (fun k9 n9 r K1 P1 J1 I1 hz => ?_)
  obtain ⟨hk9, k0, n0, kk0, nn0, hz⟩ := hz
  have hk : k9 ≤ 603072 - cs ∧ n9 ≤ 7207018 - ns := hk9
  refine VE.wf (fun wf => ?_)
  obtain ⟨kc, er, hL1, Q2, sp2, hq2⟩ := hq r K1 P1 J1 I1 k0 n0 hz wf
  subst er
  refine VE.istore (pc' := 1001) d_Law_law_999 rfl rfl ?_
  refine VE.pick [0, 1, 2, 3, 4, 5] ?_
  refine VE.aload_n (o := 100) (pc' := 1002) d_Law_law_1001 rfl rfl ?_
  refine VL.arg (i := i) (pc' := 1008) d_Law_law_1002 d_Law_law_1003 d_Law_law_1005 d_Law_law_1006 d_Law_law_1007 rfl rfl rfl hL1 (by decide) hi ?_
  refine VE.callV (ci := 11) (T := T11) (N := 94) (pc' := 1011) d_Law_law_1008 rfl sp2 rfl mv_Model_abort.1 mv_Model_abort.2.1 rfl mv_Model_abort.2.2.1 mv_Model_abort.2.2.2 lk_Law_197 rfl (hL1.1.1.k rfl) rfl rfl rfl (by show cs + k9 + 0 ≤ 603072; omega) (by show ns + n9 + 0 ≤ 7207018; omega) (fun r2 K2 P2 J2 I2 hz2 => ?_)
  obtain ⟨b, er2, -, -, h93, hb, hN⟩ := hq2 _ _ _ _ _ hz2
  injection er2 with er2
  subst er2
  exact law_tail d_Law_law_1011 d_Law_law_1013 d_Law_law_1014 d_Law_law_1017 d_Law_law_1019 d_Law_law_1024 d_Law_law_1026 d_Law_law_1029 d_Law_law_1030 d_Law_law_1031 d_Law_law_1032 d_Law_law_1034 d_Law_law_1035 d_Law_law_1036 d_Law_law_1041 (by decide) hN.1 h93 hb (by show cs + k9 ≤ 603072 ∧ ns + n9 ≤ 7207018; omega) (nx _ _ _ _ (cs + k9) (ns + n9) (by omega) (hN.mono (by omega) (by omega)))
theorem walk_state (h : LI c Lg xs K P J I cs ns) (c6 : 6 * c ≤ i) (hi : (0 ≤ i ∧ i + 6 ≤ Lg) ∧ Lg ≤ 3072) (nx : ∀ K P J I cs ns, (cs ≤ 603072 ∧ ns ≤ 7207018) → LI (c + 1) Lg xs K P J I cs ns → VL Q K P J I cs ns 3229 (Lw i) []) : VL Q K P J I cs ns 1044 (Lw i) [] := by
  refine VE.aload_n (o := 1000) (pc' := 1045) d_Law_law_1044 rfl rfl ?_
  refine VL.arg (i := i) (pc' := 1051) d_Law_law_1045 d_Law_law_1046 d_Law_law_1048 d_Law_law_1049 d_Law_law_1050 rfl rfl rfl h.1 (by decide) hi ?_
  refine VE.aload_n (o := 50) (pc' := 1052) d_Law_law_1051 rfl rfl ?_
  obtain ⟨hc, Qc, sp, hq⟩ := case_state (p1 := xs (i + 1)) h (by omega)
  refine VE.callSWE (k := 3) (pc' := 1055) d_Law_law_1052 rfl sp.lim rfl rfl cd_Law_state kw_initialized_RowForgeLaw (by decide) (by decide) (by decide +kernel) rfl st_Law_state lk_Law_198 rfl rfl rfl (by show cs + (603072 - cs) ≤ 603072; omega) (by show ns + (7207018 - ns) ≤ 7207018; omega) (fun k9 n9 r K1 P1 J1 I1 hz => ?_)
  obtain ⟨hk9, k0, n0, kk0, nn0, hz⟩ := hz
  have hk : k9 ≤ 603072 - cs ∧ n9 ≤ 7207018 - ns := hk9
  refine VE.wf (fun wf => ?_)
  obtain ⟨kc, er, hL1, Q2, sp2, hq2⟩ := hq r K1 P1 J1 I1 k0 n0 hz wf
  subst er
  refine VE.istore (pc' := 1057) d_Law_law_1055 rfl rfl ?_
  refine VE.pick [0, 1, 2, 3, 4, 5] ?_
  refine VE.aload_n (o := 100) (pc' := 1058) d_Law_law_1057 rfl rfl ?_
  refine VL.arg (i := i) (pc' := 1064) d_Law_law_1058 d_Law_law_1059 d_Law_law_1061 d_Law_law_1062 d_Law_law_1063 rfl rfl rfl hL1 (by decide) hi ?_
  refine VE.callV (ci := 11) (T := T11) (N := 94) (pc' := 1067) d_Law_law_1064 rfl sp2 rfl mv_Model_state.1 mv_Model_state.2.1 rfl mv_Model_state.2.2.1 mv_Model_state.2.2.2 lk_Law_200 rfl (hL1.1.1.k rfl) rfl rfl rfl (by show cs + k9 + 0 ≤ 603072; omega) (by show ns + n9 + 0 ≤ 7207018; omega) (fun r2 K2 P2 J2 I2 hz2 => ?_)
  obtain ⟨b, er2, -, -, h93, hb, hN⟩ := hq2 _ _ _ _ _ hz2
  injection er2 with er2
  subst er2
  exact law_tail d_Law_law_1067 d_Law_law_1069 d_Law_law_1070 d_Law_law_1073 d_Law_law_1075 d_Law_law_1080 d_Law_law_1082 d_Law_law_1085 d_Law_law_1086 d_Law_law_1087 d_Law_law_1088 d_Law_law_1090 d_Law_law_1091 d_Law_law_1092 d_Law_law_1097 (by decide) hN.1 h93 hb (by show cs + k9 ≤ 603072 ∧ ns + n9 ≤ 7207018; omega) (nx _ _ _ _ (cs + k9) (ns + n9) (by omega) (hN.mono (by omega) (by omega)))
theorem walk_outcome (h : LI c Lg xs K P J I cs ns) (c6 : 6 * c ≤ i) (hi : (0 ≤ i ∧ i + 6 ≤ Lg) ∧ Lg ≤ 3072) (nx : ∀ K P J I cs ns, (cs ≤ 603072 ∧ ns ≤ 7207018) → LI (c + 1) Lg xs K P J I cs ns → VL Q K P J I cs ns 3229 (Lw i) []) : VL Q K P J I cs ns 1100 (Lw i) [] := by
  refine VE.aload_n (o := 1000) (pc' := 1101) d_Law_law_1100 rfl rfl ?_
  refine VL.arg (i := i) (pc' := 1107) d_Law_law_1101 d_Law_law_1102 d_Law_law_1104 d_Law_law_1105 d_Law_law_1106 rfl rfl rfl h.1 (by decide) hi ?_
  refine VE.aload_n (o := 50) (pc' := 1108) d_Law_law_1107 rfl rfl ?_
  obtain ⟨hc, Qc, sp, hq⟩ := case_outcome (p1 := xs (i + 1)) h (by omega)
  refine VE.callSWE (k := 3) (pc' := 1111) d_Law_law_1108 rfl sp.lim rfl rfl cd_Law_outcome kw_initialized_RowForgeLaw (by decide) (by decide) (by decide +kernel) rfl st_Law_outcome lk_Law_201 rfl rfl rfl (by show cs + (603072 - cs) ≤ 603072; omega) (by show ns + (7207018 - ns) ≤ 7207018; omega) (fun k9 n9 r K1 P1 J1 I1 hz => ?_)
  obtain ⟨hk9, k0, n0, kk0, nn0, hz⟩ := hz
  have hk : k9 ≤ 603072 - cs ∧ n9 ≤ 7207018 - ns := hk9
  refine VE.wf (fun wf => ?_)
  obtain ⟨kc, er, hL1, Q2, sp2, hq2⟩ := hq r K1 P1 J1 I1 k0 n0 hz wf
  subst er
  refine VE.istore (pc' := 1113) d_Law_law_1111 rfl rfl ?_
  refine VE.pick [0, 1, 2, 3, 4, 5] ?_
  refine VE.aload_n (o := 100) (pc' := 1114) d_Law_law_1113 rfl rfl ?_
  refine VL.arg (i := i) (pc' := 1120) d_Law_law_1114 d_Law_law_1115 d_Law_law_1117 d_Law_law_1118 d_Law_law_1119 rfl rfl rfl hL1 (by decide) hi ?_
  refine VE.callV (ci := 11) (T := T11) (N := 94) (pc' := 1123) d_Law_law_1120 rfl sp2 rfl mv_Model_outcome.1 mv_Model_outcome.2.1 rfl mv_Model_outcome.2.2.1 mv_Model_outcome.2.2.2 lk_Law_203 rfl (hL1.1.1.k rfl) rfl rfl rfl (by show cs + k9 + 0 ≤ 603072; omega) (by show ns + n9 + 0 ≤ 7207018; omega) (fun r2 K2 P2 J2 I2 hz2 => ?_)
  obtain ⟨b, er2, -, -, h93, hb, hN⟩ := hq2 _ _ _ _ _ hz2
  injection er2 with er2
  subst er2
  exact law_tail d_Law_law_1123 d_Law_law_1125 d_Law_law_1126 d_Law_law_1129 d_Law_law_1131 d_Law_law_1136 d_Law_law_1138 d_Law_law_1141 d_Law_law_1142 d_Law_law_1143 d_Law_law_1144 d_Law_law_1146 d_Law_law_1147 d_Law_law_1148 d_Law_law_1153 (by decide) hN.1 h93 hb (by show cs + k9 ≤ 603072 ∧ ns + n9 ≤ 7207018; omega) (nx _ _ _ _ (cs + k9) (ns + n9) (by omega) (hN.mono (by omega) (by omega)))
theorem walk_waitsFor (h : LI c Lg xs K P J I cs ns) (c6 : 6 * c ≤ i) (hi : (0 ≤ i ∧ i + 6 ≤ Lg) ∧ Lg ≤ 3072) (nx : ∀ K P J I cs ns, (cs ≤ 603072 ∧ ns ≤ 7207018) → LI (c + 1) Lg xs K P J I cs ns → VL Q K P J I cs ns 3229 (Lw i) []) : VL Q K P J I cs ns 1156 (Lw i) [] := by
  refine VE.aload_n (o := 1000) (pc' := 1157) d_Law_law_1156 rfl rfl ?_
  refine VL.arg (i := i) (pc' := 1163) d_Law_law_1157 d_Law_law_1158 d_Law_law_1160 d_Law_law_1161 d_Law_law_1162 rfl rfl rfl h.1 (by decide) hi ?_
  refine VE.aload_n (o := 50) (pc' := 1164) d_Law_law_1163 rfl rfl ?_
  obtain ⟨hc, Qc, sp, hq⟩ := case_waitsFor (p1 := xs (i + 1)) h (by omega)
  refine VE.callSWE (k := 3) (pc' := 1167) d_Law_law_1164 rfl sp.lim rfl rfl cd_Law_waitsFor kw_initialized_RowForgeLaw (by decide) (by decide) (by decide +kernel) rfl st_Law_waitsFor lk_Law_204 rfl rfl rfl (by show cs + (603072 - cs) ≤ 603072; omega) (by show ns + (7207018 - ns) ≤ 7207018; omega) (fun k9 n9 r K1 P1 J1 I1 hz => ?_)
  obtain ⟨hk9, k0, n0, kk0, nn0, hz⟩ := hz
  have hk : k9 ≤ 603072 - cs ∧ n9 ≤ 7207018 - ns := hk9
  refine VE.wf (fun wf => ?_)
  obtain ⟨kc, er, hL1, Q2, sp2, hq2⟩ := hq r K1 P1 J1 I1 k0 n0 hz wf
  subst er
  refine VE.istore (pc' := 1169) d_Law_law_1167 rfl rfl ?_
  refine VE.pick [0, 1, 2, 3, 4, 5] ?_
  refine VE.aload_n (o := 100) (pc' := 1170) d_Law_law_1169 rfl rfl ?_
  refine VL.arg (i := i) (pc' := 1176) d_Law_law_1170 d_Law_law_1171 d_Law_law_1173 d_Law_law_1174 d_Law_law_1175 rfl rfl rfl hL1 (by decide) hi ?_
  refine VE.callV (ci := 11) (T := T11) (N := 94) (pc' := 1179) d_Law_law_1176 rfl sp2 rfl mv_Model_waitsFor.1 mv_Model_waitsFor.2.1 rfl mv_Model_waitsFor.2.2.1 mv_Model_waitsFor.2.2.2 lk_Law_206 rfl (hL1.1.1.k rfl) rfl rfl rfl (by show cs + k9 + 0 ≤ 603072; omega) (by show ns + n9 + 0 ≤ 7207018; omega) (fun r2 K2 P2 J2 I2 hz2 => ?_)
  obtain ⟨b, er2, -, -, h93, hb, hN⟩ := hq2 _ _ _ _ _ hz2
  injection er2 with er2
  subst er2
  exact law_tail d_Law_law_1179 d_Law_law_1181 d_Law_law_1182 d_Law_law_1185 d_Law_law_1187 d_Law_law_1192 d_Law_law_1194 d_Law_law_1197 d_Law_law_1198 d_Law_law_1199 d_Law_law_1200 d_Law_law_1202 d_Law_law_1203 d_Law_law_1204 d_Law_law_1209 (by decide) hN.1 h93 hb (by show cs + k9 ≤ 603072 ∧ ns + n9 ≤ 7207018; omega) (nx _ _ _ _ (cs + k9) (ns + n9) (by omega) (hN.mono (by omega) (by omega)))
theorem walk_hasRead (h : LI c Lg xs K P J I cs ns) (c6 : 6 * c ≤ i) (hi : (0 ≤ i ∧ i + 6 ≤ Lg) ∧ Lg ≤ 3072) (nx : ∀ K P J I cs ns, (cs ≤ 603072 ∧ ns ≤ 7207018) → LI (c + 1) Lg xs K P J I cs ns → VL Q K P J I cs ns 3229 (Lw i) []) : VL Q K P J I cs ns 1212 (Lw i) [] := by
  refine VE.aload_n (o := 1000) (pc' := 1213) d_Law_law_1212 rfl rfl ?_
  refine VL.arg (i := i) (pc' := 1219) d_Law_law_1213 d_Law_law_1214 d_Law_law_1216 d_Law_law_1217 d_Law_law_1218 rfl rfl rfl h.1 (by decide) hi ?_
  refine VL.arg (i := i) (pc' := 1225) d_Law_law_1219 d_Law_law_1220 d_Law_law_1222 d_Law_law_1223 d_Law_law_1224 rfl rfl rfl h.1 (by decide) hi ?_
  refine VL.arg (i := i) (pc' := 1231) d_Law_law_1225 d_Law_law_1226 d_Law_law_1228 d_Law_law_1229 d_Law_law_1230 rfl rfl rfl h.1 (by decide) hi ?_
  refine VE.aload_n (o := 50) (pc' := 1232) d_Law_law_1231 rfl rfl ?_
  obtain ⟨hc, Qc, sp, hq⟩ := case_hasReadB (p1 := xs (i + 1)) (p2 := xs (i + 2)) (p3 := xs (i + 3)) h (by omega)
  refine VE.callSWE (k := 5) (pc' := 1235) d_Law_law_1232 rfl sp.lim rfl rfl cd_Law_hasRead kw_initialized_RowForgeLaw (by decide) (by decide) (by decide +kernel) rfl st_Law_hasRead lk_Law_207 rfl rfl rfl (by show cs + (603072 - cs) ≤ 603072; omega) (by show ns + (7207018 - ns) ≤ 7207018; omega) (fun k9 n9 r K1 P1 J1 I1 hz => ?_)
  obtain ⟨hk9, k0, n0, kk0, nn0, hz⟩ := hz
  have hk : k9 ≤ 603072 - cs ∧ n9 ≤ 7207018 - ns := hk9
  refine VE.wf (fun wf => ?_)
  obtain ⟨kc, er, hL1, Q2, sp2, hq2⟩ := hq r K1 P1 J1 I1 k0 n0 hz wf
  subst er
  refine VE.istore (pc' := 1237) d_Law_law_1235 rfl rfl ?_
  refine VE.pick [0, 1, 2, 3, 4, 5] ?_
  refine VE.aload_n (o := 100) (pc' := 1238) d_Law_law_1237 rfl rfl ?_
  refine VL.arg (i := i) (pc' := 1244) d_Law_law_1238 d_Law_law_1239 d_Law_law_1241 d_Law_law_1242 d_Law_law_1243 rfl rfl rfl hL1 (by decide) hi ?_
  refine VL.arg (i := i) (pc' := 1250) d_Law_law_1244 d_Law_law_1245 d_Law_law_1247 d_Law_law_1248 d_Law_law_1249 rfl rfl rfl hL1 (by decide) hi ?_
  refine VL.arg (i := i) (pc' := 1256) d_Law_law_1250 d_Law_law_1251 d_Law_law_1253 d_Law_law_1254 d_Law_law_1255 rfl rfl rfl hL1 (by decide) hi ?_
  refine VE.callV (ci := 11) (T := T11) (N := 94) (pc' := 1259) d_Law_law_1256 rfl sp2 rfl mv_Model_hasRead.1 mv_Model_hasRead.2.1 rfl mv_Model_hasRead.2.2.1 mv_Model_hasRead.2.2.2 lk_Law_209 rfl (hL1.1.1.k rfl) rfl rfl rfl (by show cs + k9 + 0 ≤ 603072; omega) (by show ns + n9 + 0 ≤ 7207018; omega) (fun r2 K2 P2 J2 I2 hz2 => ?_)
  obtain ⟨b, er2, -, -, h93, hb, h01, hN⟩ := hq2 _ _ _ _ _ hz2
  injection er2 with er2
  subst er2
  exact law_tailB d_Law_law_1259 d_Law_law_1261 d_Law_law_1262 d_Law_law_1265 d_Law_law_1267 d_Law_law_1272 d_Law_law_1274 d_Law_law_1277 d_Law_law_1278 d_Law_law_1279 d_Law_law_1280 d_Law_law_1282 d_Law_law_1285 d_Law_law_1286 d_Law_law_1289 d_Law_law_1290 d_Law_law_1291 d_Law_law_1296 (by decide) hN.1 h93 hb h01 (by show cs + k9 ≤ 603072 ∧ ns + n9 ≤ 7207018; omega) (nx _ _ _ _ (cs + k9) (ns + n9) (by omega) (hN.mono (by omega) (by omega)))
theorem walk_own (h : LI c Lg xs K P J I cs ns) (c6 : 6 * c ≤ i) (hi : (0 ≤ i ∧ i + 6 ≤ Lg) ∧ Lg ≤ 3072) (nx : ∀ K P J I cs ns, (cs ≤ 603072 ∧ ns ≤ 7207018) → LI (c + 1) Lg xs K P J I cs ns → VL Q K P J I cs ns 3229 (Lw i) []) : VL Q K P J I cs ns 1299 (Lw i) [] := by
  refine VE.aload_n (o := 1000) (pc' := 1300) d_Law_law_1299 rfl rfl ?_
  refine VL.arg (i := i) (pc' := 1306) d_Law_law_1300 d_Law_law_1301 d_Law_law_1303 d_Law_law_1304 d_Law_law_1305 rfl rfl rfl h.1 (by decide) hi ?_
  refine VL.arg (i := i) (pc' := 1312) d_Law_law_1306 d_Law_law_1307 d_Law_law_1309 d_Law_law_1310 d_Law_law_1311 rfl rfl rfl h.1 (by decide) hi ?_
  refine VL.arg (i := i) (pc' := 1318) d_Law_law_1312 d_Law_law_1313 d_Law_law_1315 d_Law_law_1316 d_Law_law_1317 rfl rfl rfl h.1 (by decide) hi ?_
  refine VL.arg (i := i) (pc' := 1324) d_Law_law_1318 d_Law_law_1319 d_Law_law_1321 d_Law_law_1322 d_Law_law_1323 rfl rfl rfl h.1 (by decide) hi ?_
  refine VE.aload_n (o := 50) (pc' := 1325) d_Law_law_1324 rfl rfl ?_
  obtain ⟨hc, Qc, sp, hq⟩ := case_own (p1 := xs (i + 1)) (p2 := xs (i + 2)) (p3 := xs (i + 3)) (p4 := xs (i + 4)) h (by omega)
  refine VE.callSWE (k := 6) (pc' := 1328) d_Law_law_1325 rfl sp.lim rfl rfl cd_Law_own kw_initialized_RowForgeLaw (by decide) (by decide) (by decide +kernel) rfl st_Law_own lk_Law_210 rfl rfl rfl (by show cs + (603072 - cs) ≤ 603072; omega) (by show ns + (7207018 - ns) ≤ 7207018; omega) (fun k9 n9 r K1 P1 J1 I1 hz => ?_)
  obtain ⟨hk9, k0, n0, kk0, nn0, hz⟩ := hz
  have hk : k9 ≤ 603072 - cs ∧ n9 ≤ 7207018 - ns := hk9
  refine VE.wf (fun wf => ?_)
  obtain ⟨kc, er, hL1, Q2, sp2, hq2⟩ := hq r K1 P1 J1 I1 k0 n0 hz wf
  subst er
  refine VE.istore (pc' := 1330) d_Law_law_1328 rfl rfl ?_
  refine VE.pick [0, 1, 2, 3, 4, 5] ?_
  refine VE.aload_n (o := 100) (pc' := 1331) d_Law_law_1330 rfl rfl ?_
  refine VL.arg (i := i) (pc' := 1337) d_Law_law_1331 d_Law_law_1332 d_Law_law_1334 d_Law_law_1335 d_Law_law_1336 rfl rfl rfl hL1 (by decide) hi ?_
  refine VL.arg (i := i) (pc' := 1343) d_Law_law_1337 d_Law_law_1338 d_Law_law_1340 d_Law_law_1341 d_Law_law_1342 rfl rfl rfl hL1 (by decide) hi ?_
  refine VL.arg (i := i) (pc' := 1349) d_Law_law_1343 d_Law_law_1344 d_Law_law_1346 d_Law_law_1347 d_Law_law_1348 rfl rfl rfl hL1 (by decide) hi ?_
  refine VL.arg (i := i) (pc' := 1355) d_Law_law_1349 d_Law_law_1350 d_Law_law_1352 d_Law_law_1353 d_Law_law_1354 rfl rfl rfl hL1 (by decide) hi ?_
  refine VE.callV (ci := 11) (T := T11) (N := 94) (pc' := 1358) d_Law_law_1355 rfl sp2 rfl mv_Model_own.1 mv_Model_own.2.1 rfl mv_Model_own.2.2.1 mv_Model_own.2.2.2 lk_Law_212 rfl (hL1.1.1.k rfl) rfl rfl rfl (by show cs + k9 + 0 ≤ 603072; omega) (by show ns + n9 + 0 ≤ 7207018; omega) (fun r2 K2 P2 J2 I2 hz2 => ?_)
  obtain ⟨b, er2, -, -, h93, hb, hN⟩ := hq2 _ _ _ _ _ hz2
  injection er2 with er2
  subst er2
  exact law_tail d_Law_law_1358 d_Law_law_1360 d_Law_law_1361 d_Law_law_1364 d_Law_law_1366 d_Law_law_1371 d_Law_law_1373 d_Law_law_1376 d_Law_law_1377 d_Law_law_1378 d_Law_law_1379 d_Law_law_1381 d_Law_law_1382 d_Law_law_1383 d_Law_law_1388 (by decide) hN.1 h93 hb (by show cs + k9 ≤ 603072 ∧ ns + n9 ≤ 7207018; omega) (nx _ _ _ _ (cs + k9) (ns + n9) (by omega) (hN.mono (by omega) (by omega)))
end
