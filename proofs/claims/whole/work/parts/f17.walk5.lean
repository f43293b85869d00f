/-! the law's walk: checkpoint crash records flushed recordKind recordOf recordAt -/
section
variable {Q : PE} {K : KT} {P : PT} {J I : IT} {c cs ns Lg : Nat} {i : Int} {xs : Int → Int}
theorem walk_checkpoint (h : LI c Lg xs K P J I cs ns) (c6 : 6 * c ≤ i) (hi : (0 ≤ i ∧ i + 6 ≤ Lg) ∧ Lg ≤ 3072) (nx : ∀ K P J I cs ns, (cs ≤ 603072 ∧ ns ≤ 7207018) → LI (c + 1) Lg xs K P J I cs ns → VL Q K P J I cs ns 3229 (Lw i) []) : VL Q K P J I cs ns 2938 (Lw i) [] := by
  refine VE.aload_n (o := 1000) (pc' := 2939) d_Law_law_2938 rfl rfl ?_
  obtain ⟨hc, Qc, sp, hq⟩ := case_checkpoint h (by omega)
  refine VE.callVE (ci := 10) (T := T10) (N := 11) (pc' := 2942) d_Law_law_2939 rfl sp.lim rfl mv_F_checkpoint.1 mv_F_checkpoint.2.1 rfl mv_F_checkpoint.2.2.1 mv_F_checkpoint.2.2.2 lk_Law_290 rfl h.k1000.1 rfl rfl rfl (by show cs + (603072 - cs) ≤ 603072; omega) (by show ns + (7207018 - ns) ≤ 7207018; omega) (fun k9 n9 r K1 P1 J1 I1 hz => ?_)
  obtain ⟨hk9, k0, n0, kk0, nn0, hz⟩ := hz
  have hk : k9 ≤ 603072 - cs ∧ n9 ≤ 7207018 - ns := hk9
  refine VE.wf (fun wf => ?_)
  obtain ⟨b, er, hL1, Q2, sp2, hq2⟩ := hq r K1 P1 J1 I1 k0 n0 hz wf
  subst er
  refine VE.aload_n (o := 100) (pc' := 2943) d_Law_law_2942 rfl rfl ?_
  refine VE.callV (ci := 11) (T := T11) (N := 94) (pc' := 2946) d_Law_law_2943 rfl sp2 rfl mv_Model_checkpoint.1 mv_Model_checkpoint.2.1 rfl mv_Model_checkpoint.2.2.1 mv_Model_checkpoint.2.2.2 lk_Law_293 rfl (hL1.1.1.k rfl) rfl rfl rfl (by show cs + k9 + 0 ≤ 603072; omega) (by show ns + n9 + 0 ≤ 7207018; omega) (fun r2 K2 P2 J2 I2 hz2 => ?_)
  obtain ⟨er2, -, -, -, hN⟩ := hq2 _ _ _ _ _ hz2
  injection er2 with er2
  subst er2
  refine VE.icmp_eq (tgt := 3229) (pc' := 2949) d_Law_law_2946 (by decide) rfl (fun _ => ?_) (fun e => absurd rfl e)
  exact nx _ _ _ _ (cs + k9) (ns + n9) (by omega) (hN.mono (by omega) (by omega))
theorem walk_crash (h : LI c Lg xs K P J I cs ns) (c6 : 6 * c ≤ i) (hi : (0 ≤ i ∧ i + 6 ≤ Lg) ∧ Lg ≤ 3072) (nx : ∀ K P J I cs ns, (cs ≤ 603072 ∧ ns ≤ 7207018) → LI (c + 1) Lg xs K P J I cs ns → VL Q K P J I cs ns 3229 (Lw i) []) : VL Q K P J I cs ns 2951 (Lw i) [] := by
  refine VE.aload_n (o := 1000) (pc' := 2952) d_Law_law_2951 rfl rfl ?_
  refine VL.arg (i := i) (pc' := 2958) d_Law_law_2952 d_Law_law_2953 d_Law_law_2955 d_Law_law_2956 d_Law_law_2957 rfl rfl rfl h.1 (by decide) hi ?_
  refine VE.aload_n (o := 50) (pc' := 2959) d_Law_law_2958 rfl rfl ?_
  obtain ⟨hc, Qc, sp, hq⟩ := case_crash (p1 := xs (i + 1)) h (by omega)
  refine VE.callSWE (k := 3) (pc' := 2962) d_Law_law_2959 rfl sp.lim rfl rfl cd_Law_crash kw_initialized_RowForgeLaw (by decide) (by decide) (by decide +kernel) rfl st_Law_crash lk_Law_294 rfl rfl rfl (by show cs + (603072 - cs) ≤ 603072; omega) (by show ns + (7207018 - ns) ≤ 7207018; omega) (fun k9 n9 r K1 P1 J1 I1 hz => ?_)
  obtain ⟨hk9, k0, n0, kk0, nn0, hz⟩ := hz
  have hk : k9 ≤ 603072 - cs ∧ n9 ≤ 7207018 - ns := hk9
  refine VE.wf (fun wf => ?_)
  obtain ⟨kc, er, hL1, Q2, sp2, hq2⟩ := hq r K1 P1 J1 I1 k0 n0 hz wf
  subst er
  refine VE.istore (pc' := 2964) d_Law_law_2962 rfl rfl ?_
  refine VE.pick [0, 1, 2, 3, 4, 5] ?_
  refine VE.aload_n (o := 100) (pc' := 2965) d_Law_law_2964 rfl rfl ?_
  refine VL.arg (i := i) (pc' := 2971) d_Law_law_2965 d_Law_law_2966 d_Law_law_2968 d_Law_law_2969 d_Law_law_2970 rfl rfl rfl hL1 (by decide) hi ?_
  refine VE.callV (ci := 11) (T := T11) (N := 94) (pc' := 2974) d_Law_law_2971 rfl sp2 rfl mv_Model_crash.1 mv_Model_crash.2.1 rfl mv_Model_crash.2.2.1 mv_Model_crash.2.2.2 lk_Law_296 rfl (hL1.1.1.k rfl) rfl rfl rfl (by show cs + k9 + 0 ≤ 603072; omega) (by show ns + n9 + 0 ≤ 7207018; omega) (fun r2 K2 P2 J2 I2 hz2 => ?_)
  obtain ⟨b, er2, -, -, h93, hb, hN⟩ := hq2 _ _ _ _ _ hz2
  injection er2 with er2
  subst er2
  exact law_tail d_Law_law_2974 d_Law_law_2976 d_Law_law_2977 d_Law_law_2980 d_Law_law_2982 d_Law_law_2987 d_Law_law_2989 d_Law_law_2992 d_Law_law_2993 d_Law_law_2994 d_Law_law_2995 d_Law_law_2997 d_Law_law_2998 d_Law_law_2999 d_Law_law_3004 (by decide) hN.1 h93 hb (by show cs + k9 ≤ 603072 ∧ ns + n9 ≤ 7207018; omega) (nx _ _ _ _ (cs + k9) (ns + n9) (by omega) (hN.mono (by omega) (by omega)))
theorem walk_records (h : LI c Lg xs K P J I cs ns) (c6 : 6 * c ≤ i) (hi : (0 ≤ i ∧ i + 6 ≤ Lg) ∧ Lg ≤ 3072) (nx : ∀ K P J I cs ns, (cs ≤ 603072 ∧ ns ≤ 7207018) → LI (c + 1) Lg xs K P J I cs ns → VL Q K P J I cs ns 3229 (Lw i) []) : VL Q K P J I cs ns 3007 (Lw i) [] := by
  refine VE.aload_n (o := 1000) (pc' := 3008) d_Law_law_3007 rfl rfl ?_
  obtain ⟨hc, Qc, sp, hq⟩ := case_records h (by omega)
  refine VE.callVE (ci := 10) (T := T10) (N := 11) (pc' := 3011) d_Law_law_3008 rfl sp.lim rfl mv_F_records.1 mv_F_records.2.1 rfl mv_F_records.2.2.1 mv_F_records.2.2.2 lk_Law_297 rfl h.k1000.1 rfl rfl rfl (by show cs + (603072 - cs) ≤ 603072; omega) (by show ns + (7207018 - ns) ≤ 7207018; omega) (fun k9 n9 r K1 P1 J1 I1 hz => ?_)
  obtain ⟨hk9, k0, n0, kk0, nn0, hz⟩ := hz
  have hk : k9 ≤ 603072 - cs ∧ n9 ≤ 7207018 - ns := hk9
  refine VE.wf (fun wf => ?_)
  obtain ⟨b, er, hL1, Q2, sp2, hq2⟩ := hq r K1 P1 J1 I1 k0 n0 hz wf
  subst er
  refine VE.aload_n (o := 100) (pc' := 3012) d_Law_law_3011 rfl rfl ?_
  refine VE.callV (ci := 11) (T := T11) (N := 94) (pc' := 3015) d_Law_law_3012 rfl sp2 rfl mv_Model_records.1 mv_Model_records.2.1 rfl mv_Model_records.2.2.1 mv_Model_records.2.2.2 lk_Law_300 rfl (hL1.1.1.k rfl) rfl rfl rfl (by show cs + k9 + 0 ≤ 603072; omega) (by show ns + n9 + 0 ≤ 7207018; omega) (fun r2 K2 P2 J2 I2 hz2 => ?_)
  obtain ⟨er2, -, -, -, hN⟩ := hq2 _ _ _ _ _ hz2
  injection er2 with er2
  subst er2
  refine VE.icmp_eq (tgt := 3229) (pc' := 3018) d_Law_law_3015 (by decide) rfl (fun _ => ?_) (fun e => absurd rfl e)
  exact nx _ _ _ _ (cs + k9) (ns + n9) (by omega) (hN.mono (by omega) (by omega))
theorem walk_flushed (h : LI c Lg xs K P J I cs ns) (c6 : 6 * c ≤ i) (hi : (0 ≤ i ∧ i + 6 ≤ Lg) ∧ Lg ≤ 3072) (nx : ∀ K P J I cs ns, (cs ≤ 603072 ∧ ns ≤ 7207018) → LI (c + 1) Lg xs K P J I cs ns → VL Q K P J I cs ns 3229 (Lw i) []) : VL Q K P J I cs ns 3020 (Lw i) [] := by
  refine VE.aload_n (o := 1000) (pc' := 3021) d_Law_law_3020 rfl rfl ?_
  obtain ⟨hc, Qc, sp, hq⟩ := case_flushed h (by omega)
  refine VE.callVE (ci := 10) (T := T10) (N := 11) (pc' := 3024) d_Law_law_3021 rfl sp.lim rfl mv_F_flushed.1 mv_F_flushed.2.1 rfl mv_F_flushed.2.2.1 mv_F_flushed.2.2.2 lk_Law_301 rfl h.k1000.1 rfl rfl rfl (by show cs + (603072 - cs) ≤ 603072; omega) (by show ns + (7207018 - ns) ≤ 7207018; omega) (fun k9 n9 r K1 P1 J1 I1 hz => ?_)
  obtain ⟨hk9, k0, n0, kk0, nn0, hz⟩ := hz
  have hk : k9 ≤ 603072 - cs ∧ n9 ≤ 7207018 - ns := hk9
  refine VE.wf (fun wf => ?_)
  obtain ⟨b, er, hL1, Q2, sp2, hq2⟩ := hq r K1 P1 J1 I1 k0 n0 hz wf
  subst er
  refine VE.aload_n (o := 100) (pc' := 3025) d_Law_law_3024 rfl rfl ?_
  refine VE.callV (ci := 11) (T := T11) (N := 94) (pc' := 3028) d_Law_law_3025 rfl sp2 rfl mv_Model_flushed.1 mv_Model_flushed.2.1 rfl mv_Model_flushed.2.2.1 mv_Model_flushed.2.2.2 lk_Law_304 rfl (hL1.1.1.k rfl) rfl rfl rfl (by show cs + k9 + 0 ≤ 603072; omega) (by show ns + n9 + 0 ≤ 7207018; omega) (fun r2 K2 P2 J2 I2 hz2 => ?_)
  obtain ⟨er2, -, -, -, hN⟩ := hq2 _ _ _ _ _ hz2
  injection er2 with er2
  subst er2
  refine VE.icmp_eq (tgt := 3229) (pc' := 3031) d_Law_law_3028 (by decide) rfl (fun _ => ?_) (fun e => absurd rfl e)
  exact nx _ _ _ _ (cs + k9) (ns + n9) (by omega) (hN.mono (by omega) (by omega))
theorem walk_recordKind (h : LI c Lg xs K P J I cs ns) (c6 : 6 * c ≤ i) (hi : (0 ≤ i ∧ i + 6 ≤ Lg) ∧ Lg ≤ 3072) (nx : ∀ K P J I cs ns, (cs ≤ 603072 ∧ ns ≤ 7207018) → LI (c + 1) Lg xs K P J I cs ns → VL Q K P J I cs ns 3229 (Lw i) []) : VL Q K P J I cs ns 3033 (Lw i) [] := by
  refine VE.aload_n (o := 1000) (pc' := 3034) d_Law_law_3033 rfl rfl ?_
  refine VL.arg (i := i) (pc' := 3040) d_Law_law_3034 d_Law_law_3035 d_Law_law_3037 d_Law_law_3038 d_Law_law_3039 rfl rfl rfl h.1 (by decide) hi ?_
  refine VE.aload_n (o := 50) (pc' := 3041) d_Law_law_3040 rfl rfl ?_
  obtain ⟨hc, Qc, sp, hq⟩ := case_recordKind (p1 := xs (i + 1)) h (by omega)
  refine VE.callSWE (k := 3) (pc' := 3044) d_Law_law_3041 rfl sp.lim rfl rfl cd_Law_recordKind kw_initialized_RowForgeLaw (by decide) (by decide) (by decide +kernel) rfl st_Law_recordKind lk_Law_305 rfl rfl rfl (by show cs + (603072 - cs) ≤ 603072; omega) (by show ns + (7207018 - ns) ≤ 7207018; omega) (fun k9 n9 r K1 P1 J1 I1 hz => ?_)
  obtain ⟨hk9, k0, n0, kk0, nn0, hz⟩ := hz
  have hk : k9 ≤ 603072 - cs ∧ n9 ≤ 7207018 - ns := hk9
  refine VE.wf (fun wf => ?_)
  obtain ⟨kc, er, hL1, Q2, sp2, hq2⟩ := hq r K1 P1 J1 I1 k0 n0 hz wf
  subst er
  refine VE.istore (pc' := 3046) d_Law_law_3044 rfl rfl ?_
  refine VE.pick [0, 1, 2, 3, 4, 5] ?_
  refine VE.aload_n (o := 100) (pc' := 3047) d_Law_law_3046 rfl rfl ?_
  refine VL.arg (i := i) (pc' := 3053) d_Law_law_3047 d_Law_law_3048 d_Law_law_3050 d_Law_law_3051 d_Law_law_3052 rfl rfl rfl hL1 (by decide) hi ?_
  refine VE.callV (ci := 11) (T := T11) (N := 94) (pc' := 3056) d_Law_law_3053 rfl sp2 rfl mv_Model_recordKind.1 mv_Model_recordKind.2.1 rfl mv_Model_recordKind.2.2.1 mv_Model_recordKind.2.2.2 lk_Law_307 rfl (hL1.1.1.k rfl) rfl rfl rfl (by show cs + k9 + 0 ≤ 603072; omega) (by show ns + n9 + 0 ≤ 7207018; omega) (fun r2 K2 P2 J2 I2 hz2 => ?_)
  obtain ⟨b, er2, -, -, h93, hb, hN⟩ := hq2 _ _ _ _ _ hz2
  injection er2 with er2
  subst er2
  exact law_tail d_Law_law_3056 d_Law_law_3058 d_Law_law_3059 d_Law_law_3062 d_Law_law_3064 d_Law_law_3069 d_Law_law_3071 d_Law_law_3074 d_Law_law_3075 d_Law_law_3076 d_Law_law_3077 d_Law_law_3079 d_Law_law_3080 d_Law_law_3081 d_Law_law_3086 (by decide) hN.1 h93 hb (by show cs + k9 ≤ 603072 ∧ ns + n9 ≤ 7207018; omega) (nx _ _ _ _ (cs + k9) (ns + n9) (by omega) (hN.mono (by omega) (by omega)))
theorem walk_recordOf (h : LI c Lg xs K P J I cs ns) (c6 : 6 * c ≤ i) (hi : (0 ≤ i ∧ i + 6 ≤ Lg) ∧ Lg ≤ 3072) (nx : ∀ K P J I cs ns, (cs ≤ 603072 ∧ ns ≤ 7207018) → LI (c + 1) Lg xs K P J I cs ns → VL Q K P J I cs ns 3229 (Lw i) []) : VL Q K P J I cs ns 3089 (Lw i) [] := by
  refine VE.aload_n (o := 1000) (pc' := 3090) d_Law_law_3089 rfl rfl ?_
  refine VL.arg (i := i) (pc' := 3096) d_Law_law_3090 d_Law_law_3091 d_Law_law_3093 d_Law_law_3094 d_Law_law_3095 rfl rfl rfl h.1 (by decide) hi ?_
  refine VE.aload_n (o := 50) (pc' := 3097) d_Law_law_3096 rfl rfl ?_
  obtain ⟨hc, Qc, sp, hq⟩ := case_recordOf (p1 := xs (i + 1)) h (by omega)
  refine VE.callSWE (k := 3) (pc' := 3100) d_Law_law_3097 rfl sp.lim rfl rfl cd_Law_recordOf kw_initialized_RowForgeLaw (by decide) (by decide) (by decide +kernel) rfl st_Law_recordOf lk_Law_308 rfl rfl rfl (by show cs + (603072 - cs) ≤ 603072; omega) (by show ns + (7207018 - ns) ≤ 7207018; omega) (fun k9 n9 r K1 P1 J1 I1 hz => ?_)
  obtain ⟨hk9, k0, n0, kk0, nn0, hz⟩ := hz
  have hk : k9 ≤ 603072 - cs ∧ n9 ≤ 7207018 - ns := hk9
  refine VE.wf (fun wf => ?_)
  obtain ⟨kc, er, hL1, Q2, sp2, hq2⟩ := hq r K1 P1 J1 I1 k0 n0 hz wf
  subst er
  refine VE.istore (pc' := 3102) d_Law_law_3100 rfl rfl ?_
  refine VE.pick [0, 1, 2, 3, 4, 5] ?_
  refine VE.aload_n (o := 100) (pc' := 3103) d_Law_law_3102 rfl rfl ?_
  refine VL.arg (i := i) (pc' := 3109) d_Law_law_3103 d_Law_law_3104 d_Law_law_3106 d_Law_law_3107 d_Law_law_3108 rfl rfl rfl hL1 (by decide) hi ?_
  refine VE.callV (ci := 11) (T := T11) (N := 94) (pc' := 3112) d_Law_law_3109 rfl sp2 rfl mv_Model_recordOf.1 mv_Model_recordOf.2.1 rfl mv_Model_recordOf.2.2.1 mv_Model_recordOf.2.2.2 lk_Law_310 rfl (hL1.1.1.k rfl) rfl rfl rfl (by show cs + k9 + 0 ≤ 603072; omega) (by show ns + n9 + 0 ≤ 7207018; omega) (fun r2 K2 P2 J2 I2 hz2 => ?_)
  obtain ⟨b, er2, -, -, h93, hb, hN⟩ := hq2 _ _ _ _ _ hz2
  injection er2 with er2
  subst er2
  exact law_tail d_Law_law_3112 d_Law_law_3114 d_Law_law_3115 d_Law_law_3118 d_Law_law_3120 d_Law_law_3125 d_Law_law_3127 d_Law_law_3130 d_Law_law_3131 d_Law_law_3132 d_Law_law_3133 d_Law_law_3135 d_Law_law_3136 d_Law_law_3137 d_Law_law_3142 (by decide) hN.1 h93 hb (by show cs + k9 ≤ 603072 ∧ ns + n9 ≤ 7207018; omega) (nx _ _ _ _ (cs + k9) (ns + n9) (by omega) (hN.mono (by omega) (by omega)))
theorem walk_recordAt (h : LI c Lg xs K P J I cs ns) (c6 : 6 * c ≤ i) (hi : (0 ≤ i ∧ i + 6 ≤ Lg) ∧ Lg ≤ 3072) (nx : ∀ K P J I cs ns, (cs ≤ 603072 ∧ ns ≤ 7207018) → LI (c + 1) Lg xs K P J I cs ns → VL Q K P J I cs ns 3229 (Lw i) []) : VL Q K P J I cs ns 3145 (Lw i) [] := by
  refine VE.aload_n (o := 1000) (pc' := 3146) d_Law_law_3145 rfl rfl ?_
  refine VL.arg (i := i) (pc' := 3152) d_Law_law_3146 d_Law_law_3147 d_Law_law_3149 d_Law_law_3150 d_Law_law_3151 rfl rfl rfl h.1 (by decide) hi ?_
  refine VL.arg (i := i) (pc' := 3158) d_Law_law_3152 d_Law_law_3153 d_Law_law_3155 d_Law_law_3156 d_Law_law_3157 rfl rfl rfl h.1 (by decide) hi ?_
  refine VL.barg (pc' := 3166) d_Law_law_3158 d_Law_law_3161 d_Law_law_3162 d_Law_law_3165 rfl ?_
  refine VE.aload_n (o := 50) (pc' := 3167) d_Law_law_3166 rfl rfl ?_
  obtain ⟨hc, Qc, sp, hq⟩ := case_recordAt (p1 := xs (i + 1)) (p2 := bz (xs (i + 2))) h (by omega)
  refine VE.callSWE (k := 4) (pc' := 3170) d_Law_law_3167 rfl sp.lim rfl rfl cd_Law_recordAt kw_initialized_RowForgeLaw (by decide) (by decide) (by decide +kernel) rfl st_Law_recordAt lk_Law_311 rfl rfl rfl (by show cs + (603072 - cs) ≤ 603072; omega) (by show ns + (7207018 - ns) ≤ 7207018; omega) (fun k9 n9 r K1 P1 J1 I1 hz => ?_)
  obtain ⟨hk9, k0, n0, kk0, nn0, hz⟩ := hz
  have hk : k9 ≤ 603072 - cs ∧ n9 ≤ 7207018 - ns := hk9
  refine VE.wf (fun wf => ?_)
  obtain ⟨kc, er, hL1, Q2, sp2, hq2⟩ := hq r K1 P1 J1 I1 k0 n0 hz wf
  subst er
  refine VE.istore (pc' := 3172) d_Law_law_3170 rfl rfl ?_
  refine VE.pick [0, 1, 2, 3, 4, 5] ?_
  refine VE.aload_n (o := 100) (pc' := 3173) d_Law_law_3172 rfl rfl ?_
  refine VL.arg (i := i) (pc' := 3179) d_Law_law_3173 d_Law_law_3174 d_Law_law_3176 d_Law_law_3177 d_Law_law_3178 rfl rfl rfl hL1 (by decide) hi ?_
  refine VL.arg (i := i) (pc' := 3185) d_Law_law_3179 d_Law_law_3180 d_Law_law_3182 d_Law_law_3183 d_Law_law_3184 rfl rfl rfl hL1 (by decide) hi ?_
  refine VL.barg (pc' := 3193) d_Law_law_3185 d_Law_law_3188 d_Law_law_3189 d_Law_law_3192 rfl ?_
  refine VE.callV (ci := 11) (T := T11) (N := 94) (pc' := 3196) d_Law_law_3193 rfl sp2 rfl mv_Model_recordAt.1 mv_Model_recordAt.2.1 rfl mv_Model_recordAt.2.2.1 mv_Model_recordAt.2.2.2 lk_Law_314 rfl (hL1.1.1.k rfl) rfl rfl rfl (by show cs + k9 + 0 ≤ 603072; omega) (by show ns + n9 + 0 ≤ 7207018; omega) (fun r2 K2 P2 J2 I2 hz2 => ?_)
  obtain ⟨b, er2, -, -, h93, hb, hN⟩ := hq2 _ _ _ _ _ hz2
  injection er2 with er2
  subst er2
  exact law_tail d_Law_law_3196 d_Law_law_3198 d_Law_law_3199 d_Law_law_3202 d_Law_law_3204 d_Law_law_3209 d_Law_law_3211 d_Law_law_3214 d_Law_law_3215 d_Law_law_3216 d_Law_law_3217 d_Law_law_3219 d_Law_law_3220 d_Law_law_3221 d_Law_law_3226 (by decide) hN.1 h93 hb (by show cs + k9 ≤ 603072 ∧ ns + n9 ≤ 7207018; omega) (nx _ _ _ _ (cs + k9) (ns + n9) (by omega) (hN.mono (by omega) (by omega)))
end
