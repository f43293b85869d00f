/-! the law's walk: keep group combine scrap query run at atByLoops -/
section
variable {Q : PE} {K : KT} {P : PT} {J I : IT} {c cs ns Lg : Nat} {i : Int} {xs : Int → Int}
theorem walk_keep (h : LI c Lg xs K P J I cs ns) (c6 : 6 * c ≤ i) (hi : (0 ≤ i ∧ i + 6 ≤ Lg) ∧ Lg ≤ 3072) (nx : ∀ K P J I cs ns, (cs ≤ 603072 ∧ ns ≤ 7207018) → LI (c + 1) Lg xs K P J I cs ns → VL Q K P J I cs ns 3229 (Lw i) []) : VL Q K P J I cs ns 2039 (Lw i) [] := by
  refine VE.wf (fun wf0 => ?_)
  refine VE.aload_n (o := 1000) (pc' := 2040) d_Law_law_2039 rfl rfl ?_
  refine VL.arg (i := i) (pc' := 2046) d_Law_law_2040 d_Law_law_2041 d_Law_law_2043 d_Law_law_2044 d_Law_law_2045 rfl rfl rfl h.1 (by decide) hi ?_
  refine VE.aload_n (o := 50) (pc' := 2047) d_Law_law_2046 rfl rfl ?_
  obtain ⟨hc, Qc, sp, hq⟩ := case_keep (p1 := xs (i + 1)) h (by omega) (by have u := wf_in (o := 49) (z := i + 1) wf0; rw [h.1.2.2.2.2] at u; exact u)
  refine VE.callSWE (k := 3) (pc' := 2050) d_Law_law_2047 rfl sp.lim rfl rfl cd_Law_keep kw_initialized_RowForgeLaw (by decide) (by decide) (by decide +kernel) rfl st_Law_keep lk_Law_238 rfl rfl rfl (by show cs + (603072 - cs) ≤ 603072; omega) (by show ns + (7207018 - ns) ≤ 7207018; omega) (fun k9 n9 r K1 P1 J1 I1 hz => ?_)
  obtain ⟨hk9, k0, n0, kk0, nn0, hz⟩ := hz
  have hk : k9 ≤ 603072 - cs ∧ n9 ≤ 7207018 - ns := hk9
  refine VE.wf (fun wf => ?_)
  obtain ⟨kc, er, hL1, Q2, sp2, hq2⟩ := hq r K1 P1 J1 I1 k0 n0 hz wf
  subst er
  refine VE.istore (pc' := 2052) d_Law_law_2050 rfl rfl ?_
  refine VE.pick [0, 1, 2, 3, 4, 5] ?_
  refine VE.aload_n (o := 100) (pc' := 2053) d_Law_law_2052 rfl rfl ?_
  refine VL.arg (i := i) (pc' := 2059) d_Law_law_2053 d_Law_law_2054 d_Law_law_2056 d_Law_law_2057 d_Law_law_2058 rfl rfl rfl hL1 (by decide) hi ?_
  refine VE.callV (ci := 11) (T := T11) (N := 94) (pc' := 2062) d_Law_law_2059 rfl sp2 rfl mv_Model_keep.1 mv_Model_keep.2.1 rfl mv_Model_keep.2.2.1 mv_Model_keep.2.2.2 lk_Law_240 rfl (hL1.1.1.k rfl) rfl rfl rfl (by show cs + k9 + 0 ≤ 603072; omega) (by show ns + n9 + 0 ≤ 7207018; omega) (fun r2 K2 P2 J2 I2 hz2 => ?_)
  obtain ⟨b, er2, -, -, h93, hb, hN⟩ := hq2 _ _ _ _ _ hz2
  injection er2 with er2
  subst er2
  exact law_tail d_Law_law_2062 d_Law_law_2064 d_Law_law_2065 d_Law_law_2068 d_Law_law_2070 d_Law_law_2075 d_Law_law_2077 d_Law_law_2080 d_Law_law_2081 d_Law_law_2082 d_Law_law_2083 d_Law_law_2085 d_Law_law_2086 d_Law_law_2087 d_Law_law_2092 (by decide) hN.1 h93 hb (by show cs + k9 ≤ 603072 ∧ ns + n9 ≤ 7207018; omega) (nx _ _ _ _ (cs + k9) (ns + n9) (by omega) (hN.mono (by omega) (by omega)))
theorem walk_group (h : LI c Lg xs K P J I cs ns) (c6 : 6 * c ≤ i) (hi : (0 ≤ i ∧ i + 6 ≤ Lg) ∧ Lg ≤ 3072) (nx : ∀ K P J I cs ns, (cs ≤ 603072 ∧ ns ≤ 7207018) → LI (c + 1) Lg xs K P J I cs ns → VL Q K P J I cs ns 3229 (Lw i) []) : VL Q K P J I cs ns 2095 (Lw i) [] := by
  refine VE.aload_n (o := 1000) (pc' := 2096) d_Law_law_2095 rfl rfl ?_
  refine VL.arg (i := i) (pc' := 2102) d_Law_law_2096 d_Law_law_2097 d_Law_law_2099 d_Law_law_2100 d_Law_law_2101 rfl rfl rfl h.1 (by decide) hi ?_
  refine VL.arg (i := i) (pc' := 2108) d_Law_law_2102 d_Law_law_2103 d_Law_law_2105 d_Law_law_2106 d_Law_law_2107 rfl rfl rfl h.1 (by decide) hi ?_
  refine VL.arg (i := i) (pc' := 2114) d_Law_law_2108 d_Law_law_2109 d_Law_law_2111 d_Law_law_2112 d_Law_law_2113 rfl rfl rfl h.1 (by decide) hi ?_
  refine VE.aload_n (o := 50) (pc' := 2115) d_Law_law_2114 rfl rfl ?_
  obtain ⟨hc, Qc, sp, hq⟩ := case_group (p1 := xs (i + 1)) (p2 := xs (i + 2)) (p3 := xs (i + 3)) h (by omega)
  refine VE.callSWE (k := 5) (pc' := 2118) d_Law_law_2115 rfl sp.lim rfl rfl cd_Law_group kw_initialized_RowForgeLaw (by decide) (by decide) (by decide +kernel) rfl st_Law_group lk_Law_241 rfl rfl rfl (by show cs + (603072 - cs) ≤ 603072; omega) (by show ns + (7207018 - ns) ≤ 7207018; omega) (fun k9 n9 r K1 P1 J1 I1 hz => ?_)
  obtain ⟨hk9, k0, n0, kk0, nn0, hz⟩ := hz
  have hk : k9 ≤ 603072 - cs ∧ n9 ≤ 7207018 - ns := hk9
  refine VE.wf (fun wf => ?_)
  obtain ⟨kc, er, hL1, Q2, sp2, hq2⟩ := hq r K1 P1 J1 I1 k0 n0 hz wf
  subst er
  refine VE.istore (pc' := 2120) d_Law_law_2118 rfl rfl ?_
  refine VE.pick [0, 1, 2, 3, 4, 5] ?_
  refine VE.aload_n (o := 100) (pc' := 2121) d_Law_law_2120 rfl rfl ?_
  refine VL.arg (i := i) (pc' := 2127) d_Law_law_2121 d_Law_law_2122 d_Law_law_2124 d_Law_law_2125 d_Law_law_2126 rfl rfl rfl hL1 (by decide) hi ?_
  refine VL.arg (i := i) (pc' := 2133) d_Law_law_2127 d_Law_law_2128 d_Law_law_2130 d_Law_law_2131 d_Law_law_2132 rfl rfl rfl hL1 (by decide) hi ?_
  refine VL.arg (i := i) (pc' := 2139) d_Law_law_2133 d_Law_law_2134 d_Law_law_2136 d_Law_law_2137 d_Law_law_2138 rfl rfl rfl hL1 (by decide) hi ?_
  refine VE.callV (ci := 11) (T := T11) (N := 94) (pc' := 2142) d_Law_law_2139 rfl sp2 rfl mv_Model_group.1 mv_Model_group.2.1 rfl mv_Model_group.2.2.1 mv_Model_group.2.2.2 lk_Law_243 rfl (hL1.1.1.k rfl) rfl rfl rfl (by show cs + k9 + 0 ≤ 603072; omega) (by show ns + n9 + 0 ≤ 7207018; omega) (fun r2 K2 P2 J2 I2 hz2 => ?_)
  obtain ⟨b, er2, -, -, h93, hb, hN⟩ := hq2 _ _ _ _ _ hz2
  injection er2 with er2
  subst er2
  exact law_tail d_Law_law_2142 d_Law_law_2144 d_Law_law_2145 d_Law_law_2148 d_Law_law_2150 d_Law_law_2155 d_Law_law_2157 d_Law_law_2160 d_Law_law_2161 d_Law_law_2162 d_Law_law_2163 d_Law_law_2165 d_Law_law_2166 d_Law_law_2167 d_Law_law_2172 (by decide) hN.1 h93 hb (by show cs + k9 ≤ 603072 ∧ ns + n9 ≤ 7207018; omega) (nx _ _ _ _ (cs + k9) (ns + n9) (by omega) (hN.mono (by omega) (by omega)))
theorem walk_combine (h : LI c Lg xs K P J I cs ns) (c6 : 6 * c ≤ i) (hi : (0 ≤ i ∧ i + 6 ≤ Lg) ∧ Lg ≤ 3072) (nx : ∀ K P J I cs ns, (cs ≤ 603072 ∧ ns ≤ 7207018) → LI (c + 1) Lg xs K P J I cs ns → VL Q K P J I cs ns 3229 (Lw i) []) : VL Q K P J I cs ns 2175 (Lw i) [] := by
  refine VE.aload_n (o := 1000) (pc' := 2176) d_Law_law_2175 rfl rfl ?_
  refine VL.arg (i := i) (pc' := 2182) d_Law_law_2176 d_Law_law_2177 d_Law_law_2179 d_Law_law_2180 d_Law_law_2181 rfl rfl rfl h.1 (by decide) hi ?_
  refine VE.aload_n (o := 50) (pc' := 2183) d_Law_law_2182 rfl rfl ?_
  obtain ⟨hc, Qc, sp, hq⟩ := case_combine (p1 := xs (i + 1)) h (by omega)
  refine VE.callSWE (k := 3) (pc' := 2186) d_Law_law_2183 rfl sp.lim rfl rfl cd_Law_combine kw_initialized_RowForgeLaw (by decide) (by decide) (by decide +kernel) rfl st_Law_combine lk_Law_244 rfl rfl rfl (by show cs + (603072 - cs) ≤ 603072; omega) (by show ns + (7207018 - ns) ≤ 7207018; omega) (fun k9 n9 r K1 P1 J1 I1 hz => ?_)
  obtain ⟨hk9, k0, n0, kk0, nn0, hz⟩ := hz
  have hk : k9 ≤ 603072 - cs ∧ n9 ≤ 7207018 - ns := hk9
  refine VE.wf (fun wf => ?_)
  obtain ⟨kc, er, hL1, Q2, sp2, hq2⟩ := hq r K1 P1 J1 I1 k0 n0 hz wf
  subst er
  refine VE.istore (pc' := 2188) d_Law_law_2186 rfl rfl ?_
  refine VE.pick [0, 1, 2, 3, 4, 5] ?_
  refine VE.aload_n (o := 100) (pc' := 2189) d_Law_law_2188 rfl rfl ?_
  refine VL.arg (i := i) (pc' := 2195) d_Law_law_2189 d_Law_law_2190 d_Law_law_2192 d_Law_law_2193 d_Law_law_2194 rfl rfl rfl hL1 (by decide) hi ?_
  refine VE.callV (ci := 11) (T := T11) (N := 94) (pc' := 2198) d_Law_law_2195 rfl sp2 rfl mv_Model_combine.1 mv_Model_combine.2.1 rfl mv_Model_combine.2.2.1 mv_Model_combine.2.2.2 lk_Law_246 rfl (hL1.1.1.k rfl) rfl rfl rfl (by show cs + k9 + 0 ≤ 603072; omega) (by show ns + n9 + 0 ≤ 7207018; omega) (fun r2 K2 P2 J2 I2 hz2 => ?_)
  obtain ⟨b, er2, -, -, h93, hb, hN⟩ := hq2 _ _ _ _ _ hz2
  injection er2 with er2
  subst er2
  exact law_tail d_Law_law_2198 d_Law_law_2200 d_Law_law_2201 d_Law_law_2204 d_Law_law_2206 d_Law_law_2211 d_Law_law_2213 d_Law_law_2216 d_Law_law_2217 d_Law_law_2218 d_Law_law_2219 d_Law_law_2221 d_Law_law_2222 d_Law_law_2223 d_Law_law_2228 (by decide) hN.1 h93 hb (by show cs + k9 ≤ 603072 ∧ ns + n9 ≤ 7207018; omega) (nx _ _ _ _ (cs + k9) (ns + n9) (by omega) (hN.mono (by omega) (by omega)))
theorem walk_scrap (h : LI c Lg xs K P J I cs ns) (c6 : 6 * c ≤ i) (hi : (0 ≤ i ∧ i + 6 ≤ Lg) ∧ Lg ≤ 3072) (nx : ∀ K P J I cs ns, (cs ≤ 603072 ∧ ns ≤ 7207018) → LI (c + 1) Lg xs K P J I cs ns → VL Q K P J I cs ns 3229 (Lw i) []) : VL Q K P J I cs ns 2231 (Lw i) [] := by
  refine VE.aload_n (o := 1000) (pc' := 2232) d_Law_law_2231 rfl rfl ?_
  obtain ⟨hc, Qc, sp, hq⟩ := case_scrap h (by omega)
  refine VE.callVE (ci := 10) (T := T10) (N := 11) (pc' := 2235) d_Law_law_2232 rfl sp.lim rfl mv_F_scrap.1 mv_F_scrap.2.1 rfl mv_F_scrap.2.2.1 mv_F_scrap.2.2.2 lk_Law_247 rfl h.k1000.1 rfl rfl rfl (by show cs + (603072 - cs) ≤ 603072; omega) (by show ns + (7207018 - ns) ≤ 7207018; omega) (fun k9 n9 r K1 P1 J1 I1 hz => ?_)
  obtain ⟨hk9, k0, n0, kk0, nn0, hz⟩ := hz
  have hk : k9 ≤ 603072 - cs ∧ n9 ≤ 7207018 - ns := hk9
  refine VE.wf (fun wf => ?_)
  obtain ⟨b, er, hL1, Q2, sp2, hq2⟩ := hq r K1 P1 J1 I1 k0 n0 hz wf
  subst er
  refine VE.aload_n (o := 100) (pc' := 2236) d_Law_law_2235 rfl rfl ?_
  refine VE.callV (ci := 11) (T := T11) (N := 94) (pc' := 2239) d_Law_law_2236 rfl sp2 rfl mv_Model_scrap.1 mv_Model_scrap.2.1 rfl mv_Model_scrap.2.2.1 mv_Model_scrap.2.2.2 lk_Law_250 rfl (hL1.1.1.k rfl) rfl rfl rfl (by show cs + k9 + 0 ≤ 603072; omega) (by show ns + n9 + 0 ≤ 7207018; omega) (fun r2 K2 P2 J2 I2 hz2 => ?_)
  obtain ⟨er2, -, -, -, hN⟩ := hq2 _ _ _ _ _ hz2
  injection er2 with er2
  subst er2
  refine VE.icmp_eq (tgt := 3229) (pc' := 2242) d_Law_law_2239 (by decide) rfl (fun _ => ?_) (fun e => absurd rfl e)
  exact nx _ _ _ _ (cs + k9) (ns + n9) (by omega) (hN.mono (by omega) (by omega))
theorem walk_query (h : LI c Lg xs K P J I cs ns) (c6 : 6 * c ≤ i) (hi : (0 ≤ i ∧ i + 6 ≤ Lg) ∧ Lg ≤ 3072) (nx : ∀ K P J I cs ns, (cs ≤ 603072 ∧ ns ≤ 7207018) → LI (c + 1) Lg xs K P J I cs ns → VL Q K P J I cs ns 3229 (Lw i) []) : VL Q K P J I cs ns 2244 (Lw i) [] := by
  refine VE.aload_n (o := 1000) (pc' := 2245) d_Law_law_2244 rfl rfl ?_
  refine VE.aload_n (o := 50) (pc' := 2246) d_Law_law_2245 rfl rfl ?_
  obtain ⟨hc, Qc, sp, hq⟩ := case_query  h (by omega)
  refine VE.callSWE (k := 2) (pc' := 2249) d_Law_law_2246 rfl sp.lim rfl rfl cd_Law_query kw_initialized_RowForgeLaw (by decide) (by decide) (by decide +kernel) rfl st_Law_query lk_Law_251 rfl rfl rfl (by show cs + (603072 - cs) ≤ 603072; omega) (by show ns + (7207018 - ns) ≤ 7207018; omega) (fun k9 n9 r K1 P1 J1 I1 hz => ?_)
  obtain ⟨hk9, k0, n0, kk0, nn0, hz⟩ := hz
  have hk : k9 ≤ 603072 - cs ∧ n9 ≤ 7207018 - ns := hk9
  refine VE.wf (fun wf => ?_)
  obtain ⟨kc, er, hL1, Q2, sp2, hq2⟩ := hq r K1 P1 J1 I1 k0 n0 hz wf
  subst er
  refine VE.istore (pc' := 2251) d_Law_law_2249 rfl rfl ?_
  refine VE.pick [0, 1, 2, 3, 4, 5] ?_
  refine VE.aload_n (o := 100) (pc' := 2252) d_Law_law_2251 rfl rfl ?_
  refine VE.callV (ci := 11) (T := T11) (N := 94) (pc' := 2255) d_Law_law_2252 rfl sp2 rfl mv_Model_query.1 mv_Model_query.2.1 rfl mv_Model_query.2.2.1 mv_Model_query.2.2.2 lk_Law_254 rfl (hL1.1.1.k rfl) rfl rfl rfl (by show cs + k9 + 0 ≤ 603072; omega) (by show ns + n9 + 0 ≤ 7207018; omega) (fun r2 K2 P2 J2 I2 hz2 => ?_)
  obtain ⟨b, er2, -, -, h93, hb, hN⟩ := hq2 _ _ _ _ _ hz2
  injection er2 with er2
  subst er2
  exact law_tail d_Law_law_2255 d_Law_law_2257 d_Law_law_2258 d_Law_law_2261 d_Law_law_2263 d_Law_law_2268 d_Law_law_2270 d_Law_law_2273 d_Law_law_2274 d_Law_law_2275 d_Law_law_2276 d_Law_law_2278 d_Law_law_2279 d_Law_law_2280 d_Law_law_2285 (by decide) hN.1 h93 hb (by show cs + k9 ≤ 603072 ∧ ns + n9 ≤ 7207018; omega) (nx _ _ _ _ (cs + k9) (ns + n9) (by omega) (hN.mono (by omega) (by omega)))
theorem walk_run (h : LI c Lg xs K P J I cs ns) (c6 : 6 * c ≤ i) (hi : (0 ≤ i ∧ i + 6 ≤ Lg) ∧ Lg ≤ 3072) (nx : ∀ K P J I cs ns, (cs ≤ 603072 ∧ ns ≤ 7207018) → LI (c + 1) Lg xs K P J I cs ns → VL Q K P J I cs ns 3229 (Lw i) []) : VL Q K P J I cs ns 2288 (Lw i) [] := by
  refine VE.aload_n (o := 1000) (pc' := 2289) d_Law_law_2288 rfl rfl ?_
  refine VL.arg (i := i) (pc' := 2295) d_Law_law_2289 d_Law_law_2290 d_Law_law_2292 d_Law_law_2293 d_Law_law_2294 rfl rfl rfl h.1 (by decide) hi ?_
  refine VL.arg (i := i) (pc' := 2301) d_Law_law_2295 d_Law_law_2296 d_Law_law_2298 d_Law_law_2299 d_Law_law_2300 rfl rfl rfl h.1 (by decide) hi ?_
  refine VE.aload_n (o := 50) (pc' := 2302) d_Law_law_2301 rfl rfl ?_
  obtain ⟨hc, Qc, sp, hq⟩ := case_run (p1 := xs (i + 1)) (p2 := xs (i + 2)) h (by omega)
  refine VE.callSWE (k := 4) (pc' := 2305) d_Law_law_2302 rfl sp.lim rfl rfl cd_Law_run kw_initialized_RowForgeLaw (by decide) (by decide) (by decide +kernel) rfl st_Law_run lk_Law_255 rfl rfl rfl (by show cs + (603072 - cs) ≤ 603072; omega) (by show ns + (7207018 - ns) ≤ 7207018; omega) (fun k9 n9 r K1 P1 J1 I1 hz => ?_)
  obtain ⟨hk9, k0, n0, kk0, nn0, hz⟩ := hz
  have hk : k9 ≤ 603072 - cs ∧ n9 ≤ 7207018 - ns := hk9
  refine VE.wf (fun wf => ?_)
  obtain ⟨kc, er, hL1, Q2, sp2, hq2⟩ := hq r K1 P1 J1 I1 k0 n0 hz wf
  subst er
  refine VE.istore (pc' := 2307) d_Law_law_2305 rfl rfl ?_
  refine VE.pick [0, 1, 2, 3, 4, 5] ?_
  refine VE.aload_n (o := 100) (pc' := 2308) d_Law_law_2307 rfl rfl ?_
  refine VL.arg (i := i) (pc' := 2314) d_Law_law_2308 d_Law_law_2309 d_Law_law_2311 d_Law_law_2312 d_Law_law_2313 rfl rfl rfl hL1 (by decide) hi ?_
  refine VL.arg (i := i) (pc' := 2320) d_Law_law_2314 d_Law_law_2315 d_Law_law_2317 d_Law_law_2318 d_Law_law_2319 rfl rfl rfl hL1 (by decide) hi ?_
  refine VE.callV (ci := 11) (T := T11) (N := 94) (pc' := 2323) d_Law_law_2320 rfl sp2 rfl mv_Model_run.1 mv_Model_run.2.1 rfl mv_Model_run.2.2.1 mv_Model_run.2.2.2 lk_Law_257 rfl (hL1.1.1.k rfl) rfl rfl rfl (by show cs + k9 + 0 ≤ 603072; omega) (by show ns + n9 + 0 ≤ 7207018; omega) (fun r2 K2 P2 J2 I2 hz2 => ?_)
  obtain ⟨b, er2, -, -, h93, hb, hN⟩ := hq2 _ _ _ _ _ hz2
  injection er2 with er2
  subst er2
  exact law_tail d_Law_law_2323 d_Law_law_2325 d_Law_law_2326 d_Law_law_2329 d_Law_law_2331 d_Law_law_2336 d_Law_law_2338 d_Law_law_2341 d_Law_law_2342 d_Law_law_2343 d_Law_law_2344 d_Law_law_2346 d_Law_law_2347 d_Law_law_2348 d_Law_law_2353 (by decide) hN.1 h93 hb (by show cs + k9 ≤ 603072 ∧ ns + n9 ≤ 7207018; omega) (nx _ _ _ _ (cs + k9) (ns + n9) (by omega) (hN.mono (by omega) (by omega)))
theorem walk_at (h : LI c Lg xs K P J I cs ns) (c6 : 6 * c ≤ i) (hi : (0 ≤ i ∧ i + 6 ≤ Lg) ∧ Lg ≤ 3072) (nx : ∀ K P J I cs ns, (cs ≤ 603072 ∧ ns ≤ 7207018) → LI (c + 1) Lg xs K P J I cs ns → VL Q K P J I cs ns 3229 (Lw i) []) : VL Q K P J I cs ns 2356 (Lw i) [] := by
  refine VE.aload_n (o := 1000) (pc' := 2357) d_Law_law_2356 rfl rfl ?_
  refine VL.arg (i := i) (pc' := 2363) d_Law_law_2357 d_Law_law_2358 d_Law_law_2360 d_Law_law_2361 d_Law_law_2362 rfl rfl rfl h.1 (by decide) hi ?_
  refine VL.arg (i := i) (pc' := 2369) d_Law_law_2363 d_Law_law_2364 d_Law_law_2366 d_Law_law_2367 d_Law_law_2368 rfl rfl rfl h.1 (by decide) hi ?_
  refine VE.aload_n (o := 50) (pc' := 2370) d_Law_law_2369 rfl rfl ?_
  obtain ⟨hc, Qc, sp, hq⟩ := case_at (p1 := xs (i + 1)) (p2 := xs (i + 2)) h (by omega)
  refine VE.callSWE (k := 4) (pc' := 2373) d_Law_law_2370 rfl sp.lim rfl rfl cd_Law_at kw_initialized_RowForgeLaw (by decide) (by decide) (by decide +kernel) rfl st_Law_at lk_Law_258 rfl rfl rfl (by show cs + (603072 - cs) ≤ 603072; omega) (by show ns + (7207018 - ns) ≤ 7207018; omega) (fun k9 n9 r K1 P1 J1 I1 hz => ?_)
  obtain ⟨hk9, k0, n0, kk0, nn0, hz⟩ := hz
  have hk : k9 ≤ 603072 - cs ∧ n9 ≤ 7207018 - ns := hk9
  refine VE.wf (fun wf => ?_)
  obtain ⟨kc, er, hL1, Q2, sp2, hq2⟩ := hq r K1 P1 J1 I1 k0 n0 hz wf
  subst er
  refine VE.istore (pc' := 2375) d_Law_law_2373 rfl rfl ?_
  refine VE.pick [0, 1, 2, 3, 4, 5] ?_
  refine VE.aload_n (o := 100) (pc' := 2376) d_Law_law_2375 rfl rfl ?_
  refine VL.arg (i := i) (pc' := 2382) d_Law_law_2376 d_Law_law_2377 d_Law_law_2379 d_Law_law_2380 d_Law_law_2381 rfl rfl rfl hL1 (by decide) hi ?_
  refine VL.arg (i := i) (pc' := 2388) d_Law_law_2382 d_Law_law_2383 d_Law_law_2385 d_Law_law_2386 d_Law_law_2387 rfl rfl rfl hL1 (by decide) hi ?_
  refine VE.callV (ci := 11) (T := T11) (N := 94) (pc' := 2391) d_Law_law_2388 rfl sp2 rfl mv_Model_at.1 mv_Model_at.2.1 rfl mv_Model_at.2.2.1 mv_Model_at.2.2.2 lk_Law_260 rfl (hL1.1.1.k rfl) rfl rfl rfl (by show cs + k9 + 0 ≤ 603072; omega) (by show ns + n9 + 0 ≤ 7207018; omega) (fun r2 K2 P2 J2 I2 hz2 => ?_)
  obtain ⟨b, er2, -, -, h93, hb, hN⟩ := hq2 _ _ _ _ _ hz2
  injection er2 with er2
  subst er2
  exact law_tail d_Law_law_2391 d_Law_law_2393 d_Law_law_2394 d_Law_law_2397 d_Law_law_2399 d_Law_law_2404 d_Law_law_2406 d_Law_law_2409 d_Law_law_2410 d_Law_law_2411 d_Law_law_2412 d_Law_law_2414 d_Law_law_2415 d_Law_law_2416 d_Law_law_2421 (by decide) hN.1 h93 hb (by show cs + k9 ≤ 603072 ∧ ns + n9 ≤ 7207018; omega) (nx _ _ _ _ (cs + k9) (ns + n9) (by omega) (hN.mono (by omega) (by omega)))
theorem walk_atByLoops (h : LI c Lg xs K P J I cs ns) (c6 : 6 * c ≤ i) (hi : (0 ≤ i ∧ i + 6 ≤ Lg) ∧ Lg ≤ 3072) (nx : ∀ K P J I cs ns, (cs ≤ 603072 ∧ ns ≤ 7207018) → LI (c + 1) Lg xs K P J I cs ns → VL Q K P J I cs ns 3229 (Lw i) []) : VL Q K P J I cs ns 2424 (Lw i) [] := by
  refine VE.aload_n (o := 1000) (pc' := 2425) d_Law_law_2424 rfl rfl ?_
  refine VL.arg (i := i) (pc' := 2431) d_Law_law_2425 d_Law_law_2426 d_Law_law_2428 d_Law_law_2429 d_Law_law_2430 rfl rfl rfl h.1 (by decide) hi ?_
  refine VL.arg (i := i) (pc' := 2437) d_Law_law_2431 d_Law_law_2432 d_Law_law_2434 d_Law_law_2435 d_Law_law_2436 rfl rfl rfl h.1 (by decide) hi ?_
  refine VL.arg (i := i) (pc' := 2443) d_Law_law_2437 d_Law_law_2438 d_Law_law_2440 d_Law_law_2441 d_Law_law_2442 rfl rfl rfl h.1 (by decide) hi ?_
  refine VL.arg (i := i) (pc' := 2449) d_Law_law_2443 d_Law_law_2444 d_Law_law_2446 d_Law_law_2447 d_Law_law_2448 rfl rfl rfl h.1 (by decide) hi ?_
  refine VE.aload_n (o := 50) (pc' := 2450) d_Law_law_2449 rfl rfl ?_
  obtain ⟨hc, Qc, sp, hq⟩ := case_atByLoops (p1 := xs (i + 1)) (p2 := xs (i + 2)) (p3 := xs (i + 3)) (p4 := xs (i + 4)) h (by omega)
  refine VE.callSWE (k := 6) (pc' := 2453) d_Law_law_2450 rfl sp.lim rfl rfl cd_Law_atByLoops kw_initialized_RowForgeLaw (by decide) (by decide) (by decide +kernel) rfl st_Law_atByLoops lk_Law_261 rfl rfl rfl (by show cs + (603072 - cs) ≤ 603072; omega) (by show ns + (7207018 - ns) ≤ 7207018; omega) (fun k9 n9 r K1 P1 J1 I1 hz => ?_)
  obtain ⟨hk9, k0, n0, kk0, nn0, hz⟩ := hz
  have hk : k9 ≤ 603072 - cs ∧ n9 ≤ 7207018 - ns := hk9
  refine VE.wf (fun wf => ?_)
  obtain ⟨kc, er, hL1, Q2, sp2, hq2⟩ := hq r K1 P1 J1 I1 k0 n0 hz wf
  subst er
  refine VE.istore (pc' := 2455) d_Law_law_2453 rfl rfl ?_
  refine VE.pick [0, 1, 2, 3, 4, 5] ?_
  refine VE.aload_n (o := 100) (pc' := 2456) d_Law_law_2455 rfl rfl ?_
  refine VL.arg (i := i) (pc' := 2462) d_Law_law_2456 d_Law_law_2457 d_Law_law_2459 d_Law_law_2460 d_Law_law_2461 rfl rfl rfl hL1 (by decide) hi ?_
  refine VL.arg (i := i) (pc' := 2468) d_Law_law_2462 d_Law_law_2463 d_Law_law_2465 d_Law_law_2466 d_Law_law_2467 rfl rfl rfl hL1 (by decide) hi ?_
  refine VL.arg (i := i) (pc' := 2474) d_Law_law_2468 d_Law_law_2469 d_Law_law_2471 d_Law_law_2472 d_Law_law_2473 rfl rfl rfl hL1 (by decide) hi ?_
  refine VL.arg (i := i) (pc' := 2480) d_Law_law_2474 d_Law_law_2475 d_Law_law_2477 d_Law_law_2478 d_Law_law_2479 rfl rfl rfl hL1 (by decide) hi ?_
  refine VE.callV (ci := 11) (T := T11) (N := 94) (pc' := 2483) d_Law_law_2480 rfl sp2 rfl mv_Model_atByLoops.1 mv_Model_atByLoops.2.1 rfl mv_Model_atByLoops.2.2.1 mv_Model_atByLoops.2.2.2 lk_Law_263 rfl (hL1.1.1.k rfl) rfl rfl rfl (by show cs + k9 + 0 ≤ 603072; omega) (by show ns + n9 + 0 ≤ 7207018; omega) (fun r2 K2 P2 J2 I2 hz2 => ?_)
  obtain ⟨b, er2, -, -, h93, hb, hN⟩ := hq2 _ _ _ _ _ hz2
  injection er2 with er2
  subst er2
  exact law_tail d_Law_law_2483 d_Law_law_2485 d_Law_law_2486 d_Law_law_2489 d_Law_law_2491 d_Law_law_2496 d_Law_law_2498 d_Law_law_2501 d_Law_law_2502 d_Law_law_2503 d_Law_law_2504 d_Law_law_2506 d_Law_law_2507 d_Law_law_2508 d_Law_law_2513 (by decide) hN.1 h93 hb (by show cs + k9 ≤ 603072 ∧ ns + n9 ≤ 7207018; omega) (nx _ _ _ _ (cs + k9) (ns + n9) (by omega) (hN.mono (by omega) (by omega)))
end
