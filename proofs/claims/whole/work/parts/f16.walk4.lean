/-! the law's walk: analyze prepare planAt planned view viewRows viewAt viewAnew -/
section
variable {Q : PE} {K : KT} {P : PT} {J I : IT} {c cs ns Lg : Nat} {i : Int} {xs : Int → Int}
theorem walk_analyze (h : LI c Lg xs K P J I cs ns) (c6 : 6 * c ≤ i) (hi : (0 ≤ i ∧ i + 6 ≤ Lg) ∧ Lg ≤ 3072) (nx : ∀ K P J I cs ns, (cs ≤ 603072 ∧ ns ≤ 7207018) → LI (c + 1) Lg xs K P J I cs ns → VL Q K P J I cs ns 3229 (Lw i) []) : VL Q K P J I cs ns 2516 (Lw i) [] := by
  refine VE.aload_n (o := 1000) (pc' := 2517) d_Law_law_2516 rfl rfl ?_
  obtain ⟨hc, Qc, sp, hq⟩ := case_analyze h (by omega)
  refine VE.callVE (ci := 10) (T := T10) (N := 11) (pc' := 2520) d_Law_law_2517 rfl sp.lim rfl mv_F_analyze.1 mv_F_analyze.2.1 rfl mv_F_analyze.2.2.1 mv_F_analyze.2.2.2 lk_Law_264 rfl h.k1000.1 rfl rfl rfl (by show cs + (603072 - cs) ≤ 603072; omega) (by show ns + (7207018 - ns) ≤ 7207018; omega) (fun k9 n9 r K1 P1 J1 I1 hz => ?_)
  obtain ⟨hk9, k0, n0, kk0, nn0, hz⟩ := hz
  have hk : k9 ≤ 603072 - cs ∧ n9 ≤ 7207018 - ns := hk9
  refine VE.wf (fun wf => ?_)
  obtain ⟨b, er, hL1, Q2, sp2, hq2⟩ := hq r K1 P1 J1 I1 k0 n0 hz wf
  subst er
  refine VE.aload_n (o := 100) (pc' := 2521) d_Law_law_2520 rfl rfl ?_
  refine VE.callV (ci := 11) (T := T11) (N := 94) (pc' := 2524) d_Law_law_2521 rfl sp2 rfl mv_Model_analyze.1 mv_Model_analyze.2.1 rfl mv_Model_analyze.2.2.1 mv_Model_analyze.2.2.2 lk_Law_267 rfl (hL1.1.1.k rfl) rfl rfl rfl (by show cs + k9 + 0 ≤ 603072; omega) (by show ns + n9 + 0 ≤ 7207018; omega) (fun r2 K2 P2 J2 I2 hz2 => ?_)
  obtain ⟨er2, -, -, -, hN⟩ := hq2 _ _ _ _ _ hz2
  injection er2 with er2
  subst er2
  refine VE.icmp_eq (tgt := 3229) (pc' := 2527) d_Law_law_2524 (by decide) rfl (fun _ => ?_) (fun e => absurd rfl e)
  exact nx _ _ _ _ (cs + k9) (ns + n9) (by omega) (hN.mono (by omega) (by omega))
theorem walk_prepare (h : LI c Lg xs K P J I cs ns) (c6 : 6 * c ≤ i) (hi : (0 ≤ i ∧ i + 6 ≤ Lg) ∧ Lg ≤ 3072) (nx : ∀ K P J I cs ns, (cs ≤ 603072 ∧ ns ≤ 7207018) → LI (c + 1) Lg xs K P J I cs ns → VL Q K P J I cs ns 3229 (Lw i) []) : VL Q K P J I cs ns 2529 (Lw i) [] := by
  refine VE.aload_n (o := 1000) (pc' := 2530) d_Law_law_2529 rfl rfl ?_
  refine VL.arg (i := i) (pc' := 2536) d_Law_law_2530 d_Law_law_2531 d_Law_law_2533 d_Law_law_2534 d_Law_law_2535 rfl rfl rfl h.1 (by decide) hi ?_
  refine VE.aload_n (o := 50) (pc' := 2537) d_Law_law_2536 rfl rfl ?_
  obtain ⟨hc, Qc, sp, hq⟩ := case_prepare (p1 := xs (i + 1)) h (by omega)
  refine VE.callSWE (k := 3) (pc' := 2540) d_Law_law_2537 rfl sp.lim rfl rfl cd_Law_prepare kw_initialized_RowForgeLaw (by decide) (by decide) (by decide +kernel) rfl st_Law_prepare lk_Law_268 rfl rfl rfl (by show cs + (603072 - cs) ≤ 603072; omega) (by show ns + (7207018 - ns) ≤ 7207018; omega) (fun k9 n9 r K1 P1 J1 I1 hz => ?_)
  obtain ⟨hk9, k0, n0, kk0, nn0, hz⟩ := hz
  have hk : k9 ≤ 603072 - cs ∧ n9 ≤ 7207018 - ns := hk9
  refine VE.wf (fun wf => ?_)
  obtain ⟨kc, er, hL1, Q2, sp2, hq2⟩ := hq r K1 P1 J1 I1 k0 n0 hz wf
  subst er
  refine VE.istore (pc' := 2542) d_Law_law_2540 rfl rfl ?_
  refine VE.pick [0, 1, 2, 3, 4, 5] ?_
  refine VE.aload_n (o := 100) (pc' := 2543) d_Law_law_2542 rfl rfl ?_
  refine VL.arg (i := i) (pc' := 2549) d_Law_law_2543 d_Law_law_2544 d_Law_law_2546 d_Law_law_2547 d_Law_law_2548 rfl rfl rfl hL1 (by decide) hi ?_
  refine VE.callV (ci := 11) (T := T11) (N := 94) (pc' := 2552) d_Law_law_2549 rfl sp2 rfl mv_Model_prepare.1 mv_Model_prepare.2.1 rfl mv_Model_prepare.2.2.1 mv_Model_prepare.2.2.2 lk_Law_270 rfl (hL1.1.1.k rfl) rfl rfl rfl (by show cs + k9 + 0 ≤ 603072; omega) (by show ns + n9 + 0 ≤ 7207018; omega) (fun r2 K2 P2 J2 I2 hz2 => ?_)
  obtain ⟨b, er2, -, -, h93, hb, hN⟩ := hq2 _ _ _ _ _ hz2
  injection er2 with er2
  subst er2
  exact law_tail d_Law_law_2552 d_Law_law_2554 d_Law_law_2555 d_Law_law_2558 d_Law_law_2560 d_Law_law_2565 d_Law_law_2567 d_Law_law_2570 d_Law_law_2571 d_Law_law_2572 d_Law_law_2573 d_Law_law_2575 d_Law_law_2576 d_Law_law_2577 d_Law_law_2582 (by decide) hN.1 h93 hb (by show cs + k9 ≤ 603072 ∧ ns + n9 ≤ 7207018; omega) (nx _ _ _ _ (cs + k9) (ns + n9) (by omega) (hN.mono (by omega) (by omega)))
theorem walk_planAt (h : LI c Lg xs K P J I cs ns) (c6 : 6 * c ≤ i) (hi : (0 ≤ i ∧ i + 6 ≤ Lg) ∧ Lg ≤ 3072) (nx : ∀ K P J I cs ns, (cs ≤ 603072 ∧ ns ≤ 7207018) → LI (c + 1) Lg xs K P J I cs ns → VL Q K P J I cs ns 3229 (Lw i) []) : VL Q K P J I cs ns 2585 (Lw i) [] := by
  refine VE.aload_n (o := 1000) (pc' := 2586) d_Law_law_2585 rfl rfl ?_
  refine VL.arg (i := i) (pc' := 2592) d_Law_law_2586 d_Law_law_2587 d_Law_law_2589 d_Law_law_2590 d_Law_law_2591 rfl rfl rfl h.1 (by decide) hi ?_
  refine VL.arg (i := i) (pc' := 2598) d_Law_law_2592 d_Law_law_2593 d_Law_law_2595 d_Law_law_2596 d_Law_law_2597 rfl rfl rfl h.1 (by decide) hi ?_
  refine VE.aload_n (o := 50) (pc' := 2599) d_Law_law_2598 rfl rfl ?_
  obtain ⟨hc, Qc, sp, hq⟩ := case_planAt (p1 := xs (i + 1)) (p2 := xs (i + 2)) h (by omega)
  refine VE.callSWE (k := 4) (pc' := 2602) d_Law_law_2599 rfl sp.lim rfl rfl cd_Law_planAt kw_initialized_RowForgeLaw (by decide) (by decide) (by decide +kernel) rfl st_Law_planAt lk_Law_271 rfl rfl rfl (by show cs + (603072 - cs) ≤ 603072; omega) (by show ns + (7207018 - ns) ≤ 7207018; omega) (fun k9 n9 r K1 P1 J1 I1 hz => ?_)
  obtain ⟨hk9, k0, n0, kk0, nn0, hz⟩ := hz
  have hk : k9 ≤ 603072 - cs ∧ n9 ≤ 7207018 - ns := hk9
  refine VE.wf (fun wf => ?_)
  obtain ⟨kc, er, hL1, Q2, sp2, hq2⟩ := hq r K1 P1 J1 I1 k0 n0 hz wf
  subst er
  refine VE.istore (pc' := 2604) d_Law_law_2602 rfl rfl ?_
  refine VE.pick [0, 1, 2, 3, 4, 5] ?_
  refine VE.aload_n (o := 100) (pc' := 2605) d_Law_law_2604 rfl rfl ?_
  refine VL.arg (i := i) (pc' := 2611) d_Law_law_2605 d_Law_law_2606 d_Law_law_2608 d_Law_law_2609 d_Law_law_2610 rfl rfl rfl hL1 (by decide) hi ?_
  refine VL.arg (i := i) (pc' := 2617) d_Law_law_2611 d_Law_law_2612 d_Law_law_2614 d_Law_law_2615 d_Law_law_2616 rfl rfl rfl hL1 (by decide) hi ?_
  refine VE.callV (ci := 11) (T := T11) (N := 94) (pc' := 2620) d_Law_law_2617 rfl sp2 rfl mv_Model_planAt.1 mv_Model_planAt.2.1 rfl mv_Model_planAt.2.2.1 mv_Model_planAt.2.2.2 lk_Law_273 rfl (hL1.1.1.k rfl) rfl rfl rfl (by show cs + k9 + 0 ≤ 603072; omega) (by show ns + n9 + 0 ≤ 7207018; omega) (fun r2 K2 P2 J2 I2 hz2 => ?_)
  obtain ⟨b, er2, -, -, h93, hb, hN⟩ := hq2 _ _ _ _ _ hz2
  injection er2 with er2
  subst er2
  exact law_tail d_Law_law_2620 d_Law_law_2622 d_Law_law_2623 d_Law_law_2626 d_Law_law_2628 d_Law_law_2633 d_Law_law_2635 d_Law_law_2638 d_Law_law_2639 d_Law_law_2640 d_Law_law_2641 d_Law_law_2643 d_Law_law_2644 d_Law_law_2645 d_Law_law_2650 (by decide) hN.1 h93 hb (by show cs + k9 ≤ 603072 ∧ ns + n9 ≤ 7207018; omega) (nx _ _ _ _ (cs + k9) (ns + n9) (by omega) (hN.mono (by omega) (by omega)))
theorem walk_planned (h : LI c Lg xs K P J I cs ns) (c6 : 6 * c ≤ i) (hi : (0 ≤ i ∧ i + 6 ≤ Lg) ∧ Lg ≤ 3072) (nx : ∀ K P J I cs ns, (cs ≤ 603072 ∧ ns ≤ 7207018) → LI (c + 1) Lg xs K P J I cs ns → VL Q K P J I cs ns 3229 (Lw i) []) : VL Q K P J I cs ns 2653 (Lw i) [] := by
  refine VE.aload_n (o := 1000) (pc' := 2654) d_Law_law_2653 rfl rfl ?_
  obtain ⟨hc, Qc, sp, hq⟩ := case_planned h (by omega)
  refine VE.callVE (ci := 10) (T := T10) (N := 11) (pc' := 2657) d_Law_law_2654 rfl sp.lim rfl mv_F_planned.1 mv_F_planned.2.1 rfl mv_F_planned.2.2.1 mv_F_planned.2.2.2 lk_Law_274 rfl h.k1000.1 rfl rfl rfl (by show cs + (603072 - cs) ≤ 603072; omega) (by show ns + (7207018 - ns) ≤ 7207018; omega) (fun k9 n9 r K1 P1 J1 I1 hz => ?_)
  obtain ⟨hk9, k0, n0, kk0, nn0, hz⟩ := hz
  have hk : k9 ≤ 603072 - cs ∧ n9 ≤ 7207018 - ns := hk9
  refine VE.wf (fun wf => ?_)
  obtain ⟨b, er, hL1, Q2, sp2, hq2⟩ := hq r K1 P1 J1 I1 k0 n0 hz wf
  subst er
  refine VE.aload_n (o := 100) (pc' := 2658) d_Law_law_2657 rfl rfl ?_
  refine VE.callV (ci := 11) (T := T11) (N := 94) (pc' := 2661) d_Law_law_2658 rfl sp2 rfl mv_Model_planned.1 mv_Model_planned.2.1 rfl mv_Model_planned.2.2.1 mv_Model_planned.2.2.2 lk_Law_277 rfl (hL1.1.1.k rfl) rfl rfl rfl (by show cs + k9 + 0 ≤ 603072; omega) (by show ns + n9 + 0 ≤ 7207018; omega) (fun r2 K2 P2 J2 I2 hz2 => ?_)
  obtain ⟨er2, -, -, -, hN⟩ := hq2 _ _ _ _ _ hz2
  injection er2 with er2
  subst er2
  refine VE.icmp_eq (tgt := 3229) (pc' := 2664) d_Law_law_2661 (by decide) rfl (fun _ => ?_) (fun e => absurd rfl e)
  exact nx _ _ _ _ (cs + k9) (ns + n9) (by omega) (hN.mono (by omega) (by omega))
theorem walk_view (h : LI c Lg xs K P J I cs ns) (c6 : 6 * c ≤ i) (hi : (0 ≤ i ∧ i + 6 ≤ Lg) ∧ Lg ≤ 3072) (nx : ∀ K P J I cs ns, (cs ≤ 603072 ∧ ns ≤ 7207018) → LI (c + 1) Lg xs K P J I cs ns → VL Q K P J I cs ns 3229 (Lw i) []) : VL Q K P J I cs ns 2666 (Lw i) [] := by
  refine VE.aload_n (o := 1000) (pc' := 2667) d_Law_law_2666 rfl rfl ?_
  refine VL.arg (i := i) (pc' := 2673) d_Law_law_2667 d_Law_law_2668 d_Law_law_2670 d_Law_law_2671 d_Law_law_2672 rfl rfl rfl h.1 (by decide) hi ?_
  refine VE.aload_n (o := 50) (pc' := 2674) d_Law_law_2673 rfl rfl ?_
  obtain ⟨hc, Qc, sp, hq⟩ := case_view (p1 := xs (i + 1)) h (by omega)
  refine VE.callSWE (k := 3) (pc' := 2677) d_Law_law_2674 rfl sp.lim rfl rfl cd_Law_view kw_initialized_RowForgeLaw (by decide) (by decide) (by decide +kernel) rfl st_Law_view lk_Law_278 rfl rfl rfl (by show cs + (603072 - cs) ≤ 603072; omega) (by show ns + (7207018 - ns) ≤ 7207018; omega) (fun k9 n9 r K1 P1 J1 I1 hz => ?_)
  obtain ⟨hk9, k0, n0, kk0, nn0, hz⟩ := hz
  have hk : k9 ≤ 603072 - cs ∧ n9 ≤ 7207018 - ns := hk9
  refine VE.wf (fun wf => ?_)
  obtain ⟨kc, er, hL1, Q2, sp2, hq2⟩ := hq r K1 P1 J1 I1 k0 n0 hz wf
  subst er
  refine VE.istore (pc' := 2679) d_Law_law_2677 rfl rfl ?_
  refine VE.pick [0, 1, 2, 3, 4, 5] ?_
  refine VE.aload_n (o := 100) (pc' := 2680) d_Law_law_2679 rfl rfl ?_
  refine VL.arg (i := i) (pc' := 2686) d_Law_law_2680 d_Law_law_2681 d_Law_law_2683 d_Law_law_2684 d_Law_law_2685 rfl rfl rfl hL1 (by decide) hi ?_
  refine VE.callV (ci := 11) (T := T11) (N := 94) (pc' := 2689) d_Law_law_2686 rfl sp2 rfl mv_Model_view.1 mv_Model_view.2.1 rfl mv_Model_view.2.2.1 mv_Model_view.2.2.2 lk_Law_280 rfl (hL1.1.1.k rfl) rfl rfl rfl (by show cs + k9 + 0 ≤ 603072; omega) (by show ns + n9 + 0 ≤ 7207018; omega) (fun r2 K2 P2 J2 I2 hz2 => ?_)
  obtain ⟨b, er2, -, -, h93, hb, hN⟩ := hq2 _ _ _ _ _ hz2
  injection er2 with er2
  subst er2
  exact law_tail d_Law_law_2689 d_Law_law_2691 d_Law_law_2692 d_Law_law_2695 d_Law_law_2697 d_Law_law_2702 d_Law_law_2704 d_Law_law_2707 d_Law_law_2708 d_Law_law_2709 d_Law_law_2710 d_Law_law_2712 d_Law_law_2713 d_Law_law_2714 d_Law_law_2719 (by decide) hN.1 h93 hb (by show cs + k9 ≤ 603072 ∧ ns + n9 ≤ 7207018; omega) (nx _ _ _ _ (cs + k9) (ns + n9) (by omega) (hN.mono (by omega) (by omega)))
theorem walk_viewRows (h : LI c Lg xs K P J I cs ns) (c6 : 6 * c ≤ i) (hi : (0 ≤ i ∧ i + 6 ≤ Lg) ∧ Lg ≤ 3072) (nx : ∀ K P J I cs ns, (cs ≤ 603072 ∧ ns ≤ 7207018) → LI (c + 1) Lg xs K P J I cs ns → VL Q K P J I cs ns 3229 (Lw i) []) : VL Q K P J I cs ns 2722 (Lw i) [] := by
  refine VE.aload_n (o := 1000) (pc' := 2723) d_Law_law_2722 rfl rfl ?_
  refine VL.arg (i := i) (pc' := 2729) d_Law_law_2723 d_Law_law_2724 d_Law_law_2726 d_Law_law_2727 d_Law_law_2728 rfl rfl rfl h.1 (by decide) hi ?_
  refine VE.aload_n (o := 50) (pc' := 2730) d_Law_law_2729 rfl rfl ?_
  obtain ⟨hc, Qc, sp, hq⟩ := case_viewRows (p1 := xs (i + 1)) h (by omega)
  refine VE.callSWE (k := 3) (pc' := 2733) d_Law_law_2730 rfl sp.lim rfl rfl cd_Law_viewRows kw_initialized_RowForgeLaw (by decide) (by decide) (by decide +kernel) rfl st_Law_viewRows lk_Law_281 rfl rfl rfl (by show cs + (603072 - cs) ≤ 603072; omega) (by show ns + (7207018 - ns) ≤ 7207018; omega) (fun k9 n9 r K1 P1 J1 I1 hz => ?_)
  obtain ⟨hk9, k0, n0, kk0, nn0, hz⟩ := hz
  have hk : k9 ≤ 603072 - cs ∧ n9 ≤ 7207018 - ns := hk9
  refine VE.wf (fun wf => ?_)
  obtain ⟨kc, er, hL1, Q2, sp2, hq2⟩ := hq r K1 P1 J1 I1 k0 n0 hz wf
  subst er
  refine VE.istore (pc' := 2735) d_Law_law_2733 rfl rfl ?_
  refine VE.pick [0, 1, 2, 3, 4, 5] ?_
  refine VE.aload_n (o := 100) (pc' := 2736) d_Law_law_2735 rfl rfl ?_
  refine VL.arg (i := i) (pc' := 2742) d_Law_law_2736 d_Law_law_2737 d_Law_law_2739 d_Law_law_2740 d_Law_law_2741 rfl rfl rfl hL1 (by decide) hi ?_
  refine VE.callV (ci := 11) (T := T11) (N := 94) (pc' := 2745) d_Law_law_2742 rfl sp2 rfl mv_Model_viewRows.1 mv_Model_viewRows.2.1 rfl mv_Model_viewRows.2.2.1 mv_Model_viewRows.2.2.2 lk_Law_283 rfl (hL1.1.1.k rfl) rfl rfl rfl (by show cs + k9 + 0 ≤ 603072; omega) (by show ns + n9 + 0 ≤ 7207018; omega) (fun r2 K2 P2 J2 I2 hz2 => ?_)
  obtain ⟨b, er2, -, -, h93, hb, hN⟩ := hq2 _ _ _ _ _ hz2
  injection er2 with er2
  subst er2
  exact law_tail d_Law_law_2745 d_Law_law_2747 d_Law_law_2748 d_Law_law_2751 d_Law_law_2753 d_Law_law_2758 d_Law_law_2760 d_Law_law_2763 d_Law_law_2764 d_Law_law_2765 d_Law_law_2766 d_Law_law_2768 d_Law_law_2769 d_Law_law_2770 d_Law_law_2775 (by decide) hN.1 h93 hb (by show cs + k9 ≤ 603072 ∧ ns + n9 ≤ 7207018; omega) (nx _ _ _ _ (cs + k9) (ns + n9) (by omega) (hN.mono (by omega) (by omega)))
theorem walk_viewAt (h : LI c Lg xs K P J I cs ns) (c6 : 6 * c ≤ i) (hi : (0 ≤ i ∧ i + 6 ≤ Lg) ∧ Lg ≤ 3072) (nx : ∀ K P J I cs ns, (cs ≤ 603072 ∧ ns ≤ 7207018) → LI (c + 1) Lg xs K P J I cs ns → VL Q K P J I cs ns 3229 (Lw i) []) : VL Q K P J I cs ns 2778 (Lw i) [] := by
  refine VE.aload_n (o := 1000) (pc' := 2779) d_Law_law_2778 rfl rfl ?_
  refine VL.arg (i := i) (pc' := 2785) d_Law_law_2779 d_Law_law_2780 d_Law_law_2782 d_Law_law_2783 d_Law_law_2784 rfl rfl rfl h.1 (by decide) hi ?_
  refine VL.arg (i := i) (pc' := 2791) d_Law_law_2785 d_Law_law_2786 d_Law_law_2788 d_Law_law_2789 d_Law_law_2790 rfl rfl rfl h.1 (by decide) hi ?_
  refine VL.arg (i := i) (pc' := 2797) d_Law_law_2791 d_Law_law_2792 d_Law_law_2794 d_Law_law_2795 d_Law_law_2796 rfl rfl rfl h.1 (by decide) hi ?_
  refine VE.aload_n (o := 50) (pc' := 2798) d_Law_law_2797 rfl rfl ?_
  obtain ⟨hc, Qc, sp, hq⟩ := case_viewAt (p1 := xs (i + 1)) (p2 := xs (i + 2)) (p3 := xs (i + 3)) h (by omega)
  refine VE.callSWE (k := 5) (pc' := 2801) d_Law_law_2798 rfl sp.lim rfl rfl cd_Law_viewAt kw_initialized_RowForgeLaw (by decide) (by decide) (by decide +kernel) rfl st_Law_viewAt lk_Law_284 rfl rfl rfl (by show cs + (603072 - cs) ≤ 603072; omega) (by show ns + (7207018 - ns) ≤ 7207018; omega) (fun k9 n9 r K1 P1 J1 I1 hz => ?_)
  obtain ⟨hk9, k0, n0, kk0, nn0, hz⟩ := hz
  have hk : k9 ≤ 603072 - cs ∧ n9 ≤ 7207018 - ns := hk9
  refine VE.wf (fun wf => ?_)
  obtain ⟨kc, er, hL1, Q2, sp2, hq2⟩ := hq r K1 P1 J1 I1 k0 n0 hz wf
  subst er
  refine VE.istore (pc' := 2803) d_Law_law_2801 rfl rfl ?_
  refine VE.pick [0, 1, 2, 3, 4, 5] ?_
  refine VE.aload_n (o := 100) (pc' := 2804) d_Law_law_2803 rfl rfl ?_
  refine VL.arg (i := i) (pc' := 2810) d_Law_law_2804 d_Law_law_2805 d_Law_law_2807 d_Law_law_2808 d_Law_law_2809 rfl rfl rfl hL1 (by decide) hi ?_
  refine VL.arg (i := i) (pc' := 2816) d_Law_law_2810 d_Law_law_2811 d_Law_law_2813 d_Law_law_2814 d_Law_law_2815 rfl rfl rfl hL1 (by decide) hi ?_
  refine VL.arg (i := i) (pc' := 2822) d_Law_law_2816 d_Law_law_2817 d_Law_law_2819 d_Law_law_2820 d_Law_law_2821 rfl rfl rfl hL1 (by decide) hi ?_
  refine VE.callV (ci := 11) (T := T11) (N := 94) (pc' := 2825) d_Law_law_2822 rfl sp2 rfl mv_Model_viewAt.1 mv_Model_viewAt.2.1 rfl mv_Model_viewAt.2.2.1 mv_Model_viewAt.2.2.2 lk_Law_286 rfl (hL1.1.1.k rfl) rfl rfl rfl (by show cs + k9 + 0 ≤ 603072; omega) (by show ns + n9 + 0 ≤ 7207018; omega) (fun r2 K2 P2 J2 I2 hz2 => ?_)
  obtain ⟨b, er2, -, -, h93, hb, hN⟩ := hq2 _ _ _ _ _ hz2
  injection er2 with er2
  subst er2
  exact law_tail d_Law_law_2825 d_Law_law_2827 d_Law_law_2828 d_Law_law_2831 d_Law_law_2833 d_Law_law_2838 d_Law_law_2840 d_Law_law_2843 d_Law_law_2844 d_Law_law_2845 d_Law_law_2846 d_Law_law_2848 d_Law_law_2849 d_Law_law_2850 d_Law_law_2855 (by decide) hN.1 h93 hb (by show cs + k9 ≤ 603072 ∧ ns + n9 ≤ 7207018; omega) (nx _ _ _ _ (cs + k9) (ns + n9) (by omega) (hN.mono (by omega) (by omega)))
theorem walk_viewAnew (h : LI c Lg xs K P J I cs ns) (c6 : 6 * c ≤ i) (hi : (0 ≤ i ∧ i + 6 ≤ Lg) ∧ Lg ≤ 3072) (nx : ∀ K P J I cs ns, (cs ≤ 603072 ∧ ns ≤ 7207018) → LI (c + 1) Lg xs K P J I cs ns → VL Q K P J I cs ns 3229 (Lw i) []) : VL Q K P J I cs ns 2858 (Lw i) [] := by
  refine VE.aload_n (o := 1000) (pc' := 2859) d_Law_law_2858 rfl rfl ?_
  refine VL.arg (i := i) (pc' := 2865) d_Law_law_2859 d_Law_law_2860 d_Law_law_2862 d_Law_law_2863 d_Law_law_2864 rfl rfl rfl h.1 (by decide) hi ?_
  refine VL.arg (i := i) (pc' := 2871) d_Law_law_2865 d_Law_law_2866 d_Law_law_2868 d_Law_law_2869 d_Law_law_2870 rfl rfl rfl h.1 (by decide) hi ?_
  refine VL.arg (i := i) (pc' := 2877) d_Law_law_2871 d_Law_law_2872 d_Law_law_2874 d_Law_law_2875 d_Law_law_2876 rfl rfl rfl h.1 (by decide) hi ?_
  refine VE.aload_n (o := 50) (pc' := 2878) d_Law_law_2877 rfl rfl ?_
  obtain ⟨hc, Qc, sp, hq⟩ := case_viewAnew (p1 := xs (i + 1)) (p2 := xs (i + 2)) (p3 := xs (i + 3)) h (by omega)
  refine VE.callSWE (k := 5) (pc' := 2881) d_Law_law_2878 rfl sp.lim rfl rfl cd_Law_viewAnew kw_initialized_RowForgeLaw (by decide) (by decide) (by decide +kernel) rfl st_Law_viewAnew lk_Law_287 rfl rfl rfl (by show cs + (603072 - cs) ≤ 603072; omega) (by show ns + (7207018 - ns) ≤ 7207018; omega) (fun k9 n9 r K1 P1 J1 I1 hz => ?_)
  obtain ⟨hk9, k0, n0, kk0, nn0, hz⟩ := hz
  have hk : k9 ≤ 603072 - cs ∧ n9 ≤ 7207018 - ns := hk9
  refine VE.wf (fun wf => ?_)
  obtain ⟨kc, er, hL1, Q2, sp2, hq2⟩ := hq r K1 P1 J1 I1 k0 n0 hz wf
  subst er
  refine VE.istore (pc' := 2883) d_Law_law_2881 rfl rfl ?_
  refine VE.pick [0, 1, 2, 3, 4, 5] ?_
  refine VE.aload_n (o := 100) (pc' := 2884) d_Law_law_2883 rfl rfl ?_
  refine VL.arg (i := i) (pc' := 2890) d_Law_law_2884 d_Law_law_2885 d_Law_law_2887 d_Law_law_2888 d_Law_law_2889 rfl rfl rfl hL1 (by decide) hi ?_
  refine VL.arg (i := i) (pc' := 2896) d_Law_law_2890 d_Law_law_2891 d_Law_law_2893 d_Law_law_2894 d_Law_law_2895 rfl rfl rfl hL1 (by decide) hi ?_
  refine VL.arg (i := i) (pc' := 2902) d_Law_law_2896 d_Law_law_2897 d_Law_law_2899 d_Law_law_2900 d_Law_law_2901 rfl rfl rfl hL1 (by decide) hi ?_
  refine VE.callV (ci := 11) (T := T11) (N := 94) (pc' := 2905) d_Law_law_2902 rfl sp2 rfl mv_Model_viewAnew.1 mv_Model_viewAnew.2.1 rfl mv_Model_viewAnew.2.2.1 mv_Model_viewAnew.2.2.2 lk_Law_289 rfl (hL1.1.1.k rfl) rfl rfl rfl (by show cs + k9 + 0 ≤ 603072; omega) (by show ns + n9 + 0 ≤ 7207018; omega) (fun r2 K2 P2 J2 I2 hz2 => ?_)
  obtain ⟨b, er2, -, -, h93, hb, hN⟩ := hq2 _ _ _ _ _ hz2
  injection er2 with er2
  subst er2
  exact law_tail d_Law_law_2905 d_Law_law_2907 d_Law_law_2908 d_Law_law_2911 d_Law_law_2913 d_Law_law_2918 d_Law_law_2920 d_Law_law_2923 d_Law_law_2924 d_Law_law_2925 d_Law_law_2926 d_Law_law_2928 d_Law_law_2929 d_Law_law_2930 d_Law_law_2935 (by decide) hN.1 h93 hb (by show cs + k9 ≤ 603072 ∧ ns + n9 ≤ 7207018; omega) (nx _ _ _ _ (cs + k9) (ns + n9) (by omega) (hN.mono (by omega) (by omega)))
end
