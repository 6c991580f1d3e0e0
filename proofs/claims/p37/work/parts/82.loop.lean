theorem uI_21 {f : Int → Int} {z v z' v' : Int} (h : z ≠ z') : uI (uI f z v) z' v' z = v := by rw [uI_ne h, uI_eq]
theorem uI_2ne {f : Int → Int} {z v z' v' j : Int} (h1 : j ≠ z) (h2 : j ≠ z') : uI (uI f z v) z' v' j = f j := by rw [uI_ne h2, uI_ne h1]
theorem lL_law_63 : Cond.constant RL 63 (60000) ∈ wsL_law := (List.mem_of_getElem? (i := 6) (by decide +kernel))
theorem cdL_fits : yL_fits.cls ≠ "java/lang/invoke/MethodHandle" ∧ yL_fits.cls ≠ "java/lang/invoke/VarHandle" ∧ (parseMethodDescriptor yL_fits.desc).map (fun d => d.parameters.length) = some 8 := by decide +kernel
set_option maxHeartbeats 4000000 in
set_option maxRecDepth 100000 in
theorem law_h {p : Program} {l : Launch} {e : Env} {s : State} {m : MethodId} {below : List Frame} {meth : Method} {c : Code} {b L : Nat} {xs : Nat → Int32} {E : gE} {a_D a_L a_P a_Q a_R a_X a_at a_fi a_fi2 a_fu a_hs a_jl a_ly a_pc a_se a_sh a_tn a_ui a_us a_wa : Nat} {W h n wf fo sp fd tc tr ft : Int} {hs se pc tn sh fi wa us ly jl : Int → Int} {now : Int64} (D : lC p s m meth c b L xs E) (hw : 1 ≤ W ∧ W ≤ 3 ∧ 1 ≤ h ∧ h ≤ 3 ∧ (W = 3 → h ≤ 2)) (hn6 : 1 ≤ n ∧ n ≤ 6) (hpw : ∀ j : Int, 0 ≤ j ∧ j < n → (0 ≤ pc j ∧ pc j < W * h) ∧ 0 ≤ tn j ∧ tn j < 4) (hse : ∀ p e : Int, 0 ≤ p ∧ p < W * h → 0 ≤ e ∧ e < 4 → se (p * 4 + e) = sdI W h p e) (hh : hB9 hs) (kk : ∀ {fi1 : Int → Int} {fd1 tc1 ft1 : Int}, (0 ≤ fd1 ∧ fd1 ≤ tc1 ∧ tc1 ≤ 60001) → (0 ≤ ft1 ∧ ft1 ≤ 60001) → en0 (FT W h hs pc tn) n (W * h) fd1 tc1 → en1 (FT W h hs pc tn) n (W * h) fi1 fd1 tc1 ft1 → lJ p l e s m below meth c b 105 3059 E [(a_X, .inr (5, [.ref a_P, .ref a_L, .ref a_R, .ref a_D, .ref a_Q, .int (iI tr), .int (iI ft)])), (a_P, .inr (1, [.ref a_hs, .ref a_se, .int (iI W), .int (iI h)])), (a_hs, aI E 200 hs), (a_se, aI E 100 se), (a_L, .inr (2, [.ref a_pc, .ref a_tn, .int (iI n)])), (a_pc, aI E 25 pc), (a_tn, aI E 25 tn), (a_R, .inr (3, [.ref a_P, .ref a_L, .ref a_sh, .ref a_fi, .ref a_wa, .ref a_us, .ref a_ly, .ref a_jl, .int (iI 0), .int (iI fo), .int (iI sp), .int (iI fd), .int (iI tc)])), (a_sh, aI E 400 sh), (a_fi, aI E 400 fi), (a_wa, aI E 100 wa), (a_us, aZ E 25 us), (a_ly, aI E 25 ly), (a_jl, aI E 25 jl), (a_fi2, aI E 20 fi1)] [(0, .ref b), (1, .ref a_X), (2, .int (iI W)), (3, .int (iI h)), (4, .int (iI (W * h))), (5, .int (iI (nsd W h))), (6, .int (iI wf)), (7, .int (iI n)), (13, .ref a_fi2), (15, .int (iI fd1)), (16, .int (iI tc1)), (17, .int (iI ft1))] 903 []) : lJ p l e s m below meth c b 105 3059 E [(a_X, .inr (5, [.ref a_P, .ref a_L, .ref a_R, .ref a_D, .ref a_Q, .int (iI tr), .int (iI ft)])), (a_P, .inr (1, [.ref a_hs, .ref a_se, .int (iI W), .int (iI h)])), (a_hs, aI E 200 hs), (a_se, aI E 100 se), (a_L, .inr (2, [.ref a_pc, .ref a_tn, .int (iI n)])), (a_pc, aI E 25 pc), (a_tn, aI E 25 tn), (a_R, .inr (3, [.ref a_P, .ref a_L, .ref a_sh, .ref a_fi, .ref a_wa, .ref a_us, .ref a_ly, .ref a_jl, .int (iI 0), .int (iI fo), .int (iI sp), .int (iI fd), .int (iI tc)])), (a_sh, aI E 400 sh), (a_fi, aI E 400 fi), (a_wa, aI E 100 wa), (a_us, aZ E 25 us), (a_ly, aI E 25 ly), (a_jl, aI E 25 jl), (a_at, aI E 10 ((fun _ => 0))), (a_fu, aI E 10 (uI (fun _ => 0) 0 (-1))), (a_fi2, aI E 20 ((fun _ => 0))), (a_ui, aI E 10 ((fun _ => 0)))] [(0, .ref b), (1, .ref a_X), (2, .int (iI W)), (3, .int (iI h)), (4, .int (iI (W * h))), (5, .int (iI (nsd W h))), (6, .int (iI wf)), (7, .int (iI n)), (11, .ref a_at), (12, .ref a_fu), (13, .ref a_fi2), (14, .ref a_ui), (15, .int (iI 0)), (16, .int (iI 0)), (17, .int (iI 0)), (18, .int (iI 0))] 639 [] := by
  have C := D.1
  have hL0 := D.2.2.2.2
  have hB : 1 ≤ W ∧ W ≤ 5 ∧ 1 ≤ h ∧ h ≤ 5 := by omega
  have h6 := wh6 hw
  have hN := nsd_b hB
  have hn : 0 ≤ n ∧ n ≤ 25 := by omega
  have hpn : ∀ j : Int, 0 ≤ j ∧ j < n → 0 ≤ pc j ∧ pc j < 25 := fun j hj => by have q := hpw j hj; omega
  refine g_loop (α := (Int → Int) × (Int → Int) × (Int → Int) × (Int → Int) × Int × Int × Int × Int) (fun zz => [(a_X, .inr (5, [.ref a_P, .ref a_L, .ref a_R, .ref a_D, .ref a_Q, .int (iI tr), .int (iI ft)])), (a_P, .inr (1, [.ref a_hs, .ref a_se, .int (iI W), .int (iI h)])), (a_hs, aI E 200 hs), (a_se, aI E 100 se), (a_L, .inr (2, [.ref a_pc, .ref a_tn, .int (iI n)])), (a_pc, aI E 25 pc), (a_tn, aI E 25 tn), (a_R, .inr (3, [.ref a_P, .ref a_L, .ref a_sh, .ref a_fi, .ref a_wa, .ref a_us, .ref a_ly, .ref a_jl, .int (iI 0), .int (iI fo), .int (iI sp), .int (iI fd), .int (iI tc)])), (a_sh, aI E 400 sh), (a_fi, aI E 400 fi), (a_wa, aI E 100 wa), (a_us, aZ E 25 us), (a_ly, aI E 25 ly), (a_jl, aI E 25 jl), (a_at, aI E 10 zz.1), (a_fu, aI E 10 zz.2.1), (a_fi2, aI E 20 zz.2.2.1), (a_ui, aI E 10 zz.2.2.2.1)]) (fun zz => [(18, .int (iI zz.2.2.2.2.2.2.2)), (17, .int (iI zz.2.2.2.2.2.2.1)), (16, .int (iI zz.2.2.2.2.2.1)), (15, .int (iI zz.2.2.2.2.1)), (14, .ref a_ui), (13, .ref a_fi2), (12, .ref a_fu), (11, .ref a_at), (7, .int (iI n)), (6, .int (iI wf)), (5, .int (iI (nsd W h))), (4, .int (iI (W * h))), (3, .int (iI h)), (2, .int (iI W)), (1, .ref a_X), (0, .ref b)]) (fun zz => LInv (FT W h hs pc tn) n (W * h) zz.1 zz.2.1 zz.2.2.1 zz.2.2.2.1 zz.2.2.2.2.1 zz.2.2.2.2.2.1 zz.2.2.2.2.2.2.1 zz.2.2.2.2.2.2.2) (fun zz => ((60001 - zz.2.2.2.2.2.1) * 30 + zz.2.2.2.2.2.2.2 + 1).toNat) ((fun _ => 0), (uI (fun _ => 0) 0 (-1)), (fun _ => 0), (fun _ => 0), 0, 0, 0, 0) (by
            try dsimp only
            exact li_0 (by omega) (by omega)) [15, 14, 13, 12, 11, 10, 9, 8, 7, 6, 5, 4, 3, 2, 1, 0] rfl rfl ?_
  rintro ⟨qa1, qf1, fi1, us1, fd1, tc1, ft1, k⟩ hI ih639
  try dsimp only at hI ih639 ⊢
  obtain hI := hI
  refine g_iload 641 C 0 dL_law_639 rfl rfl ?_
  have hbI := hI.1
  refine g_if_lt 903 644 C dL_law_641 (by decide) rfl (by omega) ?_ ?_
  · intro h641
    have hE := li_end hI (by omega)
    refine g_w (lv' := [(0, _), (1, _), (2, _), (3, _), (4, _), (5, _), (6, _), (7, _), (13, _), (15, _), (16, _), (17, _)]) [15, 14, 13, 12, 11, 10, 9, 8, 5, 3, 2, 1] rfl rfl ?_
    refine g_perm (ws' := [(_, .inr (5, [_, _, _, _, _, _, _])), (_, .inr (1, [_, _, _, _])), (_, aI _ _ _), (_, aI _ _ _), (_, .inr (2, [_, _, _])), (_, aI _ _ _), (_, aI _ _ _), (_, .inr (3, [_, _, _, _, _, _, _, _, _, _, _, _, _])), (_, aI _ _ _), (_, aI _ _ _), (_, aI _ _ _), (_, aZ _ _ _), (_, aI _ _ _), (_, aI _ _ _), (_, aI _ _ _)]) [0, 1, 2, 3, 4, 5, 6, 7, 8, 9, 10, 11, 12, 13, 16] rfl rfl ?_
    exact kk hE.1 hE.2.1 hE.2.2.1 hE.2.2.2
  · intro h641
    refine g_iload 646 C 2 dL_law_644 rfl rfl ?_
    refine g_ldc 648 C (60000) dL_law_646 rfl lL_law_63 (by decide) ?_
    refine g_icmp_gt 903 651 C dL_law_648 (by decide) rfl (by omega) ?_ ?_
    · intro h648
      have hE := li_end hI (by omega)
      refine g_w (lv' := [(0, _), (1, _), (2, _), (3, _), (4, _), (5, _), (6, _), (7, _), (13, _), (15, _), (16, _), (17, _)]) [15, 14, 13, 12, 11, 10, 9, 8, 5, 3, 2, 1] rfl rfl ?_
      refine g_perm (ws' := [(_, .inr (5, [_, _, _, _, _, _, _])), (_, .inr (1, [_, _, _, _])), (_, aI _ _ _), (_, aI _ _ _), (_, .inr (2, [_, _, _])), (_, aI _ _ _), (_, aI _ _ _), (_, .inr (3, [_, _, _, _, _, _, _, _, _, _, _, _, _])), (_, aI _ _ _), (_, aI _ _ _), (_, aI _ _ _), (_, aZ _ _ _), (_, aI _ _ _), (_, aI _ _ _), (_, aI _ _ _)]) [0, 1, 2, 3, 4, 5, 6, 7, 8, 9, 10, 11, 12, 13, 16] rfl rfl ?_
      exact kk hE.1 hE.2.1 hE.2.2.1 hE.2.2.2
    · intro h648
      obtain ⟨hb, m1, q1, u1, hI1, hms, hfs⟩ := li_A hI (by omega)
      have hQ := hms.1 k (by omega)
      refine g_aload 653 C 6 dL_law_651 rfl rfl ?_
      refine g_iload 655 C 0 dL_law_653 rfl rfl ?_
      refine g_dup2 656 C dL_law_655 rfl rfl rfl ?_
      refine g_iaload 657 C 15 dL_law_656 rfl rfl (by omega) ?_
      refine g_iconst 658 C dL_law_657 rfl ?_
      refine g_iadd 659 C dL_law_658 rfl ?_
      refine g_iastore (ws' := [(_, .inr (5, [_, _, _, _, _, _, _])), (_, .inr (1, [_, _, _, _])), (_, aI _ _ _), (_, aI _ _ _), (_, .inr (2, [_, _, _])), (_, aI _ _ _), (_, aI _ _ _), (_, .inr (3, [_, _, _, _, _, _, _, _, _, _, _, _, _])), (_, aI _ _ _), (_, aI _ _ _), (_, aI _ _ _), (_, aZ _ _ _), (_, aI _ _ _), (_, aI _ _ _), (_, aI _ _ _), (_, aI _ _ _), (_, aI _ _ _), (_, aI _ _ _)]) 660 C 15 dL_law_659 rfl rfl (by omega) rfl ?_
      refine g_aload 662 C 7 dL_law_660 rfl rfl ?_
      refine g_iload 664 C 0 dL_law_662 rfl rfl ?_
      refine g_dup2 665 C dL_law_664 rfl rfl rfl ?_
      refine g_iaload 666 C 14 dL_law_665 rfl rfl (by omega) ?_
      refine g_aload 668 C 6 dL_law_666 rfl rfl ?_
      refine g_iload 670 C 0 dL_law_668 rfl rfl ?_
      refine g_iaload 671 C 15 dL_law_670 rfl rfl (by omega) ?_
      have ef : uI qf1 k (qf1 k + 1) k = qf1 k + 1 := uI_eq _ _ _
      refine g_iconst 672 C dL_law_671 rfl ?_
      refine g_icmp_ne 679 675 C dL_law_672 (by decide) rfl (by omega) ?_ ?_
      · intro h672
        refine g_iconst 680 C dL_law_679 rfl ?_
        refine g_iadd 681 C dL_law_680 rfl ?_
        refine g_iastore (ws' := [(_, .inr (5, [_, _, _, _, _, _, _])), (_, .inr (1, [_, _, _, _])), (_, aI _ _ _), (_, aI _ _ _), (_, .inr (2, [_, _, _])), (_, aI _ _ _), (_, aI _ _ _), (_, .inr (3, [_, _, _, _, _, _, _, _, _, _, _, _, _])), (_, aI _ _ _), (_, aI _ _ _), (_, aI _ _ _), (_, aZ _ _ _), (_, aI _ _ _), (_, aI _ _ _), (_, aI _ _ _), (_, aI _ _ _), (_, aI _ _ _), (_, aI _ _ _)]) 682 C 14 dL_law_681 rfl rfl (by omega) rfl ?_
        refine g_aload 684 C 6 dL_law_682 rfl rfl ?_
        refine g_iload 686 C 0 dL_law_684 rfl rfl ?_
        refine g_aload 688 C 6 dL_law_686 rfl rfl ?_
        refine g_iload 690 C 0 dL_law_688 rfl rfl ?_
        refine g_iaload 691 C 15 dL_law_690 rfl rfl (by omega) ?_
        refine g_iconst 692 C dL_law_691 rfl ?_
        refine g_icmp_ne 699 695 C dL_law_692 (by decide) rfl (by omega) ?_ (fun h692 => absurd h692 (by omega))
        intro h692
        refine g_aload 701 C 6 dL_law_699 rfl rfl ?_
        refine g_iload 703 C 0 dL_law_701 rfl rfl ?_
        refine g_iaload 704 C 15 dL_law_703 rfl rfl (by omega) ?_
        refine g_iastore (ws' := [(_, .inr (5, [_, _, _, _, _, _, _])), (_, .inr (1, [_, _, _, _])), (_, aI _ _ _), (_, aI _ _ _), (_, .inr (2, [_, _, _])), (_, aI _ _ _), (_, aI _ _ _), (_, .inr (3, [_, _, _, _, _, _, _, _, _, _, _, _, _])), (_, aI _ _ _), (_, aI _ _ _), (_, aI _ _ _), (_, aZ _ _ _), (_, aI _ _ _), (_, aI _ _ _), (_, aI _ _ _), (_, aI _ _ _), (_, aI _ _ _), (_, aI _ _ _)]) 705 C 15 dL_law_704 rfl rfl (by omega) rfl ?_
        refine g_loop (α := Int) (fun zz => [(a_X, .inr (5, [.ref a_P, .ref a_L, .ref a_R, .ref a_D, .ref a_Q, .int (iI tr), .int (iI ft)])), (a_P, .inr (1, [.ref a_hs, .ref a_se, .int (iI W), .int (iI h)])), (a_hs, aI E 200 hs), (a_se, aI E 100 se), (a_L, .inr (2, [.ref a_pc, .ref a_tn, .int (iI n)])), (a_pc, aI E 25 pc), (a_tn, aI E 25 tn), (a_R, .inr (3, [.ref a_P, .ref a_L, .ref a_sh, .ref a_fi, .ref a_wa, .ref a_us, .ref a_ly, .ref a_jl, .int (iI 0), .int (iI fo), .int (iI sp), .int (iI fd), .int (iI tc)])), (a_sh, aI E 400 sh), (a_fi, aI E 400 fi), (a_wa, aI E 100 wa), (a_us, aZ E 25 us), (a_ly, aI E 25 ly), (a_jl, aI E 25 jl), (a_at, aI E 10 (uI qa1 k zz)), (a_fu, aI E 10 (uI qf1 k ((q1 k + 1) % 4))), (a_fi2, aI E 20 fi1), (a_ui, aI E 10 us1)]) (fun zz => [(18, .int (iI k)), (17, .int (iI ft1)), (16, .int (iI tc1)), (15, .int (iI fd1)), (14, .ref a_ui), (13, .ref a_fi2), (12, .ref a_fu), (11, .ref a_at), (7, .int (iI n)), (6, .int (iI wf)), (5, .int (iI (nsd W h))), (4, .int (iI (W * h))), (3, .int (iI h)), (2, .int (iI W)), (1, .ref a_X), (0, .ref b)]) (fun zz => ((q1 k + 1) / 4 ≤ zz ∧ zz ≤ 26) ∧ ∀ j : Int, (q1 k + 1) / 4 ≤ j → j < zz → j < n ∧ us1 j ≠ 0) (fun zz => (26 - zz).toNat) (((q1 k + 1) / 4)) (by
            try dsimp only
            exact ⟨by omega, fun j h1 h2 => by omega⟩) [0, 1, 2, 3, 4, 5, 6, 7, 8, 9, 10, 11, 12, 13, 14, 15] (by (try dsimp only); first | rw [uI_2, show (q1 k + 1) % 4 = 0 by omega, show (q1 k + 1) / 4 = qa1 k + 1 by omega] | rw [uI_eq, uI_2, show (q1 k + 1) % 4 = qf1 k + 1 by omega, show (q1 k + 1) / 4 = qa1 k + 0 by omega]) rfl ?_
        rintro a hI ih705
        try dsimp only at hI ih705 ⊢
        obtain ⟨ha1, ha2⟩ := hI
        refine g_aload 707 C 7 dL_law_705 rfl rfl ?_
        refine g_iload 709 C 0 dL_law_707 rfl rfl ?_
        refine g_iaload 710 C 14 dL_law_709 rfl rfl (by omega) ?_
        have ea : uI qa1 k a k = a := uI_eq _ _ _
        refine g_iload 712 C 8 dL_law_710 rfl rfl ?_
        refine g_icmp_ge 739 715 C dL_law_712 (by decide) rfl (by omega) ?_ ?_
        · intro h712
          refine g_aload 741 C 7 dL_law_739 rfl rfl ?_
          refine g_iload 743 C 0 dL_law_741 rfl rfl ?_
          refine g_iaload 744 C 14 dL_law_743 rfl rfl (by omega) ?_
          have hsk : skp u1 n ((q1 k + 1) / 4) = a := skp_u (by omega) (by omega) ha1.1 ha1.2 (fun j h1 h2 => by have y := ha2 j h1 h2; have z := hms.2 j (by omega); omega) (by first | exact Or.inl (by omega) | exact Or.inr (by have z := hms.2 a (by omega); omega))
          refine g_iload 746 C 8 dL_law_744 rfl rfl ?_
          refine g_icmp_lt 769 749 C dL_law_746 (by decide) rfl (by omega) (fun h746 => absurd h746 (by omega)) ?_
          intro h746
          refine g_iinc (lv' := [(18, _), (17, _), (16, _), (15, _), (14, _), (13, _), (12, _), (11, _), (7, _), (6, _), (5, _), (4, _), (3, _), (2, _), (1, _), (0, _)]) 752 C 0 dL_law_749 rfl rfl (by decide) rfl ?_
          refine g_iload 754 C 0 dL_law_752 rfl rfl ?_
          refine g_if_lt 639 757 C dL_law_754 (by decide) rfl (by omega) ?_ ?_
          · intro h754
            exact g_w [0, 1, 2, 3, 4, 5, 6, 7, 8, 9, 10, 11, 12, 13, 14, 15] rfl rfl (ih639 ((uI qa1 k a), (uI qf1 k ((q1 k + 1) % 4)), fi1, us1, fd1, tc1, ft1, (k + -1)) (by
            try dsimp only
            exact li_b0 hb hI1 hms hfs hsk (by omega) (by omega)) (by (try dsimp only); omega))
          · intro h754
            refine g_aload 759 C 4 dL_law_757 rfl rfl ?_
            refine g_aload 761 C 7 dL_law_759 rfl rfl ?_
            refine g_iload 763 C 0 dL_law_761 rfl rfl ?_
            refine g_iaload 764 C 14 dL_law_763 rfl rfl (by omega) ?_
            have ea2 : uI qa1 k a (k + -1) = qa1 (k + -1) := uI_ne (by omega)
            have hQ2 := hms.1 (k + -1) (by omega)
            refine g_iconst 765 C dL_law_764 rfl ?_
            refine g_iastore (ws' := [(_, .inr (5, [_, _, _, _, _, _, _])), (_, .inr (1, [_, _, _, _])), (_, aI _ _ _), (_, aI _ _ _), (_, .inr (2, [_, _, _])), (_, aI _ _ _), (_, aI _ _ _), (_, .inr (3, [_, _, _, _, _, _, _, _, _, _, _, _, _])), (_, aI _ _ _), (_, aI _ _ _), (_, aI _ _ _), (_, aZ _ _ _), (_, aI _ _ _), (_, aI _ _ _), (_, aI _ _ _), (_, aI _ _ _), (_, aI _ _ _), (_, aI _ _ _)]) 766 C 17 dL_law_765 rfl rfl (by omega) rfl ?_
            refine g_goto 639 C dL_law_766 (by decide) ?_
            exact g_w [0, 1, 2, 3, 4, 5, 6, 7, 8, 9, 10, 11, 12, 13, 14, 15] rfl rfl (ih639 ((uI qa1 k a), (uI qf1 k ((q1 k + 1) % 4)), fi1, (uI us1 (uI qa1 k a (k + -1)) 0), fd1, tc1, ft1, (k + -1)) (by
            try dsimp only
            exact li_bk hb hI1 hms hfs hsk (by omega) (by omega) (by omega)) (by (try dsimp only); omega))
        · intro h712
          refine g_aload 717 C 4 dL_law_715 rfl rfl ?_
          refine g_aload 719 C 7 dL_law_717 rfl rfl ?_
          refine g_iload 721 C 0 dL_law_719 rfl rfl ?_
          refine g_iaload 722 C 14 dL_law_721 rfl rfl (by omega) ?_
          have hua := hms.2 a (by omega)
          have eu : us1 (uI qa1 k a k) = us1 a := by rw [uI_eq]
          refine g_iaload 723 C 17 dL_law_722 rfl rfl (by omega) ?_
          refine g_iconst 724 C dL_law_723 rfl ?_
          refine g_icmp_ne 739 727 C dL_law_724 (by decide) rfl (by omega) ?_ ?_
          · intro h724
            refine g_aload 741 C 7 dL_law_739 rfl rfl ?_
            refine g_iload 743 C 0 dL_law_741 rfl rfl ?_
            refine g_iaload 744 C 14 dL_law_743 rfl rfl (by omega) ?_
            have hsk : skp u1 n ((q1 k + 1) / 4) = a := skp_u (by omega) (by omega) ha1.1 ha1.2 (fun j h1 h2 => by have y := ha2 j h1 h2; have z := hms.2 j (by omega); omega) (by first | exact Or.inl (by omega) | exact Or.inr (by have z := hms.2 a (by omega); omega))
            refine g_iload 746 C 8 dL_law_744 rfl rfl ?_
            refine g_icmp_lt 769 749 C dL_law_746 (by decide) rfl (by omega) ?_ (fun h746 => absurd h746 (by omega))
            intro h746
            refine g_iinc (lv' := [(16, _), (18, _), (17, _), (15, _), (14, _), (13, _), (12, _), (11, _), (7, _), (6, _), (5, _), (4, _), (3, _), (2, _), (1, _), (0, _)]) 772 C 2 dL_law_769 rfl rfl (by decide) rfl ?_
            refine g_aload_n 773 C 14 dL_law_772 rfl rfl ?_
            refine g_iload_n 774 C 13 dL_law_773 rfl rfl ?_
            refine g_iload_n 775 C 12 dL_law_774 rfl rfl ?_
            refine g_iload 777 C 1 dL_law_775 rfl rfl ?_
            refine g_aload 779 C 7 dL_law_777 rfl rfl ?_
            refine g_iload 781 C 1 dL_law_779 rfl rfl ?_
            refine g_iaload 782 C 14 dL_law_781 rfl rfl (by omega) ?_
            refine g_aload 784 C 6 dL_law_782 rfl rfl ?_
            refine g_iload 786 C 1 dL_law_784 rfl rfl ?_
            refine g_iaload 787 C 15 dL_law_786 rfl rfl (by omega) ?_
            refine g_aload 789 C 7 dL_law_787 rfl rfl ?_
            have ef2 : uI qf1 k ((q1 k + 1) % 4) k = (q1 k + 1) % 4 := uI_eq _ _ _
            refine g_aload 791 C 6 dL_law_789 rfl rfl ?_
            refine g_callSF 794 C [0, 1, 2, 3, 4, 5, 6, 14, 15] dL_law_791 rfl (k_L_fits E l (q := uI q1 k (a * 4 + (q1 k + 1) % 4)) (by first | assumption | omega) (by first | assumption | omega) (by first | assumption | omega) (by first | assumption | omega) (by first | assumption | omega) (by omega) (by omega) (by omega) (by omega) (by rw [uI_eq, uI_eq, uI_eq]) (fun j hj => ms_q (by omega) (by omega) hms j (by omega))) (va_cwS 8 C.2.2.2.2.1 gL_law_L_fits rfl rfl rfl cdL_fits ⟨Nat.le_of_ble_eq_true rfl, Nat.le_of_ble_eq_true rfl⟩) rfl rfl rfl rfl (Nat.le_of_ble_eq_true rfl) ⟨Nat.le_of_ble_eq_true rfl, Nat.le_of_ble_eq_true rfl⟩ ?_
            refine g_ifb_ne 800 797 C dL_law_794 (by decide) rfl ?_ ?_
            · intro h794
              refine g_iload 802 C 1 dL_law_800 rfl rfl ?_
              refine g_iload 804 C 11 dL_law_802 rfl rfl ?_
              refine g_iconst 805 C dL_law_804 rfl ?_
              refine g_isub 806 C dL_law_805 rfl ?_
              refine g_icmp_ne 876 809 C dL_law_806 (by decide) rfl (by omega) ?_ ?_
              · intro h806
                refine g_aload 878 C 4 dL_law_876 rfl rfl ?_
                refine g_aload 880 C 7 dL_law_878 rfl rfl ?_
                refine g_iload 882 C 1 dL_law_880 rfl rfl ?_
                refine g_iaload 883 C 14 dL_law_882 rfl rfl (by omega) ?_
                refine g_iconst 884 C dL_law_883 rfl ?_
                refine g_iastore (ws' := [(_, .inr (5, [_, _, _, _, _, _, _])), (_, .inr (1, [_, _, _, _])), (_, aI _ _ _), (_, aI _ _ _), (_, .inr (2, [_, _, _])), (_, aI _ _ _), (_, aI _ _ _), (_, .inr (3, [_, _, _, _, _, _, _, _, _, _, _, _, _])), (_, aI _ _ _), (_, aI _ _ _), (_, aI _ _ _), (_, aZ _ _ _), (_, aI _ _ _), (_, aI _ _ _), (_, aI _ _ _), (_, aI _ _ _), (_, aI _ _ _), (_, aI _ _ _)]) 885 C 17 dL_law_884 rfl rfl (by omega) rfl ?_
                refine g_iinc (lv' := [(18, _), (16, _), (17, _), (15, _), (14, _), (13, _), (12, _), (11, _), (7, _), (6, _), (5, _), (4, _), (3, _), (2, _), (1, _), (0, _)]) 888 C 1 dL_law_885 rfl rfl (by decide) rfl ?_
                refine g_aload 890 C 7 dL_law_888 rfl rfl ?_
                refine g_iload 892 C 0 dL_law_890 rfl rfl ?_
                refine g_iconst 893 C dL_law_892 rfl ?_
                refine g_iastore (ws' := [(_, .inr (5, [_, _, _, _, _, _, _])), (_, .inr (1, [_, _, _, _])), (_, aI _ _ _), (_, aI _ _ _), (_, .inr (2, [_, _, _])), (_, aI _ _ _), (_, aI _ _ _), (_, .inr (3, [_, _, _, _, _, _, _, _, _, _, _, _, _])), (_, aI _ _ _), (_, aI _ _ _), (_, aI _ _ _), (_, aZ _ _ _), (_, aI _ _ _), (_, aI _ _ _), (_, aI _ _ _), (_, aI _ _ _), (_, aI _ _ _), (_, aI _ _ _)]) 894 C 14 dL_law_893 rfl rfl (by omega) rfl ?_
                refine g_aload 896 C 6 dL_law_894 rfl rfl ?_
                refine g_iload 898 C 0 dL_law_896 rfl rfl ?_
                refine g_iconst 899 C dL_law_898 rfl ?_
                refine g_iastore (ws' := [(_, .inr (5, [_, _, _, _, _, _, _])), (_, .inr (1, [_, _, _, _])), (_, aI _ _ _), (_, aI _ _ _), (_, .inr (2, [_, _, _])), (_, aI _ _ _), (_, aI _ _ _), (_, .inr (3, [_, _, _, _, _, _, _, _, _, _, _, _, _])), (_, aI _ _ _), (_, aI _ _ _), (_, aI _ _ _), (_, aZ _ _ _), (_, aI _ _ _), (_, aI _ _ _), (_, aI _ _ _), (_, aI _ _ _), (_, aI _ _ _), (_, aI _ _ _)]) 900 C 15 dL_law_899 rfl rfl (by omega) rfl ?_
                refine g_goto 639 C dL_law_900 (by decide) ?_
                exact g_w [0, 2, 1, 3, 4, 5, 6, 7, 8, 9, 10, 11, 12, 13, 14, 15] rfl rfl (ih639 ((uI (uI qa1 k a) (k + 1) 0), (uI (uI qf1 k ((q1 k + 1) % 4)) (k + 1) (-1)), fi1, (uI us1 (uI qa1 k a k) 1), fd1, (tc1 + 1), ft1, (k + 1)) (by
            try dsimp only
            exact li_dn hb hI1 hms hfs hsk (by omega) (by omega) h794 (by omega)) (by (try dsimp only); omega))
              · intro h806
                rcases (by omega : fd1 = 0 ∨ fd1 ≠ 0) with hf0 | hf0
                · skip
                  refine g_iconst 810 C dL_law_809 rfl ?_
                  refine g_istore (lv' := [(19, _), (16, _), (18, _), (17, _), (15, _), (14, _), (13, _), (12, _), (11, _), (7, _), (6, _), (5, _), (4, _), (3, _), (2, _), (1, _), (0, _)]) 812 C dL_law_810 rfl (by decide) rfl ?_
                  refine g_loop (α := (Int → Int) × Int) (fun zz => [(a_X, .inr (5, [.ref a_P, .ref a_L, .ref a_R, .ref a_D, .ref a_Q, .int (iI tr), .int (iI ft)])), (a_P, .inr (1, [.ref a_hs, .ref a_se, .int (iI W), .int (iI h)])), (a_hs, aI E 200 hs), (a_se, aI E 100 se), (a_L, .inr (2, [.ref a_pc, .ref a_tn, .int (iI n)])), (a_pc, aI E 25 pc), (a_tn, aI E 25 tn), (a_R, .inr (3, [.ref a_P, .ref a_L, .ref a_sh, .ref a_fi, .ref a_wa, .ref a_us, .ref a_ly, .ref a_jl, .int (iI 0), .int (iI fo), .int (iI sp), .int (iI fd), .int (iI tc)])), (a_sh, aI E 400 sh), (a_fi, aI E 400 fi), (a_wa, aI E 100 wa), (a_us, aZ E 25 us), (a_ly, aI E 25 ly), (a_jl, aI E 25 jl), (a_at, aI E 10 (uI qa1 k a)), (a_fu, aI E 10 (uI qf1 k ((q1 k + 1) % 4))), (a_fi2, aI E 20 zz.1), (a_ui, aI E 10 us1)]) (fun zz => [(19, .int (iI zz.2)), (18, .int (iI k)), (17, .int (iI ft1)), (16, .int (iI (tc1 + 1))), (15, .int (iI fd1)), (14, .ref a_ui), (13, .ref a_fi2), (12, .ref a_fu), (11, .ref a_at), (7, .int (iI n)), (6, .int (iI wf)), (5, .int (iI (nsd W h))), (4, .int (iI (W * h))), (3, .int (iI h)), (2, .int (iI W)), (1, .ref a_X), (0, .ref b)]) (fun zz => (0 ≤ zz.2 ∧ zz.2 ≤ W * h) ∧ ∀ j : Int, 0 ≤ j ∧ j < zz.2 → zz.1 (2 * j) = uI qa1 k a j ∧ zz.1 (2 * j + 1) = uI qf1 k ((q1 k + 1) % 4) j) (fun zz => (W * h - zz.2).toNat) (fi1, 0) (by
            try dsimp only
            exact ⟨by omega, fun j hj => by omega⟩) [0, 2, 3, 1, 4, 5, 6, 7, 8, 9, 10, 11, 12, 13, 14, 15, 16] rfl rfl ?_
                  rintro ⟨g, z⟩ hI ih812
                  try dsimp only at hI ih812 ⊢
                  obtain ⟨hz, hg⟩ := hI
                  refine g_iload 814 C 0 dL_law_812 rfl rfl ?_
                  refine g_iload 816 C 12 dL_law_814 rfl rfl ?_
                  refine g_icmp_ge 856 819 C dL_law_816 (by decide) rfl (by omega) ?_ ?_
                  · intro h816
                    refine g_iload 858 C 4 dL_law_856 rfl rfl ?_
                    refine g_if_ne 866 861 C dL_law_858 (by decide) rfl (by omega) (fun h858 => absurd h858 (by omega)) ?_
                    intro h858
                    refine g_iload 863 C 3 dL_law_861 rfl rfl ?_
                    refine g_goto 868 C dL_law_863 (by decide) ?_
                    refine g_istore (lv' := [(17, _), (19, _), (18, _), (16, _), (15, _), (14, _), (13, _), (12, _), (11, _), (7, _), (6, _), (5, _), (4, _), (3, _), (2, _), (1, _), (0, _)]) 870 C dL_law_868 rfl (by decide) rfl ?_
                    refine g_iinc (lv' := [(15, _), (17, _), (19, _), (18, _), (16, _), (14, _), (13, _), (12, _), (11, _), (7, _), (6, _), (5, _), (4, _), (3, _), (2, _), (1, _), (0, _)]) 873 C 4 dL_law_870 rfl rfl (by decide) rfl ?_
                    refine g_goto 639 C dL_law_873 (by decide) ?_
                    exact g_w [3, 1, 4, 0, 5, 6, 7, 8, 9, 10, 11, 12, 13, 14, 15, 16] rfl rfl (ih639 ((uI qa1 k a), (uI qf1 k ((q1 k + 1) % 4)), g, us1, (fd1 + 1), (tc1 + 1), (tc1 + 1), k) (by
            try dsimp only
            exact li_l0 hb hI1 hms hfs hsk (by omega) (by omega) h794 (by omega) hf0 (fun j hj => hg j (by omega))) (by (try dsimp only); omega))
                  · intro h816
                    refine g_iload 821 C 4 dL_law_819 rfl rfl ?_
                    refine g_if_ne 856 824 C dL_law_821 (by decide) rfl (by omega) (fun h821 => absurd h821 (by omega)) ?_
                    intro h821
                    refine g_aload 826 C 6 dL_law_824 rfl rfl ?_
                    refine g_iconst 827 C dL_law_826 rfl ?_
                    refine g_iload 829 C 0 dL_law_827 rfl rfl ?_
                    refine g_imul 830 C dL_law_829 rfl ?_
                    refine g_aload 832 C 8 dL_law_830 rfl rfl ?_
                    refine g_iload 834 C 0 dL_law_832 rfl rfl ?_
                    refine g_iaload 835 C 14 dL_law_834 rfl rfl (by omega) ?_
                    refine g_iastore (ws' := [(_, .inr (5, [_, _, _, _, _, _, _])), (_, .inr (1, [_, _, _, _])), (_, aI _ _ _), (_, aI _ _ _), (_, .inr (2, [_, _, _])), (_, aI _ _ _), (_, aI _ _ _), (_, .inr (3, [_, _, _, _, _, _, _, _, _, _, _, _, _])), (_, aI _ _ _), (_, aI _ _ _), (_, aI _ _ _), (_, aZ _ _ _), (_, aI _ _ _), (_, aI _ _ _), (_, aI _ _ _), (_, aI _ _ _), (_, aI _ _ _), (_, aI _ _ _)]) 836 C 16 dL_law_835 rfl rfl (by omega) rfl ?_
                    refine g_aload 838 C 6 dL_law_836 rfl rfl ?_
                    refine g_iconst 839 C dL_law_838 rfl ?_
                    refine g_iload 841 C 0 dL_law_839 rfl rfl ?_
                    refine g_imul 842 C dL_law_841 rfl ?_
                    refine g_iconst 843 C dL_law_842 rfl ?_
                    refine g_iadd 844 C dL_law_843 rfl ?_
                    refine g_aload 846 C 7 dL_law_844 rfl rfl ?_
                    refine g_iload 848 C 0 dL_law_846 rfl rfl ?_
                    refine g_iaload 849 C 15 dL_law_848 rfl rfl (by omega) ?_
                    refine g_iastore (ws' := [(_, .inr (5, [_, _, _, _, _, _, _])), (_, .inr (1, [_, _, _, _])), (_, aI _ _ _), (_, aI _ _ _), (_, .inr (2, [_, _, _])), (_, aI _ _ _), (_, aI _ _ _), (_, .inr (3, [_, _, _, _, _, _, _, _, _, _, _, _, _])), (_, aI _ _ _), (_, aI _ _ _), (_, aI _ _ _), (_, aZ _ _ _), (_, aI _ _ _), (_, aI _ _ _), (_, aI _ _ _), (_, aI _ _ _), (_, aI _ _ _), (_, aI _ _ _)]) 850 C 16 dL_law_849 rfl rfl (by omega) rfl ?_
                    refine g_iinc (lv' := [(19, _), (18, _), (17, _), (16, _), (15, _), (14, _), (13, _), (12, _), (11, _), (7, _), (6, _), (5, _), (4, _), (3, _), (2, _), (1, _), (0, _)]) 853 C 0 dL_law_850 rfl rfl (by decide) rfl ?_
                    refine g_goto 812 C dL_law_853 (by decide) ?_
                    exact g_w [0, 1, 2, 3, 4, 5, 6, 7, 8, 9, 10, 11, 12, 13, 14, 15, 16] rfl rfl (ih812 ((uI (uI g (2 * z) (uI qa1 k a z)) (2 * z + 1) (uI qf1 k ((q1 k + 1) % 4) z)), (z + 1)) (by
            try dsimp only
            exact ⟨by omega, fun j hj => by
              by_cases y : j = z
              · rw [y]; exact ⟨uI_21 (by omega), uI_eq _ _ _⟩
              · rw [uI_2ne (by omega) (by omega), uI_2ne (by omega) (by omega)]; exact hg j (by omega)⟩) (by (try dsimp only); omega))
                · skip
                  refine g_iconst 810 C dL_law_809 rfl ?_
                  refine g_istore (lv' := [(19, _), (16, _), (18, _), (17, _), (15, _), (14, _), (13, _), (12, _), (11, _), (7, _), (6, _), (5, _), (4, _), (3, _), (2, _), (1, _), (0, _)]) 812 C dL_law_810 rfl (by decide) rfl ?_
                  refine g_iload 814 C 0 dL_law_812 rfl rfl ?_
                  refine g_iload 816 C 12 dL_law_814 rfl rfl ?_
                  refine g_icmp_ge 856 819 C dL_law_816 (by decide) rfl (by omega) (fun h816 => absurd h816 (by omega)) ?_
                  intro h816
                  refine g_iload 821 C 4 dL_law_819 rfl rfl ?_
                  refine g_if_ne 856 824 C dL_law_821 (by decide) rfl (by omega) ?_ (fun h821 => absurd h821 (by omega))
                  intro h821
                  refine g_iload 858 C 4 dL_law_856 rfl rfl ?_
                  refine g_if_ne 866 861 C dL_law_858 (by decide) rfl (by omega) ?_ (fun h858 => absurd h858 (by omega))
                  intro h858
                  refine g_iload 868 C 3 dL_law_866 rfl rfl ?_
                  refine g_istore (lv' := [(17, _), (19, _), (16, _), (18, _), (15, _), (14, _), (13, _), (12, _), (11, _), (7, _), (6, _), (5, _), (4, _), (3, _), (2, _), (1, _), (0, _)]) 870 C dL_law_868 rfl (by decide) rfl ?_
                  refine g_iinc (lv' := [(15, _), (17, _), (19, _), (16, _), (18, _), (14, _), (13, _), (12, _), (11, _), (7, _), (6, _), (5, _), (4, _), (3, _), (2, _), (1, _), (0, _)]) 873 C 4 dL_law_870 rfl rfl (by decide) rfl ?_
                  refine g_goto 639 C dL_law_873 (by decide) ?_
                  exact g_w [4, 1, 3, 0, 5, 6, 7, 8, 9, 10, 11, 12, 13, 14, 15, 16] rfl rfl (ih639 ((uI qa1 k a), (uI qf1 k ((q1 k + 1) % 4)), fi1, us1, (fd1 + 1), (tc1 + 1), ft1, k) (by
            try dsimp only
            exact li_l1 hb hI1 hms hfs hsk (by omega) (by omega) h794 (by omega) hf0) (by (try dsimp only); omega))
            · intro h794
              refine g_goto 639 C dL_law_797 (by decide) ?_
              exact g_w [1, 2, 0, 3, 4, 5, 6, 7, 8, 9, 10, 11, 12, 13, 14, 15] rfl rfl (ih639 ((uI qa1 k a), (uI qf1 k ((q1 k + 1) % 4)), fi1, us1, fd1, (tc1 + 1), ft1, k) (by
            try dsimp only
            exact li_nf hb hI1 hms hfs hsk (by omega) (by omega) h794) (by (try dsimp only); omega))
          · intro h724
            refine g_aload 729 C 7 dL_law_727 rfl rfl ?_
            refine g_iload 731 C 0 dL_law_729 rfl rfl ?_
            refine g_dup2 732 C dL_law_731 rfl rfl rfl ?_
            refine g_iaload 733 C 14 dL_law_732 rfl rfl (by omega) ?_
            refine g_iconst 734 C dL_law_733 rfl ?_
            refine g_iadd 735 C dL_law_734 rfl ?_
            refine g_iastore (ws' := [(_, .inr (5, [_, _, _, _, _, _, _])), (_, .inr (1, [_, _, _, _])), (_, aI _ _ _), (_, aI _ _ _), (_, .inr (2, [_, _, _])), (_, aI _ _ _), (_, aI _ _ _), (_, .inr (3, [_, _, _, _, _, _, _, _, _, _, _, _, _])), (_, aI _ _ _), (_, aI _ _ _), (_, aI _ _ _), (_, aZ _ _ _), (_, aI _ _ _), (_, aI _ _ _), (_, aI _ _ _), (_, aI _ _ _), (_, aI _ _ _), (_, aI _ _ _)]) 736 C 14 dL_law_735 rfl rfl (by omega) rfl ?_
            refine g_goto 705 C dL_law_736 (by decide) ?_
            exact g_w [0, 1, 2, 3, 4, 5, 6, 7, 8, 9, 10, 11, 12, 13, 14, 15] (by (try dsimp only); rw [uI_2, uI_eq]) rfl (ih705 ((a + 1)) (by
            try dsimp only
            exact ⟨by omega, fun j h1 h2 => by
              by_cases z : j = a
              · rw [z]; exact ⟨by omega, by omega⟩
              · exact ha2 j h1 (by omega)⟩) (by (try dsimp only); omega))
      · intro h672
        refine g_iconst 676 C dL_law_675 rfl ?_
        refine g_goto 680 C dL_law_676 (by decide) ?_
        refine g_iadd 681 C dL_law_680 rfl ?_
        refine g_iastore (ws' := [(_, .inr (5, [_, _, _, _, _, _, _])), (_, .inr (1, [_, _, _, _])), (_, aI _ _ _), (_, aI _ _ _), (_, .inr (2, [_, _, _])), (_, aI _ _ _), (_, aI _ _ _), (_, .inr (3, [_, _, _, _, _, _, _, _, _, _, _, _, _])), (_, aI _ _ _), (_, aI _ _ _), (_, aI _ _ _), (_, aZ _ _ _), (_, aI _ _ _), (_, aI _ _ _), (_, aI _ _ _), (_, aI _ _ _), (_, aI _ _ _), (_, aI _ _ _)]) 682 C 14 dL_law_681 rfl rfl (by omega) rfl ?_
        refine g_aload 684 C 6 dL_law_682 rfl rfl ?_
        refine g_iload 686 C 0 dL_law_684 rfl rfl ?_
        refine g_aload 688 C 6 dL_law_686 rfl rfl ?_
        refine g_iload 690 C 0 dL_law_688 rfl rfl ?_
        refine g_iaload 691 C 15 dL_law_690 rfl rfl (by omega) ?_
        refine g_iconst 692 C dL_law_691 rfl ?_
        refine g_icmp_ne 699 695 C dL_law_692 (by decide) rfl (by omega) (fun h692 => absurd h692 (by omega)) ?_
        intro h692
        refine g_iconst 696 C dL_law_695 rfl ?_
        refine g_goto 704 C dL_law_696 (by decide) ?_
        refine g_iastore (ws' := [(_, .inr (5, [_, _, _, _, _, _, _])), (_, .inr (1, [_, _, _, _])), (_, aI _ _ _), (_, aI _ _ _), (_, .inr (2, [_, _, _])), (_, aI _ _ _), (_, aI _ _ _), (_, .inr (3, [_, _, _, _, _, _, _, _, _, _, _, _, _])), (_, aI _ _ _), (_, aI _ _ _), (_, aI _ _ _), (_, aZ _ _ _), (_, aI _ _ _), (_, aI _ _ _), (_, aI _ _ _), (_, aI _ _ _), (_, aI _ _ _), (_, aI _ _ _)]) 705 C 15 dL_law_704 rfl rfl (by omega) rfl ?_
        refine g_loop (α := Int) (fun zz => [(a_X, .inr (5, [.ref a_P, .ref a_L, .ref a_R, .ref a_D, .ref a_Q, .int (iI tr), .int (iI ft)])), (a_P, .inr (1, [.ref a_hs, .ref a_se, .int (iI W), .int (iI h)])), (a_hs, aI E 200 hs), (a_se, aI E 100 se), (a_L, .inr (2, [.ref a_pc, .ref a_tn, .int (iI n)])), (a_pc, aI E 25 pc), (a_tn, aI E 25 tn), (a_R, .inr (3, [.ref a_P, .ref a_L, .ref a_sh, .ref a_fi, .ref a_wa, .ref a_us, .ref a_ly, .ref a_jl, .int (iI 0), .int (iI fo), .int (iI sp), .int (iI fd), .int (iI tc)])), (a_sh, aI E 400 sh), (a_fi, aI E 400 fi), (a_wa, aI E 100 wa), (a_us, aZ E 25 us), (a_ly, aI E 25 ly), (a_jl, aI E 25 jl), (a_at, aI E 10 (uI qa1 k zz)), (a_fu, aI E 10 (uI qf1 k ((q1 k + 1) % 4))), (a_fi2, aI E 20 fi1), (a_ui, aI E 10 us1)]) (fun zz => [(18, .int (iI k)), (17, .int (iI ft1)), (16, .int (iI tc1)), (15, .int (iI fd1)), (14, .ref a_ui), (13, .ref a_fi2), (12, .ref a_fu), (11, .ref a_at), (7, .int (iI n)), (6, .int (iI wf)), (5, .int (iI (nsd W h))), (4, .int (iI (W * h))), (3, .int (iI h)), (2, .int (iI W)), (1, .ref a_X), (0, .ref b)]) (fun zz => ((q1 k + 1) / 4 ≤ zz ∧ zz ≤ 26) ∧ ∀ j : Int, (q1 k + 1) / 4 ≤ j → j < zz → j < n ∧ us1 j ≠ 0) (fun zz => (26 - zz).toNat) (((q1 k + 1) / 4)) (by
            try dsimp only
            exact ⟨by omega, fun j h1 h2 => by omega⟩) [0, 1, 2, 3, 4, 5, 6, 7, 8, 9, 10, 11, 12, 13, 14, 15] (by (try dsimp only); first | rw [uI_2, show (q1 k + 1) % 4 = 0 by omega, show (q1 k + 1) / 4 = qa1 k + 1 by omega] | rw [uI_eq, uI_2, show (q1 k + 1) % 4 = qf1 k + 1 by omega, show (q1 k + 1) / 4 = qa1 k + 0 by omega]) rfl ?_
        rintro a hI ih705
        try dsimp only at hI ih705 ⊢
        obtain ⟨ha1, ha2⟩ := hI
        refine g_aload 707 C 7 dL_law_705 rfl rfl ?_
        refine g_iload 709 C 0 dL_law_707 rfl rfl ?_
        refine g_iaload 710 C 14 dL_law_709 rfl rfl (by omega) ?_
        have ea : uI qa1 k a k = a := uI_eq _ _ _
        refine g_iload 712 C 8 dL_law_710 rfl rfl ?_
        refine g_icmp_ge 739 715 C dL_law_712 (by decide) rfl (by omega) ?_ ?_
        · intro h712
          refine g_aload 741 C 7 dL_law_739 rfl rfl ?_
          refine g_iload 743 C 0 dL_law_741 rfl rfl ?_
          refine g_iaload 744 C 14 dL_law_743 rfl rfl (by omega) ?_
          have hsk : skp u1 n ((q1 k + 1) / 4) = a := skp_u (by omega) (by omega) ha1.1 ha1.2 (fun j h1 h2 => by have y := ha2 j h1 h2; have z := hms.2 j (by omega); omega) (by first | exact Or.inl (by omega) | exact Or.inr (by have z := hms.2 a (by omega); omega))
          refine g_iload 746 C 8 dL_law_744 rfl rfl ?_
          refine g_icmp_lt 769 749 C dL_law_746 (by decide) rfl (by omega) (fun h746 => absurd h746 (by omega)) ?_
          intro h746
          refine g_iinc (lv' := [(18, _), (17, _), (16, _), (15, _), (14, _), (13, _), (12, _), (11, _), (7, _), (6, _), (5, _), (4, _), (3, _), (2, _), (1, _), (0, _)]) 752 C 0 dL_law_749 rfl rfl (by decide) rfl ?_
          refine g_iload 754 C 0 dL_law_752 rfl rfl ?_
          refine g_if_lt 639 757 C dL_law_754 (by decide) rfl (by omega) ?_ ?_
          · intro h754
            exact g_w [0, 1, 2, 3, 4, 5, 6, 7, 8, 9, 10, 11, 12, 13, 14, 15] rfl rfl (ih639 ((uI qa1 k a), (uI qf1 k ((q1 k + 1) % 4)), fi1, us1, fd1, tc1, ft1, (k + -1)) (by
            try dsimp only
            exact li_b0 hb hI1 hms hfs hsk (by omega) (by omega)) (by (try dsimp only); omega))
          · intro h754
            refine g_aload 759 C 4 dL_law_757 rfl rfl ?_
            refine g_aload 761 C 7 dL_law_759 rfl rfl ?_
            refine g_iload 763 C 0 dL_law_761 rfl rfl ?_
            refine g_iaload 764 C 14 dL_law_763 rfl rfl (by omega) ?_
            have ea2 : uI qa1 k a (k + -1) = qa1 (k + -1) := uI_ne (by omega)
            have hQ2 := hms.1 (k + -1) (by omega)
            refine g_iconst 765 C dL_law_764 rfl ?_
            refine g_iastore (ws' := [(_, .inr (5, [_, _, _, _, _, _, _])), (_, .inr (1, [_, _, _, _])), (_, aI _ _ _), (_, aI _ _ _), (_, .inr (2, [_, _, _])), (_, aI _ _ _), (_, aI _ _ _), (_, .inr (3, [_, _, _, _, _, _, _, _, _, _, _, _, _])), (_, aI _ _ _), (_, aI _ _ _), (_, aI _ _ _), (_, aZ _ _ _), (_, aI _ _ _), (_, aI _ _ _), (_, aI _ _ _), (_, aI _ _ _), (_, aI _ _ _), (_, aI _ _ _)]) 766 C 17 dL_law_765 rfl rfl (by omega) rfl ?_
            refine g_goto 639 C dL_law_766 (by decide) ?_
            exact g_w [0, 1, 2, 3, 4, 5, 6, 7, 8, 9, 10, 11, 12, 13, 14, 15] rfl rfl (ih639 ((uI qa1 k a), (uI qf1 k ((q1 k + 1) % 4)), fi1, (uI us1 (uI qa1 k a (k + -1)) 0), fd1, tc1, ft1, (k + -1)) (by
            try dsimp only
            exact li_bk hb hI1 hms hfs hsk (by omega) (by omega) (by omega)) (by (try dsimp only); omega))
        · intro h712
          refine g_aload 717 C 4 dL_law_715 rfl rfl ?_
          refine g_aload 719 C 7 dL_law_717 rfl rfl ?_
          refine g_iload 721 C 0 dL_law_719 rfl rfl ?_
          refine g_iaload 722 C 14 dL_law_721 rfl rfl (by omega) ?_
          have hua := hms.2 a (by omega)
          have eu : us1 (uI qa1 k a k) = us1 a := by rw [uI_eq]
          refine g_iaload 723 C 17 dL_law_722 rfl rfl (by omega) ?_
          refine g_iconst 724 C dL_law_723 rfl ?_
          refine g_icmp_ne 739 727 C dL_law_724 (by decide) rfl (by omega) ?_ ?_
          · intro h724
            refine g_aload 741 C 7 dL_law_739 rfl rfl ?_
            refine g_iload 743 C 0 dL_law_741 rfl rfl ?_
            refine g_iaload 744 C 14 dL_law_743 rfl rfl (by omega) ?_
            have hsk : skp u1 n ((q1 k + 1) / 4) = a := skp_u (by omega) (by omega) ha1.1 ha1.2 (fun j h1 h2 => by have y := ha2 j h1 h2; have z := hms.2 j (by omega); omega) (by first | exact Or.inl (by omega) | exact Or.inr (by have z := hms.2 a (by omega); omega))
            refine g_iload 746 C 8 dL_law_744 rfl rfl ?_
            refine g_icmp_lt 769 749 C dL_law_746 (by decide) rfl (by omega) ?_ (fun h746 => absurd h746 (by omega))
            intro h746
            refine g_iinc (lv' := [(16, _), (18, _), (17, _), (15, _), (14, _), (13, _), (12, _), (11, _), (7, _), (6, _), (5, _), (4, _), (3, _), (2, _), (1, _), (0, _)]) 772 C 2 dL_law_769 rfl rfl (by decide) rfl ?_
            refine g_aload_n 773 C 14 dL_law_772 rfl rfl ?_
            refine g_iload_n 774 C 13 dL_law_773 rfl rfl ?_
            refine g_iload_n 775 C 12 dL_law_774 rfl rfl ?_
            refine g_iload 777 C 1 dL_law_775 rfl rfl ?_
            refine g_aload 779 C 7 dL_law_777 rfl rfl ?_
            refine g_iload 781 C 1 dL_law_779 rfl rfl ?_
            refine g_iaload 782 C 14 dL_law_781 rfl rfl (by omega) ?_
            refine g_aload 784 C 6 dL_law_782 rfl rfl ?_
            refine g_iload 786 C 1 dL_law_784 rfl rfl ?_
            refine g_iaload 787 C 15 dL_law_786 rfl rfl (by omega) ?_
            refine g_aload 789 C 7 dL_law_787 rfl rfl ?_
            have ef2 : uI qf1 k ((q1 k + 1) % 4) k = (q1 k + 1) % 4 := uI_eq _ _ _
            refine g_aload 791 C 6 dL_law_789 rfl rfl ?_
            refine g_callSF 794 C [0, 1, 2, 3, 4, 5, 6, 14, 15] dL_law_791 rfl (k_L_fits E l (q := uI q1 k (a * 4 + (q1 k + 1) % 4)) (by first | assumption | omega) (by first | assumption | omega) (by first | assumption | omega) (by first | assumption | omega) (by first | assumption | omega) (by omega) (by omega) (by omega) (by omega) (by rw [uI_eq, uI_eq, uI_eq]) (fun j hj => ms_q (by omega) (by omega) hms j (by omega))) (va_cwS 8 C.2.2.2.2.1 gL_law_L_fits rfl rfl rfl cdL_fits ⟨Nat.le_of_ble_eq_true rfl, Nat.le_of_ble_eq_true rfl⟩) rfl rfl rfl rfl (Nat.le_of_ble_eq_true rfl) ⟨Nat.le_of_ble_eq_true rfl, Nat.le_of_ble_eq_true rfl⟩ ?_
            refine g_ifb_ne 800 797 C dL_law_794 (by decide) rfl ?_ ?_
            · intro h794
              refine g_iload 802 C 1 dL_law_800 rfl rfl ?_
              refine g_iload 804 C 11 dL_law_802 rfl rfl ?_
              refine g_iconst 805 C dL_law_804 rfl ?_
              refine g_isub 806 C dL_law_805 rfl ?_
              refine g_icmp_ne 876 809 C dL_law_806 (by decide) rfl (by omega) ?_ ?_
              · intro h806
                refine g_aload 878 C 4 dL_law_876 rfl rfl ?_
                refine g_aload 880 C 7 dL_law_878 rfl rfl ?_
                refine g_iload 882 C 1 dL_law_880 rfl rfl ?_
                refine g_iaload 883 C 14 dL_law_882 rfl rfl (by omega) ?_
                refine g_iconst 884 C dL_law_883 rfl ?_
                refine g_iastore (ws' := [(_, .inr (5, [_, _, _, _, _, _, _])), (_, .inr (1, [_, _, _, _])), (_, aI _ _ _), (_, aI _ _ _), (_, .inr (2, [_, _, _])), (_, aI _ _ _), (_, aI _ _ _), (_, .inr (3, [_, _, _, _, _, _, _, _, _, _, _, _, _])), (_, aI _ _ _), (_, aI _ _ _), (_, aI _ _ _), (_, aZ _ _ _), (_, aI _ _ _), (_, aI _ _ _), (_, aI _ _ _), (_, aI _ _ _), (_, aI _ _ _), (_, aI _ _ _)]) 885 C 17 dL_law_884 rfl rfl (by omega) rfl ?_
                refine g_iinc (lv' := [(18, _), (16, _), (17, _), (15, _), (14, _), (13, _), (12, _), (11, _), (7, _), (6, _), (5, _), (4, _), (3, _), (2, _), (1, _), (0, _)]) 888 C 1 dL_law_885 rfl rfl (by decide) rfl ?_
                refine g_aload 890 C 7 dL_law_888 rfl rfl ?_
                refine g_iload 892 C 0 dL_law_890 rfl rfl ?_
                refine g_iconst 893 C dL_law_892 rfl ?_
                refine g_iastore (ws' := [(_, .inr (5, [_, _, _, _, _, _, _])), (_, .inr (1, [_, _, _, _])), (_, aI _ _ _), (_, aI _ _ _), (_, .inr (2, [_, _, _])), (_, aI _ _ _), (_, aI _ _ _), (_, .inr (3, [_, _, _, _, _, _, _, _, _, _, _, _, _])), (_, aI _ _ _), (_, aI _ _ _), (_, aI _ _ _), (_, aZ _ _ _), (_, aI _ _ _), (_, aI _ _ _), (_, aI _ _ _), (_, aI _ _ _), (_, aI _ _ _), (_, aI _ _ _)]) 894 C 14 dL_law_893 rfl rfl (by omega) rfl ?_
                refine g_aload 896 C 6 dL_law_894 rfl rfl ?_
                refine g_iload 898 C 0 dL_law_896 rfl rfl ?_
                refine g_iconst 899 C dL_law_898 rfl ?_
                refine g_iastore (ws' := [(_, .inr (5, [_, _, _, _, _, _, _])), (_, .inr (1, [_, _, _, _])), (_, aI _ _ _), (_, aI _ _ _), (_, .inr (2, [_, _, _])), (_, aI _ _ _), (_, aI _ _ _), (_, .inr (3, [_, _, _, _, _, _, _, _, _, _, _, _, _])), (_, aI _ _ _), (_, aI _ _ _), (_, aI _ _ _), (_, aZ _ _ _), (_, aI _ _ _), (_, aI _ _ _), (_, aI _ _ _), (_, aI _ _ _), (_, aI _ _ _), (_, aI _ _ _)]) 900 C 15 dL_law_899 rfl rfl (by omega) rfl ?_
                refine g_goto 639 C dL_law_900 (by decide) ?_
                exact g_w [0, 2, 1, 3, 4, 5, 6, 7, 8, 9, 10, 11, 12, 13, 14, 15] rfl rfl (ih639 ((uI (uI qa1 k a) (k + 1) 0), (uI (uI qf1 k ((q1 k + 1) % 4)) (k + 1) (-1)), fi1, (uI us1 (uI qa1 k a k) 1), fd1, (tc1 + 1), ft1, (k + 1)) (by
            try dsimp only
            exact li_dn hb hI1 hms hfs hsk (by omega) (by omega) h794 (by omega)) (by (try dsimp only); omega))
              · intro h806
                rcases (by omega : fd1 = 0 ∨ fd1 ≠ 0) with hf0 | hf0
                · skip
                  refine g_iconst 810 C dL_law_809 rfl ?_
                  refine g_istore (lv' := [(19, _), (16, _), (18, _), (17, _), (15, _), (14, _), (13, _), (12, _), (11, _), (7, _), (6, _), (5, _), (4, _), (3, _), (2, _), (1, _), (0, _)]) 812 C dL_law_810 rfl (by decide) rfl ?_
                  refine g_loop (α := (Int → Int) × Int) (fun zz => [(a_X, .inr (5, [.ref a_P, .ref a_L, .ref a_R, .ref a_D, .ref a_Q, .int (iI tr), .int (iI ft)])), (a_P, .inr (1, [.ref a_hs, .ref a_se, .int (iI W), .int (iI h)])), (a_hs, aI E 200 hs), (a_se, aI E 100 se), (a_L, .inr (2, [.ref a_pc, .ref a_tn, .int (iI n)])), (a_pc, aI E 25 pc), (a_tn, aI E 25 tn), (a_R, .inr (3, [.ref a_P, .ref a_L, .ref a_sh, .ref a_fi, .ref a_wa, .ref a_us, .ref a_ly, .ref a_jl, .int (iI 0), .int (iI fo), .int (iI sp), .int (iI fd), .int (iI tc)])), (a_sh, aI E 400 sh), (a_fi, aI E 400 fi), (a_wa, aI E 100 wa), (a_us, aZ E 25 us), (a_ly, aI E 25 ly), (a_jl, aI E 25 jl), (a_at, aI E 10 (uI qa1 k a)), (a_fu, aI E 10 (uI qf1 k ((q1 k + 1) % 4))), (a_fi2, aI E 20 zz.1), (a_ui, aI E 10 us1)]) (fun zz => [(19, .int (iI zz.2)), (18, .int (iI k)), (17, .int (iI ft1)), (16, .int (iI (tc1 + 1))), (15, .int (iI fd1)), (14, .ref a_ui), (13, .ref a_fi2), (12, .ref a_fu), (11, .ref a_at), (7, .int (iI n)), (6, .int (iI wf)), (5, .int (iI (nsd W h))), (4, .int (iI (W * h))), (3, .int (iI h)), (2, .int (iI W)), (1, .ref a_X), (0, .ref b)]) (fun zz => (0 ≤ zz.2 ∧ zz.2 ≤ W * h) ∧ ∀ j : Int, 0 ≤ j ∧ j < zz.2 → zz.1 (2 * j) = uI qa1 k a j ∧ zz.1 (2 * j + 1) = uI qf1 k ((q1 k + 1) % 4) j) (fun zz => (W * h - zz.2).toNat) (fi1, 0) (by
            try dsimp only
            exact ⟨by omega, fun j hj => by omega⟩) [0, 2, 3, 1, 4, 5, 6, 7, 8, 9, 10, 11, 12, 13, 14, 15, 16] rfl rfl ?_
                  rintro ⟨g, z⟩ hI ih812
                  try dsimp only at hI ih812 ⊢
                  obtain ⟨hz, hg⟩ := hI
                  refine g_iload 814 C 0 dL_law_812 rfl rfl ?_
                  refine g_iload 816 C 12 dL_law_814 rfl rfl ?_
                  refine g_icmp_ge 856 819 C dL_law_816 (by decide) rfl (by omega) ?_ ?_
                  · intro h816
                    refine g_iload 858 C 4 dL_law_856 rfl rfl ?_
                    refine g_if_ne 866 861 C dL_law_858 (by decide) rfl (by omega) (fun h858 => absurd h858 (by omega)) ?_
                    intro h858
                    refine g_iload 863 C 3 dL_law_861 rfl rfl ?_
                    refine g_goto 868 C dL_law_863 (by decide) ?_
                    refine g_istore (lv' := [(17, _), (19, _), (18, _), (16, _), (15, _), (14, _), (13, _), (12, _), (11, _), (7, _), (6, _), (5, _), (4, _), (3, _), (2, _), (1, _), (0, _)]) 870 C dL_law_868 rfl (by decide) rfl ?_
                    refine g_iinc (lv' := [(15, _), (17, _), (19, _), (18, _), (16, _), (14, _), (13, _), (12, _), (11, _), (7, _), (6, _), (5, _), (4, _), (3, _), (2, _), (1, _), (0, _)]) 873 C 4 dL_law_870 rfl rfl (by decide) rfl ?_
                    refine g_goto 639 C dL_law_873 (by decide) ?_
                    exact g_w [3, 1, 4, 0, 5, 6, 7, 8, 9, 10, 11, 12, 13, 14, 15, 16] rfl rfl (ih639 ((uI qa1 k a), (uI qf1 k ((q1 k + 1) % 4)), g, us1, (fd1 + 1), (tc1 + 1), (tc1 + 1), k) (by
            try dsimp only
            exact li_l0 hb hI1 hms hfs hsk (by omega) (by omega) h794 (by omega) hf0 (fun j hj => hg j (by omega))) (by (try dsimp only); omega))
                  · intro h816
                    refine g_iload 821 C 4 dL_law_819 rfl rfl ?_
                    refine g_if_ne 856 824 C dL_law_821 (by decide) rfl (by omega) (fun h821 => absurd h821 (by omega)) ?_
                    intro h821
                    refine g_aload 826 C 6 dL_law_824 rfl rfl ?_
                    refine g_iconst 827 C dL_law_826 rfl ?_
                    refine g_iload 829 C 0 dL_law_827 rfl rfl ?_
                    refine g_imul 830 C dL_law_829 rfl ?_
                    refine g_aload 832 C 8 dL_law_830 rfl rfl ?_
                    refine g_iload 834 C 0 dL_law_832 rfl rfl ?_
                    refine g_iaload 835 C 14 dL_law_834 rfl rfl (by omega) ?_
                    refine g_iastore (ws' := [(_, .inr (5, [_, _, _, _, _, _, _])), (_, .inr (1, [_, _, _, _])), (_, aI _ _ _), (_, aI _ _ _), (_, .inr (2, [_, _, _])), (_, aI _ _ _), (_, aI _ _ _), (_, .inr (3, [_, _, _, _, _, _, _, _, _, _, _, _, _])), (_, aI _ _ _), (_, aI _ _ _), (_, aI _ _ _), (_, aZ _ _ _), (_, aI _ _ _), (_, aI _ _ _), (_, aI _ _ _), (_, aI _ _ _), (_, aI _ _ _), (_, aI _ _ _)]) 836 C 16 dL_law_835 rfl rfl (by omega) rfl ?_
                    refine g_aload 838 C 6 dL_law_836 rfl rfl ?_
                    refine g_iconst 839 C dL_law_838 rfl ?_
                    refine g_iload 841 C 0 dL_law_839 rfl rfl ?_
                    refine g_imul 842 C dL_law_841 rfl ?_
                    refine g_iconst 843 C dL_law_842 rfl ?_
                    refine g_iadd 844 C dL_law_843 rfl ?_
                    refine g_aload 846 C 7 dL_law_844 rfl rfl ?_
                    refine g_iload 848 C 0 dL_law_846 rfl rfl ?_
                    refine g_iaload 849 C 15 dL_law_848 rfl rfl (by omega) ?_
                    refine g_iastore (ws' := [(_, .inr (5, [_, _, _, _, _, _, _])), (_, .inr (1, [_, _, _, _])), (_, aI _ _ _), (_, aI _ _ _), (_, .inr (2, [_, _, _])), (_, aI _ _ _), (_, aI _ _ _), (_, .inr (3, [_, _, _, _, _, _, _, _, _, _, _, _, _])), (_, aI _ _ _), (_, aI _ _ _), (_, aI _ _ _), (_, aZ _ _ _), (_, aI _ _ _), (_, aI _ _ _), (_, aI _ _ _), (_, aI _ _ _), (_, aI _ _ _), (_, aI _ _ _)]) 850 C 16 dL_law_849 rfl rfl (by omega) rfl ?_
                    refine g_iinc (lv' := [(19, _), (18, _), (17, _), (16, _), (15, _), (14, _), (13, _), (12, _), (11, _), (7, _), (6, _), (5, _), (4, _), (3, _), (2, _), (1, _), (0, _)]) 853 C 0 dL_law_850 rfl rfl (by decide) rfl ?_
                    refine g_goto 812 C dL_law_853 (by decide) ?_
                    exact g_w [0, 1, 2, 3, 4, 5, 6, 7, 8, 9, 10, 11, 12, 13, 14, 15, 16] rfl rfl (ih812 ((uI (uI g (2 * z) (uI qa1 k a z)) (2 * z + 1) (uI qf1 k ((q1 k + 1) % 4) z)), (z + 1)) (by
            try dsimp only
            exact ⟨by omega, fun j hj => by
              by_cases y : j = z
              · rw [y]; exact ⟨uI_21 (by omega), uI_eq _ _ _⟩
              · rw [uI_2ne (by omega) (by omega), uI_2ne (by omega) (by omega)]; exact hg j (by omega)⟩) (by (try dsimp only); omega))
                · skip
                  refine g_iconst 810 C dL_law_809 rfl ?_
                  refine g_istore (lv' := [(19, _), (16, _), (18, _), (17, _), (15, _), (14, _), (13, _), (12, _), (11, _), (7, _), (6, _), (5, _), (4, _), (3, _), (2, _), (1, _), (0, _)]) 812 C dL_law_810 rfl (by decide) rfl ?_
                  refine g_iload 814 C 0 dL_law_812 rfl rfl ?_
                  refine g_iload 816 C 12 dL_law_814 rfl rfl ?_
                  refine g_icmp_ge 856 819 C dL_law_816 (by decide) rfl (by omega) (fun h816 => absurd h816 (by omega)) ?_
                  intro h816
                  refine g_iload 821 C 4 dL_law_819 rfl rfl ?_
                  refine g_if_ne 856 824 C dL_law_821 (by decide) rfl (by omega) ?_ (fun h821 => absurd h821 (by omega))
                  intro h821
                  refine g_iload 858 C 4 dL_law_856 rfl rfl ?_
                  refine g_if_ne 866 861 C dL_law_858 (by decide) rfl (by omega) ?_ (fun h858 => absurd h858 (by omega))
                  intro h858
                  refine g_iload 868 C 3 dL_law_866 rfl rfl ?_
                  refine g_istore (lv' := [(17, _), (19, _), (16, _), (18, _), (15, _), (14, _), (13, _), (12, _), (11, _), (7, _), (6, _), (5, _), (4, _), (3, _), (2, _), (1, _), (0, _)]) 870 C dL_law_868 rfl (by decide) rfl ?_
                  refine g_iinc (lv' := [(15, _), (17, _), (19, _), (16, _), (18, _), (14, _), (13, _), (12, _), (11, _), (7, _), (6, _), (5, _), (4, _), (3, _), (2, _), (1, _), (0, _)]) 873 C 4 dL_law_870 rfl rfl (by decide) rfl ?_
                  refine g_goto 639 C dL_law_873 (by decide) ?_
                  exact g_w [4, 1, 3, 0, 5, 6, 7, 8, 9, 10, 11, 12, 13, 14, 15, 16] rfl rfl (ih639 ((uI qa1 k a), (uI qf1 k ((q1 k + 1) % 4)), fi1, us1, (fd1 + 1), (tc1 + 1), ft1, k) (by
            try dsimp only
            exact li_l1 hb hI1 hms hfs hsk (by omega) (by omega) h794 (by omega) hf0) (by (try dsimp only); omega))
            · intro h794
              refine g_goto 639 C dL_law_797 (by decide) ?_
              exact g_w [1, 2, 0, 3, 4, 5, 6, 7, 8, 9, 10, 11, 12, 13, 14, 15] rfl rfl (ih639 ((uI qa1 k a), (uI qf1 k ((q1 k + 1) % 4)), fi1, us1, fd1, (tc1 + 1), ft1, k) (by
            try dsimp only
            exact li_nf hb hI1 hms hfs hsk (by omega) (by omega) h794) (by (try dsimp only); omega))
          · intro h724
            refine g_aload 729 C 7 dL_law_727 rfl rfl ?_
            refine g_iload 731 C 0 dL_law_729 rfl rfl ?_
            refine g_dup2 732 C dL_law_731 rfl rfl rfl ?_
            refine g_iaload 733 C 14 dL_law_732 rfl rfl (by omega) ?_
            refine g_iconst 734 C dL_law_733 rfl ?_
            refine g_iadd 735 C dL_law_734 rfl ?_
            refine g_iastore (ws' := [(_, .inr (5, [_, _, _, _, _, _, _])), (_, .inr (1, [_, _, _, _])), (_, aI _ _ _), (_, aI _ _ _), (_, .inr (2, [_, _, _])), (_, aI _ _ _), (_, aI _ _ _), (_, .inr (3, [_, _, _, _, _, _, _, _, _, _, _, _, _])), (_, aI _ _ _), (_, aI _ _ _), (_, aI _ _ _), (_, aZ _ _ _), (_, aI _ _ _), (_, aI _ _ _), (_, aI _ _ _), (_, aI _ _ _), (_, aI _ _ _), (_, aI _ _ _)]) 736 C 14 dL_law_735 rfl rfl (by omega) rfl ?_
            refine g_goto 705 C dL_law_736 (by decide) ?_
            exact g_w [0, 1, 2, 3, 4, 5, 6, 7, 8, 9, 10, 11, 12, 13, 14, 15] (by (try dsimp only); rw [uI_2, uI_eq]) rfl (ih705 ((a + 1)) (by
            try dsimp only
            exact ⟨by omega, fun j h1 h2 => by
              by_cases z : j = a
              · rw [z]; exact ⟨by omega, by omega⟩
              · exact ha2 j h1 (by omega)⟩) (by (try dsimp only); omega))
