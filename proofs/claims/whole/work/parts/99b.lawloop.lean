theorem len_sub {Ls : Nat} (h : Ls ≤ 3072) : (Int32.ofNat Ls - 6).toInt = (Ls : Int) - 6 := by
  have h1 : (Int32.ofNat Ls).toInt = (Ls : Int) := nI_toInt (n := Ls) (by omega)
  have h6 : (6 : Int32).toInt = 6 := rfl
  rw [Int32.toInt_sub, h1, h6]
  exact Int.bmod_eq_of_le (by omega) (by omega)
set_option maxHeartbeats 4000000 in
theorem lw_loop (E : xa_EV) {b Ls : Nat} {xs : Nat → Int32} (hL : Ls ≤ 3072) : ∀ j, j ≤ 512 → ∀ (nh ns : Nat) (pw : Nat → Nat) (La : List Nat) (T S : xa_AH) (R : xa_AR) (kc ks : Nat), RX nh ns 0 pw La T R S → xm_fb S → 34 * (512 - j) ≤ kc → 866 * (512 - j) ≤ ks → xa_W E mL (zL b Ls xs) kc ks 18 [some (.ref 191), some (.ref (ci 0 129)), some (.ref 130), some (.int (nI (6 * j)))] [] (La ++ xm_L) (jT T S) (jR R) := by
  refine xa_dn (fun j hjl ih => ?_)
  intro nh ns pw La T S R kc ks hX hF hkc hks
  refine xa_iload_n (pc := 18) dL_law_18 rfl ?_
  refine xa_aload_n (pc := 19) dL_law_19 rfl ?_
  refine xl_slen (pc := 20) dL_law_20 ?_
  refine xa_bipush (pc := 21) (v := 6) dL_law_21 (by decide) ?_
  refine xa_isub (pc := 23) dL_law_23 ?_
  refine xa_icmp_gt (pc := 24) 981 dL_law_24 (by decide) (fun h24 => ?_) (fun h24 => ?_)
  · refine xa_iconst (pc := 981) (v := 1) dL_law_981 (by decide) ?_
    exact xl_ret (pc := 982) dL_law_982
  · have hj6 : 6 * j + 6 ≤ Ls := by
      rw [fa_lt, len_sub hL, nI_toInt (by omega)] at h24
      omega
    have hj5 : j < 512 := by omega
    have K : lw_K E b Ls xs j kc ks := by
      intro nh2 ns2 pw2 La2 T2 S2 R2 kc2 ks2 hX2 hF2 hk2 hs2
      refine xa_iinc (pc := 975) (v := nI (6 * (j + 1))) dL_law_975 rfl (by decide) (xa_pa (a := 6 * j) (b := 6) rfl rfl) ?_
      refine xa_goto (pc := 978) (tgt := 18) dL_law_978 (by decide) ?_
      exact ih hj5 nh2 ns2 pw2 La2 T2 S2 R2 kc2 ks2 hX2 hF2 (by omega) (by omega)
    refine xa_aload_n (pc := 27) dL_law_27 rfl ?_
    refine xa_iload_n (pc := 28) dL_law_28 rfl ?_
    refine xl_sld (pc := 29) (6 * j) dL_law_29 rfl (by omega) hL ?_
    refine xa_bipush (pc := 30) (v := 31) dL_law_30 (by decide) ?_
    refine xa_iand (pc := 32) dL_law_32 ?_
    by_cases s0 : (xs (6 * j) &&& 31) = 0
    · refine xa_tableIn (pc := 33) (x := (xs (6 * j) &&& 31)) 140 dL_law_33 (by rw [s0]; decide) (by rw [s0]; decide) (by rw [s0]; rfl) (by decide) ?_
      exact lw_c0 E hX hF hj6 hL (by omega) (by omega) K
    by_cases s1 : (xs (6 * j) &&& 31) = 1
    · refine xa_tableIn (pc := 33) (x := (xs (6 * j) &&& 31)) 193 dL_law_33 (by rw [s1]; decide) (by rw [s1]; decide) (by rw [s1]; rfl) (by decide) ?_
      exact lw_c1 E hX hF hj6 hL (by omega) (by omega) K
    by_cases s2 : (xs (6 * j) &&& 31) = 2
    · refine xa_tableIn (pc := 33) (x := (xs (6 * j) &&& 31)) 256 dL_law_33 (by rw [s2]; decide) (by rw [s2]; decide) (by rw [s2]; rfl) (by decide) ?_
      exact lw_c2 E hX hF hj6 hL (by omega) (by omega) K
    by_cases s3 : (xs (6 * j) &&& 31) = 3
    · refine xa_tableIn (pc := 33) (x := (xs (6 * j) &&& 31)) 319 dL_law_33 (by rw [s3]; decide) (by rw [s3]; decide) (by rw [s3]; rfl) (by decide) ?_
      exact lw_c3 E hX hF hj6 hL (by omega) (by omega) K
    by_cases s4 : (xs (6 * j) &&& 31) = 4
    · refine xa_tableIn (pc := 33) (x := (xs (6 * j) &&& 31)) 342 dL_law_33 (by rw [s4]; decide) (by rw [s4]; decide) (by rw [s4]; rfl) (by decide) ?_
      exact lw_c4 E hX hF hj6 hL (by omega) (by omega) K
    by_cases s5 : (xs (6 * j) &&& 31) = 5
    · refine xa_tableIn (pc := 33) (x := (xs (6 * j) &&& 31)) 375 dL_law_33 (by rw [s5]; decide) (by rw [s5]; decide) (by rw [s5]; rfl) (by decide) ?_
      exact lw_c5 E hX hF hj6 hL (by omega) (by omega) K
    by_cases s6 : (xs (6 * j) &&& 31) = 6
    · refine xa_tableIn (pc := 33) (x := (xs (6 * j) &&& 31)) 418 dL_law_33 (by rw [s6]; decide) (by rw [s6]; decide) (by rw [s6]; rfl) (by decide) ?_
      exact lw_c6 E hX hF hj6 hL (by omega) (by omega) K
    by_cases s7 : (xs (6 * j) &&& 31) = 7
    · refine xa_tableIn (pc := 33) (x := (xs (6 * j) &&& 31)) 451 dL_law_33 (by rw [s7]; decide) (by rw [s7]; decide) (by rw [s7]; rfl) (by decide) ?_
      exact lw_c7 E hX hF hj6 hL (by omega) (by omega) K
    by_cases s8 : (xs (6 * j) &&& 31) = 8
    · refine xa_tableIn (pc := 33) (x := (xs (6 * j) &&& 31)) 474 dL_law_33 (by rw [s8]; decide) (by rw [s8]; decide) (by rw [s8]; rfl) (by decide) ?_
      exact lw_c8 E hX hF hj6 hL (by omega) (by omega) K
    by_cases s9 : (xs (6 * j) &&& 31) = 9
    · refine xa_tableIn (pc := 33) (x := (xs (6 * j) &&& 31)) 497 dL_law_33 (by rw [s9]; decide) (by rw [s9]; decide) (by rw [s9]; rfl) (by decide) ?_
      exact lw_c9 E hX hF hj6 hL (by omega) (by omega) K
    by_cases s10 : (xs (6 * j) &&& 31) = 10
    · refine xa_tableIn (pc := 33) (x := (xs (6 * j) &&& 31)) 520 dL_law_33 (by rw [s10]; decide) (by rw [s10]; decide) (by rw [s10]; rfl) (by decide) ?_
      exact lw_c10 E hX hF hj6 hL (by omega) (by omega) K
    by_cases s11 : (xs (6 * j) &&& 31) = 11
    · refine xa_tableIn (pc := 33) (x := (xs (6 * j) &&& 31)) 569 dL_law_33 (by rw [s11]; decide) (by rw [s11]; decide) (by rw [s11]; rfl) (by decide) ?_
      exact lw_c11 E hX hF hj6 hL (by omega) (by omega) K
    by_cases s12 : (xs (6 * j) &&& 31) = 12
    · refine xa_tableIn (pc := 33) (x := (xs (6 * j) &&& 31)) 612 dL_law_33 (by rw [s12]; decide) (by rw [s12]; decide) (by rw [s12]; rfl) (by decide) ?_
      exact lw_c12 E hX hF hj6 hL (by omega) (by omega) K
    by_cases s13 : (xs (6 * j) &&& 31) = 13
    · refine xa_tableIn (pc := 33) (x := (xs (6 * j) &&& 31)) 645 dL_law_33 (by rw [s13]; decide) (by rw [s13]; decide) (by rw [s13]; rfl) (by decide) ?_
      exact lw_c13 E hX hF hj6 hL (by omega) (by omega) K
    by_cases s14 : (xs (6 * j) &&& 31) = 14
    · refine xa_tableIn (pc := 33) (x := (xs (6 * j) &&& 31)) 678 dL_law_33 (by rw [s14]; decide) (by rw [s14]; decide) (by rw [s14]; rfl) (by decide) ?_
      exact lw_c14 E hX hF hj6 hL (by omega) (by omega) K
    by_cases s15 : (xs (6 * j) &&& 31) = 15
    · refine xa_tableIn (pc := 33) (x := (xs (6 * j) &&& 31)) 711 dL_law_33 (by rw [s15]; decide) (by rw [s15]; decide) (by rw [s15]; rfl) (by decide) ?_
      exact lw_c15 E hX hF hj6 hL (by omega) (by omega) K
    by_cases s16 : (xs (6 * j) &&& 31) = 16
    · refine xa_tableIn (pc := 33) (x := (xs (6 * j) &&& 31)) 734 dL_law_33 (by rw [s16]; decide) (by rw [s16]; decide) (by rw [s16]; rfl) (by decide) ?_
      exact lw_c16 E hX hF hj6 hL (by omega) (by omega) K
    by_cases s17 : (xs (6 * j) &&& 31) = 17
    · refine xa_tableIn (pc := 33) (x := (xs (6 * j) &&& 31)) 787 dL_law_33 (by rw [s17]; decide) (by rw [s17]; decide) (by rw [s17]; rfl) (by decide) ?_
      exact lw_c17 E hX hF hj6 hL (by omega) (by omega) K
    by_cases s18 : (xs (6 * j) &&& 31) = 18
    · refine xa_tableIn (pc := 33) (x := (xs (6 * j) &&& 31)) 830 dL_law_33 (by rw [s18]; decide) (by rw [s18]; decide) (by rw [s18]; rfl) (by decide) ?_
      exact lw_c18 E hX hF hj6 hL (by omega) (by omega) K
    by_cases s19 : (xs (6 * j) &&& 31) = 19
    · refine xa_tableIn (pc := 33) (x := (xs (6 * j) &&& 31)) 863 dL_law_33 (by rw [s19]; decide) (by rw [s19]; decide) (by rw [s19]; rfl) (by decide) ?_
      exact lw_c19 E hX hF hj6 hL (by omega) (by omega) K
    by_cases s20 : (xs (6 * j) &&& 31) = 20
    · refine xa_tableIn (pc := 33) (x := (xs (6 * j) &&& 31)) 896 dL_law_33 (by rw [s20]; decide) (by rw [s20]; decide) (by rw [s20]; rfl) (by decide) ?_
      exact lw_c20 E hX hF hj6 hL (by omega) (by omega) K
    by_cases s21 : (xs (6 * j) &&& 31) = 21
    · refine xa_tableIn (pc := 33) (x := (xs (6 * j) &&& 31)) 929 dL_law_33 (by rw [s21]; decide) (by rw [s21]; decide) (by rw [s21]; rfl) (by decide) ?_
      exact lw_c21 E hX hF hj6 hL (by omega) (by omega) K
    by_cases s22 : (xs (6 * j) &&& 31) = 22
    · refine xa_tableIn (pc := 33) (x := (xs (6 * j) &&& 31)) 952 dL_law_33 (by rw [s22]; decide) (by rw [s22]; decide) (by rw [s22]; rfl) (by decide) ?_
      exact lw_c22 E hX hF hj6 hL (by omega) (by omega) K
    refine xa_tableOut (pc := 33) (x := (xs (6 * j) &&& 31)) 975 dL_law_33 (by have q0 : (xs (6 * j) &&& 31).toInt ≠ 0 := (fun e => s0 (Int32.toInt_inj.mp e)); have q1 : (xs (6 * j) &&& 31).toInt ≠ 1 := (fun e => s1 (Int32.toInt_inj.mp e)); have q2 : (xs (6 * j) &&& 31).toInt ≠ 2 := (fun e => s2 (Int32.toInt_inj.mp e)); have q3 : (xs (6 * j) &&& 31).toInt ≠ 3 := (fun e => s3 (Int32.toInt_inj.mp e)); have q4 : (xs (6 * j) &&& 31).toInt ≠ 4 := (fun e => s4 (Int32.toInt_inj.mp e)); have q5 : (xs (6 * j) &&& 31).toInt ≠ 5 := (fun e => s5 (Int32.toInt_inj.mp e)); have q6 : (xs (6 * j) &&& 31).toInt ≠ 6 := (fun e => s6 (Int32.toInt_inj.mp e)); have q7 : (xs (6 * j) &&& 31).toInt ≠ 7 := (fun e => s7 (Int32.toInt_inj.mp e)); have q8 : (xs (6 * j) &&& 31).toInt ≠ 8 := (fun e => s8 (Int32.toInt_inj.mp e)); have q9 : (xs (6 * j) &&& 31).toInt ≠ 9 := (fun e => s9 (Int32.toInt_inj.mp e)); have q10 : (xs (6 * j) &&& 31).toInt ≠ 10 := (fun e => s10 (Int32.toInt_inj.mp e)); have q11 : (xs (6 * j) &&& 31).toInt ≠ 11 := (fun e => s11 (Int32.toInt_inj.mp e)); have q12 : (xs (6 * j) &&& 31).toInt ≠ 12 := (fun e => s12 (Int32.toInt_inj.mp e)); have q13 : (xs (6 * j) &&& 31).toInt ≠ 13 := (fun e => s13 (Int32.toInt_inj.mp e)); have q14 : (xs (6 * j) &&& 31).toInt ≠ 14 := (fun e => s14 (Int32.toInt_inj.mp e)); have q15 : (xs (6 * j) &&& 31).toInt ≠ 15 := (fun e => s15 (Int32.toInt_inj.mp e)); have q16 : (xs (6 * j) &&& 31).toInt ≠ 16 := (fun e => s16 (Int32.toInt_inj.mp e)); have q17 : (xs (6 * j) &&& 31).toInt ≠ 17 := (fun e => s17 (Int32.toInt_inj.mp e)); have q18 : (xs (6 * j) &&& 31).toInt ≠ 18 := (fun e => s18 (Int32.toInt_inj.mp e)); have q19 : (xs (6 * j) &&& 31).toInt ≠ 19 := (fun e => s19 (Int32.toInt_inj.mp e)); have q20 : (xs (6 * j) &&& 31).toInt ≠ 20 := (fun e => s20 (Int32.toInt_inj.mp e)); have q21 : (xs (6 * j) &&& 31).toInt ≠ 21 := (fun e => s21 (Int32.toInt_inj.mp e)); have q22 : (xs (6 * j) &&& 31).toInt ≠ 22 := (fun e => s22 (Int32.toInt_inj.mp e)); omega) (by decide) ?_
    exact K nh ns pw La T S R kc ks hX hF (by omega) (by omega)
