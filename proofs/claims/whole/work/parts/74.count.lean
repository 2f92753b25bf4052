def xm_count (nh ns : Nat) (S : xa_AH) (n : Int32) : Int32 := if n = 0 then S 130 36 else if n = 1 then nI nh else if n = 2 then nI ns else if n = 3 then S 130 37 else if n = 4 then S 130 38 else if n = 5 then S 130 39 else if n = 6 then S 130 40 else if n = 7 then S 130 41 else if n = 8 then S 130 42 else if n = 9 then S 130 43 else if n = 10 then S 130 44 else -1
set_option maxHeartbeats 4000000 in
theorem cx_count (E : xa_EV) {L : List Nat} {T : xa_AH} {R : xa_AR} {nh ns k : Nat} {pw : Nat → Nat} {S : xa_AH} (hX : RX nh ns k pw L T R S) (n : Int32) : xa_Ct E mX7_count [.ref (ci 0 129), .int n] L T R (xa_pR (.int (xm_count nh ns S n)) T R) := by
  refine xa_Ct.of [some (.ref (ci 0 129)), some (.int n)] rfl (Nat.le_of_ble_eq_true rfl) (by simp [Value.category]) rfl ?_
  have n12 := hX.n12
  have n32 := hX.n32
  refine xa_iload_n (pc := 0) dX7_count_0 rfl ?_
  by_cases s1_0 : n = 0
  · refine xa_tableIn (pc := 1) (x := n) 60 dX7_count_1 (by rw [s1_0]; decide) (by rw [s1_0]; decide) (by rw [s1_0]; rfl) (by decide) ?_
    refine xa_aload_n (pc := 60) dX7_count_60 rfl ?_
    refine xa_getIv (pc := 61) 7 4 _ lfX7_62 dX7_count_61 hX.c_m129 (kd_129 _) rfl hX.g_now ?_
    rw [show xm_count nh ns S n = _ by unfold xm_count; rw [if_pos s1_0]]
    exact xa_zret dX7_count_64 rfl rfl ⟨rfl, rfl, rfl⟩
  by_cases s1_1 : n = 1
  · refine xa_tableIn (pc := 1) (x := n) 65 dX7_count_1 (by rw [s1_1]; decide) (by rw [s1_1]; decide) (by rw [s1_1]; rfl) (by decide) ?_
    refine xa_aload_n (pc := 65) dX7_count_65 rfl ?_
    refine xa_getIv (pc := 66) 7 2 _ lfX7_25 dX7_count_66 hX.c_m129 (kd_129 _) rfl hX.g_nh ?_
    rw [show xm_count nh ns S n = _ by unfold xm_count; rw [if_neg s1_0, if_pos s1_1]]
    exact xa_zret dX7_count_69 rfl rfl ⟨rfl, rfl, rfl⟩
  by_cases s1_2 : n = 2
  · refine xa_tableIn (pc := 1) (x := n) 70 dX7_count_1 (by rw [s1_2]; decide) (by rw [s1_2]; decide) (by rw [s1_2]; rfl) (by decide) ?_
    refine xa_aload_n (pc := 70) dX7_count_70 rfl ?_
    refine xa_getIv (pc := 71) 7 3 _ lfX7_103 dX7_count_71 hX.c_m129 (kd_129 _) rfl hX.g_ns ?_
    rw [show xm_count nh ns S n = _ by unfold xm_count; rw [if_neg s1_0, if_neg s1_1, if_pos s1_2]]
    exact xa_zret dX7_count_74 rfl rfl ⟨rfl, rfl, rfl⟩
  by_cases s1_3 : n = 3
  · refine xa_tableIn (pc := 1) (x := n) 75 dX7_count_1 (by rw [s1_3]; decide) (by rw [s1_3]; decide) (by rw [s1_3]; rfl) (by decide) ?_
    refine xa_aload_n (pc := 75) dX7_count_75 rfl ?_
    refine xa_getIv (pc := 76) 7 5 _ lfX7_226 dX7_count_76 hX.c_m129 (kd_129 _) rfl hX.g_letters ?_
    rw [show xm_count nh ns S n = _ by unfold xm_count; rw [if_neg s1_0, if_neg s1_1, if_neg s1_2, if_pos s1_3]]
    exact xa_zret dX7_count_79 rfl rfl ⟨rfl, rfl, rfl⟩
  by_cases s1_4 : n = 4
  · refine xa_tableIn (pc := 1) (x := n) 80 dX7_count_1 (by rw [s1_4]; decide) (by rw [s1_4]; decide) (by rw [s1_4]; rfl) (by decide) ?_
    refine xa_aload_n (pc := 80) dX7_count_80 rfl ?_
    refine xa_getIv (pc := 81) 7 7 _ lfX7_229 dX7_count_81 hX.c_m129 (kd_129 _) rfl hX.g_lost ?_
    rw [show xm_count nh ns S n = _ by unfold xm_count; rw [if_neg s1_0, if_neg s1_1, if_neg s1_2, if_neg s1_3, if_pos s1_4]]
    exact xa_zret dX7_count_84 rfl rfl ⟨rfl, rfl, rfl⟩
  by_cases s1_5 : n = 5
  · refine xa_tableIn (pc := 1) (x := n) 85 dX7_count_1 (by rw [s1_5]; decide) (by rw [s1_5]; decide) (by rw [s1_5]; rfl) (by decide) ?_
    refine xa_aload_n (pc := 85) dX7_count_85 rfl ?_
    refine xa_getIv (pc := 86) 7 8 _ lfX7_232 dX7_count_86 hX.c_m129 (kd_129 _) rfl hX.g_yields ?_
    rw [show xm_count nh ns S n = _ by unfold xm_count; rw [if_neg s1_0, if_neg s1_1, if_neg s1_2, if_neg s1_3, if_neg s1_4, if_pos s1_5]]
    exact xa_zret dX7_count_89 rfl rfl ⟨rfl, rfl, rfl⟩
  by_cases s1_6 : n = 6
  · refine xa_tableIn (pc := 1) (x := n) 90 dX7_count_1 (by rw [s1_6]; decide) (by rw [s1_6]; decide) (by rw [s1_6]; rfl) (by decide) ?_
    refine xa_aload_n (pc := 90) dX7_count_90 rfl ?_
    refine xa_getIv (pc := 91) 7 9 _ lfX7_235 dX7_count_91 hX.c_m129 (kd_129 _) rfl hX.g_lies ?_
    rw [show xm_count nh ns S n = _ by unfold xm_count; rw [if_neg s1_0, if_neg s1_1, if_neg s1_2, if_neg s1_3, if_neg s1_4, if_neg s1_5, if_pos s1_6]]
    exact xa_zret dX7_count_94 rfl rfl ⟨rfl, rfl, rfl⟩
  by_cases s1_7 : n = 7
  · refine xa_tableIn (pc := 1) (x := n) 95 dX7_count_1 (by rw [s1_7]; decide) (by rw [s1_7]; decide) (by rw [s1_7]; rfl) (by decide) ?_
    refine xa_aload_n (pc := 95) dX7_count_95 rfl ?_
    refine xa_getIv (pc := 96) 7 10 _ lfX7_238 dX7_count_96 hX.c_m129 (kd_129 _) rfl hX.g_leftOut ?_
    rw [show xm_count nh ns S n = _ by unfold xm_count; rw [if_neg s1_0, if_neg s1_1, if_neg s1_2, if_neg s1_3, if_neg s1_4, if_neg s1_5, if_neg s1_6, if_pos s1_7]]
    exact xa_zret dX7_count_99 rfl rfl ⟨rfl, rfl, rfl⟩
  by_cases s1_8 : n = 8
  · refine xa_tableIn (pc := 1) (x := n) 100 dX7_count_1 (by rw [s1_8]; decide) (by rw [s1_8]; decide) (by rw [s1_8]; rfl) (by decide) ?_
    refine xa_aload_n (pc := 100) dX7_count_100 rfl ?_
    refine xa_getIv (pc := 101) 7 11 _ lfX7_241 dX7_count_101 hX.c_m129 (kd_129 _) rfl hX.g_woken ?_
    rw [show xm_count nh ns S n = _ by unfold xm_count; rw [if_neg s1_0, if_neg s1_1, if_neg s1_2, if_neg s1_3, if_neg s1_4, if_neg s1_5, if_neg s1_6, if_neg s1_7, if_pos s1_8]]
    exact xa_zret dX7_count_104 rfl rfl ⟨rfl, rfl, rfl⟩
  by_cases s1_9 : n = 9
  · refine xa_tableIn (pc := 1) (x := n) 105 dX7_count_1 (by rw [s1_9]; decide) (by rw [s1_9]; decide) (by rw [s1_9]; rfl) (by decide) ?_
    refine xa_aload_n (pc := 105) dX7_count_105 rfl ?_
    refine xa_getIv (pc := 106) 7 6 _ lfX7_244 dX7_count_106 hX.c_m129 (kd_129 _) rfl hX.g_lately ?_
    rw [show xm_count nh ns S n = _ by unfold xm_count; rw [if_neg s1_0, if_neg s1_1, if_neg s1_2, if_neg s1_3, if_neg s1_4, if_neg s1_5, if_neg s1_6, if_neg s1_7, if_neg s1_8, if_pos s1_9]]
    exact xa_zret dX7_count_109 rfl rfl ⟨rfl, rfl, rfl⟩
  by_cases s1_10 : n = 10
  · refine xa_tableIn (pc := 1) (x := n) 110 dX7_count_1 (by rw [s1_10]; decide) (by rw [s1_10]; decide) (by rw [s1_10]; rfl) (by decide) ?_
    refine xa_aload_n (pc := 110) dX7_count_110 rfl ?_
    refine xa_getIv (pc := 111) 7 12 _ lfX7_247 dX7_count_111 hX.c_m129 (kd_129 _) rfl hX.g_takenUp ?_
    rw [show xm_count nh ns S n = _ by unfold xm_count; rw [if_neg s1_0, if_neg s1_1, if_neg s1_2, if_neg s1_3, if_neg s1_4, if_neg s1_5, if_neg s1_6, if_neg s1_7, if_neg s1_8, if_neg s1_9, if_pos s1_10]]
    exact xa_zret dX7_count_114 rfl rfl ⟨rfl, rfl, rfl⟩
  refine xa_tableOut (pc := 1) (x := n) 115 dX7_count_1 (by have q0 : n.toInt ≠ 0 := (fun e => s1_0 (Int32.toInt_inj.mp e)); have q1 : n.toInt ≠ 1 := (fun e => s1_1 (Int32.toInt_inj.mp e)); have q2 : n.toInt ≠ 2 := (fun e => s1_2 (Int32.toInt_inj.mp e)); have q3 : n.toInt ≠ 3 := (fun e => s1_3 (Int32.toInt_inj.mp e)); have q4 : n.toInt ≠ 4 := (fun e => s1_4 (Int32.toInt_inj.mp e)); have q5 : n.toInt ≠ 5 := (fun e => s1_5 (Int32.toInt_inj.mp e)); have q6 : n.toInt ≠ 6 := (fun e => s1_6 (Int32.toInt_inj.mp e)); have q7 : n.toInt ≠ 7 := (fun e => s1_7 (Int32.toInt_inj.mp e)); have q8 : n.toInt ≠ 8 := (fun e => s1_8 (Int32.toInt_inj.mp e)); have q9 : n.toInt ≠ 9 := (fun e => s1_9 (Int32.toInt_inj.mp e)); have q10 : n.toInt ≠ 10 := (fun e => s1_10 (Int32.toInt_inj.mp e)); omega) (by decide) ?_
  refine xa_iconst (pc := 115) (v := (-1)) dX7_count_115 (by decide) ?_
  rw [show xm_count nh ns S n = _ by unfold xm_count; rw [if_neg s1_0, if_neg s1_1, if_neg s1_2, if_neg s1_3, if_neg s1_4, if_neg s1_5, if_neg s1_6, if_neg s1_7, if_neg s1_8, if_neg s1_9, if_neg s1_10]]
  exact xa_zret dX7_count_116 rfl rfl ⟨rfl, rfl, rfl⟩
