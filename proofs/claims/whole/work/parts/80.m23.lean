set_option maxHeartbeats 4000000 in
theorem cm_count (E : xa_EV) (S : xa_AH) {nh ns : Nat} (hW : xm_wf nh ns S) (n : Int32) : xa_Ct E mX8_count [.ref 130, .int n] xm_L S xm_R (xa_pR (.int (xm_count nh ns S n)) S xm_R) := by
  refine xa_Ct.of [some (.ref 130), some (.int n)] rfl (Nat.le_of_ble_eq_true rfl) (by simp [Value.category]) rfl ?_
  obtain ⟨w1, w2, w3, w4, w5⟩ := id hW
  refine xa_iload_n (pc := 0) dX8_count_0 rfl ?_
  by_cases s1_0 : n = 0
  · refine xa_tableIn (pc := 1) (x := n) 60 dX8_count_1 (by rw [s1_0]; decide) (by rw [s1_0]; decide) (by rw [s1_0]; rfl) (by decide) ?_
    refine xa_aload_n (pc := 60) dX8_count_60 rfl ?_
    refine xa_getI (pc := 61) 8 36 lfX8_191 dX8_count_61 xm_o rfl rfl ?_
    rw [show xm_count nh ns S n = _ by unfold xm_count; rw [if_pos s1_0]]
    exact xa_zret dX8_count_64 rfl rfl ⟨rfl, rfl, rfl⟩
  by_cases s1_1 : n = 1
  · refine xa_tableIn (pc := 1) (x := n) 65 dX8_count_1 (by rw [s1_1]; decide) (by rw [s1_1]; decide) (by rw [s1_1]; rfl) (by decide) ?_
    refine xa_aload_n (pc := 65) dX8_count_65 rfl ?_
    refine xa_getI (pc := 66) 8 14 lfX8_155 dX8_count_66 xm_o rfl rfl ?_
    rw [show xm_count nh ns S n = _ by unfold xm_count; rw [if_neg s1_0, if_pos s1_1]]
    exact xa_zret dX8_count_69 rfl rfl ⟨congrArg (fun z => some (Value.int z)) w3.symm, rfl, rfl⟩
  by_cases s1_2 : n = 2
  · refine xa_tableIn (pc := 1) (x := n) 70 dX8_count_1 (by rw [s1_2]; decide) (by rw [s1_2]; decide) (by rw [s1_2]; rfl) (by decide) ?_
    refine xa_aload_n (pc := 70) dX8_count_70 rfl ?_
    refine xa_getI (pc := 71) 8 26 lfX8_170 dX8_count_71 xm_o rfl rfl ?_
    rw [show xm_count nh ns S n = _ by unfold xm_count; rw [if_neg s1_0, if_neg s1_1, if_pos s1_2]]
    exact xa_zret dX8_count_74 rfl rfl ⟨congrArg (fun z => some (Value.int z)) w4.symm, rfl, rfl⟩
  by_cases s1_3 : n = 3
  · refine xa_tableIn (pc := 1) (x := n) 75 dX8_count_1 (by rw [s1_3]; decide) (by rw [s1_3]; decide) (by rw [s1_3]; rfl) (by decide) ?_
    refine xa_aload_n (pc := 75) dX8_count_75 rfl ?_
    refine xa_getI (pc := 76) 8 37 lfX8_231 dX8_count_76 xm_o rfl rfl ?_
    rw [show xm_count nh ns S n = _ by unfold xm_count; rw [if_neg s1_0, if_neg s1_1, if_neg s1_2, if_pos s1_3]]
    exact xa_zret dX8_count_79 rfl rfl ⟨rfl, rfl, rfl⟩
  by_cases s1_4 : n = 4
  · refine xa_tableIn (pc := 1) (x := n) 80 dX8_count_1 (by rw [s1_4]; decide) (by rw [s1_4]; decide) (by rw [s1_4]; rfl) (by decide) ?_
    refine xa_aload_n (pc := 80) dX8_count_80 rfl ?_
    refine xa_getI (pc := 81) 8 38 lfX8_274 dX8_count_81 xm_o rfl rfl ?_
    rw [show xm_count nh ns S n = _ by unfold xm_count; rw [if_neg s1_0, if_neg s1_1, if_neg s1_2, if_neg s1_3, if_pos s1_4]]
    exact xa_zret dX8_count_84 rfl rfl ⟨rfl, rfl, rfl⟩
  by_cases s1_5 : n = 5
  · refine xa_tableIn (pc := 1) (x := n) 85 dX8_count_1 (by rw [s1_5]; decide) (by rw [s1_5]; decide) (by rw [s1_5]; rfl) (by decide) ?_
    refine xa_aload_n (pc := 85) dX8_count_85 rfl ?_
    refine xa_getI (pc := 86) 8 39 lfX8_237 dX8_count_86 xm_o rfl rfl ?_
    rw [show xm_count nh ns S n = _ by unfold xm_count; rw [if_neg s1_0, if_neg s1_1, if_neg s1_2, if_neg s1_3, if_neg s1_4, if_pos s1_5]]
    exact xa_zret dX8_count_89 rfl rfl ⟨rfl, rfl, rfl⟩
  by_cases s1_6 : n = 6
  · refine xa_tableIn (pc := 1) (x := n) 90 dX8_count_1 (by rw [s1_6]; decide) (by rw [s1_6]; decide) (by rw [s1_6]; rfl) (by decide) ?_
    refine xa_aload_n (pc := 90) dX8_count_90 rfl ?_
    refine xa_getI (pc := 91) 8 40 lfX8_311 dX8_count_91 xm_o rfl rfl ?_
    rw [show xm_count nh ns S n = _ by unfold xm_count; rw [if_neg s1_0, if_neg s1_1, if_neg s1_2, if_neg s1_3, if_neg s1_4, if_neg s1_5, if_pos s1_6]]
    exact xa_zret dX8_count_94 rfl rfl ⟨rfl, rfl, rfl⟩
  by_cases s1_7 : n = 7
  · refine xa_tableIn (pc := 1) (x := n) 95 dX8_count_1 (by rw [s1_7]; decide) (by rw [s1_7]; decide) (by rw [s1_7]; rfl) (by decide) ?_
    refine xa_aload_n (pc := 95) dX8_count_95 rfl ?_
    refine xa_getI (pc := 96) 8 41 lfX8_314 dX8_count_96 xm_o rfl rfl ?_
    rw [show xm_count nh ns S n = _ by unfold xm_count; rw [if_neg s1_0, if_neg s1_1, if_neg s1_2, if_neg s1_3, if_neg s1_4, if_neg s1_5, if_neg s1_6, if_pos s1_7]]
    exact xa_zret dX8_count_99 rfl rfl ⟨rfl, rfl, rfl⟩
  by_cases s1_8 : n = 8
  · refine xa_tableIn (pc := 1) (x := n) 100 dX8_count_1 (by rw [s1_8]; decide) (by rw [s1_8]; decide) (by rw [s1_8]; rfl) (by decide) ?_
    refine xa_aload_n (pc := 100) dX8_count_100 rfl ?_
    refine xa_getI (pc := 101) 8 42 lfX8_221 dX8_count_101 xm_o rfl rfl ?_
    rw [show xm_count nh ns S n = _ by unfold xm_count; rw [if_neg s1_0, if_neg s1_1, if_neg s1_2, if_neg s1_3, if_neg s1_4, if_neg s1_5, if_neg s1_6, if_neg s1_7, if_pos s1_8]]
    exact xa_zret dX8_count_104 rfl rfl ⟨rfl, rfl, rfl⟩
  by_cases s1_9 : n = 9
  · refine xa_tableIn (pc := 1) (x := n) 105 dX8_count_1 (by rw [s1_9]; decide) (by rw [s1_9]; decide) (by rw [s1_9]; rfl) (by decide) ?_
    refine xa_aload_n (pc := 105) dX8_count_105 rfl ?_
    refine xa_getI (pc := 106) 8 43 lfX8_234 dX8_count_106 xm_o rfl rfl ?_
    rw [show xm_count nh ns S n = _ by unfold xm_count; rw [if_neg s1_0, if_neg s1_1, if_neg s1_2, if_neg s1_3, if_neg s1_4, if_neg s1_5, if_neg s1_6, if_neg s1_7, if_neg s1_8, if_pos s1_9]]
    exact xa_zret dX8_count_109 rfl rfl ⟨rfl, rfl, rfl⟩
  by_cases s1_10 : n = 10
  · refine xa_tableIn (pc := 1) (x := n) 110 dX8_count_1 (by rw [s1_10]; decide) (by rw [s1_10]; decide) (by rw [s1_10]; rfl) (by decide) ?_
    refine xa_aload_n (pc := 110) dX8_count_110 rfl ?_
    refine xa_getI (pc := 111) 8 44 lfX8_286 dX8_count_111 xm_o rfl rfl ?_
    rw [show xm_count nh ns S n = _ by unfold xm_count; rw [if_neg s1_0, if_neg s1_1, if_neg s1_2, if_neg s1_3, if_neg s1_4, if_neg s1_5, if_neg s1_6, if_neg s1_7, if_neg s1_8, if_neg s1_9, if_pos s1_10]]
    exact xa_zret dX8_count_114 rfl rfl ⟨rfl, rfl, rfl⟩
  refine xa_tableOut (pc := 1) (x := n) 115 dX8_count_1 (by have q0 : n.toInt ≠ 0 := (fun e => s1_0 (Int32.toInt_inj.mp e)); have q1 : n.toInt ≠ 1 := (fun e => s1_1 (Int32.toInt_inj.mp e)); have q2 : n.toInt ≠ 2 := (fun e => s1_2 (Int32.toInt_inj.mp e)); have q3 : n.toInt ≠ 3 := (fun e => s1_3 (Int32.toInt_inj.mp e)); have q4 : n.toInt ≠ 4 := (fun e => s1_4 (Int32.toInt_inj.mp e)); have q5 : n.toInt ≠ 5 := (fun e => s1_5 (Int32.toInt_inj.mp e)); have q6 : n.toInt ≠ 6 := (fun e => s1_6 (Int32.toInt_inj.mp e)); have q7 : n.toInt ≠ 7 := (fun e => s1_7 (Int32.toInt_inj.mp e)); have q8 : n.toInt ≠ 8 := (fun e => s1_8 (Int32.toInt_inj.mp e)); have q9 : n.toInt ≠ 9 := (fun e => s1_9 (Int32.toInt_inj.mp e)); have q10 : n.toInt ≠ 10 := (fun e => s1_10 (Int32.toInt_inj.mp e)); omega) (by decide) ?_
  refine xa_iconst (pc := 115) (v := (-1)) dX8_count_115 (by decide) ?_
  rw [show xm_count nh ns S n = _ by unfold xm_count; rw [if_neg s1_0, if_neg s1_1, if_neg s1_2, if_neg s1_3, if_neg s1_4, if_neg s1_5, if_neg s1_6, if_neg s1_7, if_neg s1_8, if_neg s1_9, if_neg s1_10]]
  exact xa_zret dX8_count_116 rfl rfl ⟨rfl, rfl, rfl⟩
set_option maxHeartbeats 4000000 in
theorem cm_service (E : xa_EV) (S : xa_AH) {nh ns : Nat} (hW : xm_wf nh ns S) (v n : Int32) : xa_Ct E mX8_service [.ref 130, .int v, .int n] xm_L S xm_R (xa_pR (.int (xm_service ns S v n)) S xm_R) := by
  refine xa_Ct.of [some (.ref 130), some (.int v), some (.int n)] rfl (Nat.le_of_ble_eq_true rfl) (by simp [Value.category]) rfl ?_
  obtain ⟨w1, w2, w3, w4, w5⟩ := id hW
  refine xa_aload_n (pc := 0) dX8_service_0 rfl ?_
  refine xa_iload_n (pc := 1) dX8_service_1 rfl ?_
  refine xa_callV (pc := 2) xm_o rfl rfl lcX8_194 dX8_service_2 (cm_isService E _ hW _) rfl rfl (by decide) (Nat.le_of_ble_eq_true rfl) (by decide) ?_
  rintro _ _ _ ⟨rfl, rfl, rfl⟩
  refine xa_if_ne (pc := 5) 10 dX8_service_5 (by decide) (fun h5 => ?_) (fun h5 => ?_)
  · have h5 := xa_b_n0.mp h5
    have hv1 := (xm_isH_t (by omega)).mp h5
    have hb1 : xc v < ns := xa_in_lt hv1
    refine xa_iload_n (pc := 10) dX8_service_10 rfl ?_
    by_cases s11_0 : n = 0
    · refine xa_tableIn (pc := 11) (x := n) 56 dX8_service_11 (by rw [s11_0]; decide) (by rw [s11_0]; decide) (by rw [s11_0]; rfl) (by decide) ?_
      refine xa_aload_n (pc := 56) dX8_service_56 rfl ?_
      refine xa_getA (pc := 57) 8 20 151 lfX8_68 dX8_service_57 xm_o rfl rfl rfl ?_
      refine xa_iload_n (pc := 60) dX8_service_60 rfl ?_
      refine xa_ialdN (pc := 61) (xc v) dX8_service_61 xm_151 rfl (xa_in_eq hv1) (by show _ < 32; omega) (by decide) ?_
      rw [show xm_service ns S v n = _ from if_pos h5, show xm_serv S v n = _ by unfold xm_serv; rw [if_pos s11_0]]
      exact xa_zret dX8_service_62 rfl rfl ⟨rfl, rfl, rfl⟩
    by_cases s11_1 : n = 1
    · refine xa_tableIn (pc := 11) (x := n) 63 dX8_service_11 (by rw [s11_1]; decide) (by rw [s11_1]; decide) (by rw [s11_1]; rfl) (by decide) ?_
      refine xa_aload_n (pc := 63) dX8_service_63 rfl ?_
      refine xa_getA (pc := 64) 8 17 148 lfX8_59 dX8_service_64 xm_o rfl rfl rfl ?_
      refine xa_iload_n (pc := 67) dX8_service_67 rfl ?_
      refine xa_ialdN (pc := 68) (xc v) dX8_service_68 xm_148 rfl (xa_in_eq hv1) (by show _ < 32; omega) (by decide) ?_
      rw [show xm_service ns S v n = _ from if_pos h5, show xm_serv S v n = _ by unfold xm_serv; rw [if_neg s11_0, if_pos s11_1]]
      exact xa_zret dX8_service_69 rfl rfl ⟨rfl, rfl, rfl⟩
    by_cases s11_2 : n = 2
    · refine xa_tableIn (pc := 11) (x := n) 70 dX8_service_11 (by rw [s11_2]; decide) (by rw [s11_2]; decide) (by rw [s11_2]; rfl) (by decide) ?_
      refine xa_aload_n (pc := 70) dX8_service_70 rfl ?_
      refine xa_getA (pc := 71) 8 20 151 lfX8_68 dX8_service_71 xm_o rfl rfl rfl ?_
      refine xa_iload_n (pc := 74) dX8_service_74 rfl ?_
      refine xa_ialdN (pc := 75) (xc v) dX8_service_75 xm_151 rfl (xa_in_eq hv1) (by show _ < 32; omega) (by decide) ?_
      refine xa_iconst (pc := 76) (v := 1) dX8_service_76 (by decide) ?_
      refine xa_icmp_ne (pc := 77) 89 dX8_service_77 (by decide) (fun h77 => ?_) (fun h77 => ?_)
      · refine xa_iconst (pc := 89) (v := 0) dX8_service_89 (by decide) ?_
        rw [show xm_service ns S v n = _ from if_pos h5, show xm_serv S v n = _ by unfold xm_serv; rw [if_neg s11_0, if_neg s11_1, if_pos s11_2, if_neg h77]]
        exact xa_zret dX8_service_90 rfl rfl ⟨rfl, rfl, rfl⟩
      · refine xa_aload_n (pc := 80) dX8_service_80 rfl ?_
        refine xa_getA (pc := 81) 8 21 152 lfX8_71 dX8_service_81 xm_o rfl rfl rfl ?_
        refine xa_iload_n (pc := 84) dX8_service_84 rfl ?_
        refine xa_ialdN (pc := 85) (xc v) dX8_service_85 xm_152 rfl (xa_in_eq hv1) (by show _ < 32; omega) (by decide) ?_
        refine xa_goto (pc := 86) (tgt := 90) dX8_service_86 (by decide) ?_
        rw [show xm_service ns S v n = _ from if_pos h5, show xm_serv S v n = _ by unfold xm_serv; rw [if_neg s11_0, if_neg s11_1, if_pos s11_2, if_pos h77]]
        exact xa_zret dX8_service_90 rfl rfl ⟨rfl, rfl, rfl⟩
    by_cases s11_3 : n = 3
    · refine xa_tableIn (pc := 11) (x := n) 91 dX8_service_11 (by rw [s11_3]; decide) (by rw [s11_3]; decide) (by rw [s11_3]; rfl) (by decide) ?_
      refine xa_aload_n (pc := 91) dX8_service_91 rfl ?_
      refine xa_getA (pc := 92) 8 18 149 lfX8_62 dX8_service_92 xm_o rfl rfl rfl ?_
      refine xa_iload_n (pc := 95) dX8_service_95 rfl ?_
      refine xa_ialdN (pc := 96) (xc v) dX8_service_96 xm_149 rfl (xa_in_eq hv1) (by show _ < 32; omega) (by decide) ?_
      rw [show xm_service ns S v n = _ from if_pos h5, show xm_serv S v n = _ by unfold xm_serv; rw [if_neg s11_0, if_neg s11_1, if_neg s11_2, if_pos s11_3]]
      exact xa_zret dX8_service_97 rfl rfl ⟨rfl, rfl, rfl⟩
    by_cases s11_4 : n = 4
    · refine xa_tableIn (pc := 11) (x := n) 98 dX8_service_11 (by rw [s11_4]; decide) (by rw [s11_4]; decide) (by rw [s11_4]; rfl) (by decide) ?_
      refine xa_aload_n (pc := 98) dX8_service_98 rfl ?_
      refine xa_getA (pc := 99) 8 15 146 lfX8_53 dX8_service_99 xm_o rfl rfl rfl ?_
      refine xa_iload_n (pc := 102) dX8_service_102 rfl ?_
      refine xa_ialdN (pc := 103) (xc v) dX8_service_103 xm_146 rfl (xa_in_eq hv1) (by show _ < 32; omega) (by decide) ?_
      rw [show xm_service ns S v n = _ from if_pos h5, show xm_serv S v n = _ by unfold xm_serv; rw [if_neg s11_0, if_neg s11_1, if_neg s11_2, if_neg s11_3, if_pos s11_4]]
      exact xa_zret dX8_service_104 rfl rfl ⟨rfl, rfl, rfl⟩
    by_cases s11_5 : n = 5
    · refine xa_tableIn (pc := 11) (x := n) 105 dX8_service_11 (by rw [s11_5]; decide) (by rw [s11_5]; decide) (by rw [s11_5]; rfl) (by decide) ?_
      refine xa_aload_n (pc := 105) dX8_service_105 rfl ?_
      refine xa_getA (pc := 106) 8 20 151 lfX8_68 dX8_service_106 xm_o rfl rfl rfl ?_
      refine xa_iload_n (pc := 109) dX8_service_109 rfl ?_
      refine xa_ialdN (pc := 110) (xc v) dX8_service_110 xm_151 rfl (xa_in_eq hv1) (by show _ < 32; omega) (by decide) ?_
      refine xa_iconst (pc := 111) (v := 2) dX8_service_111 (by decide) ?_
      refine xa_icmp_ne (pc := 112) 124 dX8_service_112 (by decide) (fun h112 => ?_) (fun h112 => ?_)
      · refine xa_iconst (pc := 124) (v := (-1)) dX8_service_124 (by decide) ?_
        rw [show xm_service ns S v n = _ from if_pos h5, show xm_serv S v n = _ by unfold xm_serv; rw [if_neg s11_0, if_neg s11_1, if_neg s11_2, if_neg s11_3, if_neg s11_4, if_pos s11_5, if_neg h112]]
        exact xa_zret dX8_service_125 rfl rfl ⟨rfl, rfl, rfl⟩
      · refine xa_aload_n (pc := 115) dX8_service_115 rfl ?_
        refine xa_getA (pc := 116) 8 22 153 lfX8_74 dX8_service_116 xm_o rfl rfl rfl ?_
        refine xa_iload_n (pc := 119) dX8_service_119 rfl ?_
        refine xa_ialdN (pc := 120) (xc v) dX8_service_120 xm_153 rfl (xa_in_eq hv1) (by show _ < 32; omega) (by decide) ?_
        refine xa_goto (pc := 121) (tgt := 125) dX8_service_121 (by decide) ?_
        rw [show xm_service ns S v n = _ from if_pos h5, show xm_serv S v n = _ by unfold xm_serv; rw [if_neg s11_0, if_neg s11_1, if_neg s11_2, if_neg s11_3, if_neg s11_4, if_pos s11_5, if_pos h112]]
        exact xa_zret dX8_service_125 rfl rfl ⟨rfl, rfl, rfl⟩
    by_cases s11_6 : n = 6
    · refine xa_tableIn (pc := 11) (x := n) 126 dX8_service_11 (by rw [s11_6]; decide) (by rw [s11_6]; decide) (by rw [s11_6]; rfl) (by decide) ?_
      refine xa_aload_n (pc := 126) dX8_service_126 rfl ?_
      refine xa_getA (pc := 127) 8 24 155 lfX8_80 dX8_service_127 xm_o rfl rfl rfl ?_
      refine xa_iload_n (pc := 130) dX8_service_130 rfl ?_
      refine xa_zaldN (pc := 131) (xc v) dX8_service_131 xm_155 rfl (xa_in_eq hv1) (by show _ < 32; omega) (by decide) ?_
      refine xa_if_eq (pc := 132) 139 dX8_service_132 (by decide) (fun h132 => ?_) (fun h132 => ?_)
      · refine xa_iconst (pc := 139) (v := 0) dX8_service_139 (by decide) ?_
        rw [show xm_service ns S v n = _ from if_pos h5, show xm_serv S v n = _ by unfold xm_serv; rw [if_neg s11_0, if_neg s11_1, if_neg s11_2, if_neg s11_3, if_neg s11_4, if_neg s11_5, if_pos s11_6, if_pos h132]]
        exact xa_zret dX8_service_140 rfl rfl ⟨rfl, rfl, rfl⟩
      · refine xa_iconst (pc := 135) (v := 1) dX8_service_135 (by decide) ?_
        refine xa_goto (pc := 136) (tgt := 140) dX8_service_136 (by decide) ?_
        rw [show xm_service ns S v n = _ from if_pos h5, show xm_serv S v n = _ by unfold xm_serv; rw [if_neg s11_0, if_neg s11_1, if_neg s11_2, if_neg s11_3, if_neg s11_4, if_neg s11_5, if_pos s11_6, if_neg h132]]
        exact xa_zret dX8_service_140 rfl rfl ⟨rfl, rfl, rfl⟩
    by_cases s11_7 : n = 7
    · refine xa_tableIn (pc := 11) (x := n) 141 dX8_service_11 (by rw [s11_7]; decide) (by rw [s11_7]; decide) (by rw [s11_7]; rfl) (by decide) ?_
      refine xa_aload_n (pc := 141) dX8_service_141 rfl ?_
      refine xa_getA (pc := 142) 8 23 154 lfX8_77 dX8_service_142 xm_o rfl rfl rfl ?_
      refine xa_iload_n (pc := 145) dX8_service_145 rfl ?_
      refine xa_ialdN (pc := 146) (xc v) dX8_service_146 xm_154 rfl (xa_in_eq hv1) (by show _ < 32; omega) (by decide) ?_
      rw [show xm_service ns S v n = _ from if_pos h5, show xm_serv S v n = _ by unfold xm_serv; rw [if_neg s11_0, if_neg s11_1, if_neg s11_2, if_neg s11_3, if_neg s11_4, if_neg s11_5, if_neg s11_6, if_pos s11_7]]
      exact xa_zret dX8_service_147 rfl rfl ⟨rfl, rfl, rfl⟩
    refine xa_tableOut (pc := 11) (x := n) 148 dX8_service_11 (by have q0 : n.toInt ≠ 0 := (fun e => s11_0 (Int32.toInt_inj.mp e)); have q1 : n.toInt ≠ 1 := (fun e => s11_1 (Int32.toInt_inj.mp e)); have q2 : n.toInt ≠ 2 := (fun e => s11_2 (Int32.toInt_inj.mp e)); have q3 : n.toInt ≠ 3 := (fun e => s11_3 (Int32.toInt_inj.mp e)); have q4 : n.toInt ≠ 4 := (fun e => s11_4 (Int32.toInt_inj.mp e)); have q5 : n.toInt ≠ 5 := (fun e => s11_5 (Int32.toInt_inj.mp e)); have q6 : n.toInt ≠ 6 := (fun e => s11_6 (Int32.toInt_inj.mp e)); have q7 : n.toInt ≠ 7 := (fun e => s11_7 (Int32.toInt_inj.mp e)); omega) (by decide) ?_
    refine xa_iconst (pc := 148) (v := (-1)) dX8_service_148 (by decide) ?_
    rw [show xm_service ns S v n = _ from if_pos h5, show xm_serv S v n = _ by unfold xm_serv; rw [if_neg s11_0, if_neg s11_1, if_neg s11_2, if_neg s11_3, if_neg s11_4, if_neg s11_5, if_neg s11_6, if_neg s11_7]]
    exact xa_zret dX8_service_149 rfl rfl ⟨rfl, rfl, rfl⟩
  · have h5 := xa_b_0.mp h5
    refine xa_iconst (pc := 8) (v := (-1)) dX8_service_8 (by decide) ?_
    rw [show xm_service ns S v n = _ from if_neg (by rw [h5]; decide)]
    exact xa_zret dX8_service_9 rfl rfl ⟨rfl, rfl, rfl⟩
def lk_r (S : xa_AH) (h s : Nat) : Bool := decide (¬ S 158 (32 * h + s) = 0)
def lk_a (S : xa_AH) (h k : Nat) : Bool := decide (¬ S 164 (16 * h + k) = 0)
def lk_n (S : xa_AH) (h s : Nat) : Bool := decide (¬ S 163 (32 * h + s) = -1)
def xm_lk (ns : Nat) (S : xa_AH) (v n : Int32) : Int32 := if n = 0 then (if S 137 (xc v) = 0 then S 136 (xc v) else 3) else if n = 1 then S 131 (xc v) else if n = 2 then S 132 (xc v) else if n = 3 then (if S 136 (xc v) = 1 then (if S 136 (xc (S 141 (xc v))) = 2 then S 141 (xc v) else -1) else -1) else if n = 4 then S 142 (xc v) else if n = 5 then nI (xa_ct (lk_r S (xc v)) ns) else if n = 6 then (if S 138 (xc v) = 0 then 0 else 1) else if n = 7 then nI (xa_ct (lk_a S (xc v)) 16) else if n = 8 then nI (xa_ct (lk_n S (xc v)) ns) else -1
def xm_look (nh ns : Nat) (S : xa_AH) (v n : Int32) : Int32 := if xm_isH nh v = true then xm_lk ns S v n else -1
set_option maxHeartbeats 4000000 in
theorem lm_look144 (E : xa_EV) (S : xa_AH) {nh ns h : Nat} (hW : xm_wf nh ns S) (hh : h < 12) (n : Int32) : ∀ x, x ≤ ns → xa_W E mX8_look (xa_Z E mX8_look xm_L (xa_pR (.int (nI (xa_ct (lk_r S h) ns))) S xm_R)) 0 0 144 [some (.ref 130), some (.int (nI h)), some (.int n), some (.int (nI (xa_ct (lk_r S h) x))), some (.int (nI x))] [] xm_L S xm_R := by
  refine xa_dn (fun x hxl ih => ?_)
  obtain ⟨w1, w2, w3, w4, w5⟩ := id hW
  have ctl := xa_ct_le (lk_r S h) x
  refine xa_iload (pc := 144) dX8_look_144 rfl ?_
  refine xa_aload_n (pc := 146) dX8_look_146 rfl ?_
  refine xa_getI (pc := 147) 8 26 lfX8_170 dX8_look_147 xm_o rfl rfl ?_
  refine xa_icmpN_ge (pc := 150) 182 x ns dX8_look_150 (by decide) rfl w4 (by omega) (by omega) (fun h150 => ?_) (fun h150 => ?_)
  · have g150 : ¬ (x < ns) := by omega
    refine xa_iload_n (pc := 182) dX8_look_182 rfl ?_
    have ex9 : x = ns := by omega
    subst ex9
    exact xa_zret dX8_look_183 rfl rfl ⟨rfl, rfl, rfl⟩
  · refine xa_iload_n (pc := 153) dX8_look_153 rfl ?_
    refine xa_aload_n (pc := 154) dX8_look_154 rfl ?_
    refine xa_getA (pc := 155) 8 27 158 lfX8_86 dX8_look_155 xm_o rfl rfl rfl ?_
    refine xa_bipush (pc := 158) (v := 32) dX8_look_158 (by decide) ?_
    refine xa_iload_n (pc := 160) dX8_look_160 rfl ?_
    refine xa_imul (pc := 161) dX8_look_161 ?_
    refine xa_iload (pc := 162) dX8_look_162 rfl ?_
    refine xa_iadd (pc := 164) dX8_look_164 ?_
    refine xa_zaldN (pc := 165) ((32 * h) + x) dX8_look_165 xm_158 rfl (xa_pa (xa_pm rfl rfl) rfl) (by show _ < 384; omega) (by decide) ?_
    refine xa_if_eq (pc := 166) 173 dX8_look_166 (by decide) (fun h166 => ?_) (fun h166 => ?_)
    · refine xa_iconst (pc := 173) (v := 0) dX8_look_173 (by decide) ?_
      refine xa_iadd (pc := 174) dX8_look_174 ?_
      refine xa_istore_n (pc := 175) dX8_look_175 (by decide) ?_
      refine xa_iinc (pc := 176) (v := nI (x + 1)) dX8_look_176 rfl (by decide) (nI_1 _) ?_
      refine xa_goto (pc := 179) (tgt := 144) dX8_look_179 (by decide) ?_
      exact xa_fgk (ih (by omega)) (And.intro rfl (And.intro rfl (And.intro rfl (And.intro (congrArg (fun z => some (Value.int z)) (by rw [xa_ct, if_neg (by simp [lk_r, h166])]; exact (xa_pa rfl rfl))) (And.intro rfl trivial)))))
    · refine xa_iconst (pc := 169) (v := 1) dX8_look_169 (by decide) ?_
      refine xa_goto (pc := 170) (tgt := 174) dX8_look_170 (by decide) ?_
      refine xa_iadd (pc := 174) dX8_look_174 ?_
      refine xa_istore_n (pc := 175) dX8_look_175 (by decide) ?_
      refine xa_iinc (pc := 176) (v := nI (x + 1)) dX8_look_176 rfl (by decide) (nI_1 _) ?_
      refine xa_goto (pc := 179) (tgt := 144) dX8_look_179 (by decide) ?_
      exact xa_fgk (ih (by omega)) (And.intro rfl (And.intro rfl (And.intro rfl (And.intro (congrArg (fun z => some (Value.int z)) (by rw [xa_ct, if_pos (by simp [lk_r, h166])]; exact (xa_pa rfl rfl))) (And.intro rfl trivial)))))
set_option maxHeartbeats 4000000 in
theorem lm_look202 (E : xa_EV) (S : xa_AH) {nh ns h : Nat} (hW : xm_wf nh ns S) (hh : h < 12) (n : Int32) : ∀ x, x ≤ 16 → xa_W E mX8_look (xa_Z E mX8_look xm_L (xa_pR (.int (nI (xa_ct (lk_a S h) 16))) S xm_R)) 0 0 202 [some (.ref 130), some (.int (nI h)), some (.int n), some (.int (nI (xa_ct (lk_a S h) x))), some (.int (nI x))] [] xm_L S xm_R := by
  refine xa_dn (fun x hxl ih => ?_)
  obtain ⟨w1, w2, w3, w4, w5⟩ := id hW
  have ctl := xa_ct_le (lk_a S h) x
  refine xa_iload (pc := 202) dX8_look_202 rfl ?_
  refine xa_bipush (pc := 204) (v := 16) dX8_look_204 (by decide) ?_
  refine xa_icmpN_ge (pc := 206) 238 x 16 dX8_look_206 (by decide) rfl rfl (by omega) (by omega) (fun h206 => ?_) (fun h206 => ?_)
  · have g206 : ¬ (x < 16) := by omega
    refine xa_iload_n (pc := 238) dX8_look_238 rfl ?_
    have ex9 : x = 16 := by omega
    subst ex9
    exact xa_zret dX8_look_239 rfl rfl ⟨rfl, rfl, rfl⟩
  · refine xa_iload_n (pc := 209) dX8_look_209 rfl ?_
    refine xa_aload_n (pc := 210) dX8_look_210 rfl ?_
    refine xa_getA (pc := 211) 8 33 164 lfX8_104 dX8_look_211 xm_o rfl rfl rfl ?_
    refine xa_bipush (pc := 214) (v := 16) dX8_look_214 (by decide) ?_
    refine xa_iload_n (pc := 216) dX8_look_216 rfl ?_
    refine xa_imul (pc := 217) dX8_look_217 ?_
    refine xa_iload (pc := 218) dX8_look_218 rfl ?_
    refine xa_iadd (pc := 220) dX8_look_220 ?_
    refine xa_zaldN (pc := 221) ((16 * h) + x) dX8_look_221 xm_164 rfl (xa_pa (xa_pm rfl rfl) rfl) (by show _ < 192; omega) (by decide) ?_
    refine xa_if_eq (pc := 222) 229 dX8_look_222 (by decide) (fun h222 => ?_) (fun h222 => ?_)
    · refine xa_iconst (pc := 229) (v := 0) dX8_look_229 (by decide) ?_
      refine xa_iadd (pc := 230) dX8_look_230 ?_
      refine xa_istore_n (pc := 231) dX8_look_231 (by decide) ?_
      refine xa_iinc (pc := 232) (v := nI (x + 1)) dX8_look_232 rfl (by decide) (nI_1 _) ?_
      refine xa_goto (pc := 235) (tgt := 202) dX8_look_235 (by decide) ?_
      exact xa_fgk (ih (by omega)) (And.intro rfl (And.intro rfl (And.intro rfl (And.intro (congrArg (fun z => some (Value.int z)) (by rw [xa_ct, if_neg (by simp [lk_a, h222])]; exact (xa_pa rfl rfl))) (And.intro rfl trivial)))))
    · refine xa_iconst (pc := 225) (v := 1) dX8_look_225 (by decide) ?_
      refine xa_goto (pc := 226) (tgt := 230) dX8_look_226 (by decide) ?_
      refine xa_iadd (pc := 230) dX8_look_230 ?_
      refine xa_istore_n (pc := 231) dX8_look_231 (by decide) ?_
      refine xa_iinc (pc := 232) (v := nI (x + 1)) dX8_look_232 rfl (by decide) (nI_1 _) ?_
      refine xa_goto (pc := 235) (tgt := 202) dX8_look_235 (by decide) ?_
      exact xa_fgk (ih (by omega)) (And.intro rfl (And.intro rfl (And.intro rfl (And.intro (congrArg (fun z => some (Value.int z)) (by rw [xa_ct, if_pos (by simp [lk_a, h222])]; exact (xa_pa rfl rfl))) (And.intro rfl trivial)))))
set_option maxHeartbeats 4000000 in
theorem lm_look243 (E : xa_EV) (S : xa_AH) {nh ns h : Nat} (hW : xm_wf nh ns S) (hh : h < 12) (n : Int32) : ∀ x, x ≤ ns → xa_W E mX8_look (xa_Z E mX8_look xm_L (xa_pR (.int (nI (xa_ct (lk_n S h) ns))) S xm_R)) 0 0 243 [some (.ref 130), some (.int (nI h)), some (.int n), some (.int (nI (xa_ct (lk_n S h) x))), some (.int (nI x))] [] xm_L S xm_R := by
  refine xa_dn (fun x hxl ih => ?_)
  obtain ⟨w1, w2, w3, w4, w5⟩ := id hW
  have ctl := xa_ct_le (lk_n S h) x
  refine xa_iload (pc := 243) dX8_look_243 rfl ?_
  refine xa_aload_n (pc := 245) dX8_look_245 rfl ?_
  refine xa_getI (pc := 246) 8 26 lfX8_170 dX8_look_246 xm_o rfl rfl ?_
  refine xa_icmpN_ge (pc := 249) 282 x ns dX8_look_249 (by decide) rfl w4 (by omega) (by omega) (fun h249 => ?_) (fun h249 => ?_)
  · have g249 : ¬ (x < ns) := by omega
    refine xa_iload_n (pc := 282) dX8_look_282 rfl ?_
    have ex9 : x = ns := by omega
    subst ex9
    exact xa_zret dX8_look_283 rfl rfl ⟨rfl, rfl, rfl⟩
  · refine xa_iload_n (pc := 252) dX8_look_252 rfl ?_
    refine xa_aload_n (pc := 253) dX8_look_253 rfl ?_
    refine xa_getA (pc := 254) 8 32 163 lfX8_101 dX8_look_254 xm_o rfl rfl rfl ?_
    refine xa_bipush (pc := 257) (v := 32) dX8_look_257 (by decide) ?_
    refine xa_iload_n (pc := 259) dX8_look_259 rfl ?_
    refine xa_imul (pc := 260) dX8_look_260 ?_
    refine xa_iload (pc := 261) dX8_look_261 rfl ?_
    refine xa_iadd (pc := 263) dX8_look_263 ?_
    refine xa_ialdN (pc := 264) ((32 * h) + x) dX8_look_264 xm_163 rfl (xa_pa (xa_pm rfl rfl) rfl) (by show _ < 384; omega) (by decide) ?_
    refine xa_iconst (pc := 265) (v := (-1)) dX8_look_265 (by decide) ?_
    refine xa_icmp_eq (pc := 266) 273 dX8_look_266 (by decide) (fun h266 => ?_) (fun h266 => ?_)
    · refine xa_iconst (pc := 273) (v := 0) dX8_look_273 (by decide) ?_
      refine xa_iadd (pc := 274) dX8_look_274 ?_
      refine xa_istore_n (pc := 275) dX8_look_275 (by decide) ?_
      refine xa_iinc (pc := 276) (v := nI (x + 1)) dX8_look_276 rfl (by decide) (nI_1 _) ?_
      refine xa_goto (pc := 279) (tgt := 243) dX8_look_279 (by decide) ?_
      exact xa_fgk (ih (by omega)) (And.intro rfl (And.intro rfl (And.intro rfl (And.intro (congrArg (fun z => some (Value.int z)) (by rw [xa_ct, if_neg (by simp [lk_n, h266])]; exact (xa_pa rfl rfl))) (And.intro rfl trivial)))))
    · refine xa_iconst (pc := 269) (v := 1) dX8_look_269 (by decide) ?_
      refine xa_goto (pc := 270) (tgt := 274) dX8_look_270 (by decide) ?_
      refine xa_iadd (pc := 274) dX8_look_274 ?_
      refine xa_istore_n (pc := 275) dX8_look_275 (by decide) ?_
      refine xa_iinc (pc := 276) (v := nI (x + 1)) dX8_look_276 rfl (by decide) (nI_1 _) ?_
      refine xa_goto (pc := 279) (tgt := 243) dX8_look_279 (by decide) ?_
      exact xa_fgk (ih (by omega)) (And.intro rfl (And.intro rfl (And.intro rfl (And.intro (congrArg (fun z => some (Value.int z)) (by rw [xa_ct, if_pos (by simp [lk_n, h266])]; exact (xa_pa rfl rfl))) (And.intro rfl trivial)))))
set_option maxHeartbeats 4000000 in
theorem cm_look (E : xa_EV) (S : xa_AH) {nh ns : Nat} (hW : xm_wf nh ns S) (hP : ∀ h, h < nh → S 136 h = 1 → vp_in (S 141 h) nh) (v n : Int32) : xa_Ct E mX8_look [.ref 130, .int v, .int n] xm_L S xm_R (xa_pR (.int (xm_look nh ns S v n)) S xm_R) := by
  refine xa_Ct.of [some (.ref 130), some (.int v), some (.int n), none, none] rfl (Nat.le_of_ble_eq_true rfl) (by simp [Value.category]) rfl ?_
  obtain ⟨w1, w2, w3, w4, w5⟩ := id hW
  refine xa_aload_n (pc := 0) dX8_look_0 rfl ?_
  refine xa_iload_n (pc := 1) dX8_look_1 rfl ?_
  refine xa_callV (pc := 2) xm_o rfl rfl lcX8_163 dX8_look_2 (cm_isHost E _ hW _) rfl rfl (by decide) (Nat.le_of_ble_eq_true rfl) (by decide) ?_
  rintro _ _ _ ⟨rfl, rfl, rfl⟩
  refine xa_if_ne (pc := 5) 10 dX8_look_5 (by decide) (fun h5 => ?_) (fun h5 => ?_)
  · have h5 := xa_b_n0.mp h5
    have hv1 := (xm_isH_t (by omega)).mp h5
    have hb1 : xc v < nh := xa_in_lt hv1
    refine xa_iconst (pc := 10) (v := 0) dX8_look_10 (by decide) ?_
    refine xa_istore_n (pc := 11) dX8_look_11 (by decide) ?_
    refine xa_iload_n (pc := 12) dX8_look_12 rfl ?_
    by_cases s13_0 : n = 0
    · refine xa_tableIn (pc := 13) (x := n) 64 dX8_look_13 (by rw [s13_0]; decide) (by rw [s13_0]; decide) (by rw [s13_0]; rfl) (by decide) ?_
      refine xa_aload_n (pc := 64) dX8_look_64 rfl ?_
      refine xa_getA (pc := 65) 8 6 137 lfX8_28 dX8_look_65 xm_o rfl rfl rfl ?_
      refine xa_iload_n (pc := 68) dX8_look_68 rfl ?_
      refine xa_zaldN (pc := 69) (xc v) dX8_look_69 xm_137 rfl (xa_in_eq hv1) (by show _ < 12; omega) (by decide) ?_
      refine xa_if_eq (pc := 70) 77 dX8_look_70 (by decide) (fun h70 => ?_) (fun h70 => ?_)
      · refine xa_aload_n (pc := 77) dX8_look_77 rfl ?_
        refine xa_getA (pc := 78) 8 5 136 lfX8_25 dX8_look_78 xm_o rfl rfl rfl ?_
        refine xa_iload_n (pc := 81) dX8_look_81 rfl ?_
        refine xa_ialdN (pc := 82) (xc v) dX8_look_82 xm_136 rfl (xa_in_eq hv1) (by show _ < 12; omega) (by decide) ?_
        rw [show xm_look nh ns S v n = _ from if_pos h5, show xm_lk ns S v n = _ by unfold xm_lk; rw [if_pos s13_0, if_pos h70]]
        exact xa_zret dX8_look_83 rfl rfl ⟨rfl, rfl, rfl⟩
      · refine xa_iconst (pc := 73) (v := 3) dX8_look_73 (by decide) ?_
        refine xa_goto (pc := 74) (tgt := 83) dX8_look_74 (by decide) ?_
        rw [show xm_look nh ns S v n = _ from if_pos h5, show xm_lk ns S v n = _ by unfold xm_lk; rw [if_pos s13_0, if_neg h70]]
        exact xa_zret dX8_look_83 rfl rfl ⟨rfl, rfl, rfl⟩
    by_cases s13_1 : n = 1
    · refine xa_tableIn (pc := 13) (x := n) 84 dX8_look_13 (by rw [s13_1]; decide) (by rw [s13_1]; decide) (by rw [s13_1]; rfl) (by decide) ?_
      refine xa_aload_n (pc := 84) dX8_look_84 rfl ?_
      refine xa_getA (pc := 85) 8 0 131 lfX8_9 dX8_look_85 xm_o rfl rfl rfl ?_
      refine xa_iload_n (pc := 88) dX8_look_88 rfl ?_
      refine xa_ialdN (pc := 89) (xc v) dX8_look_89 xm_131 rfl (xa_in_eq hv1) (by show _ < 12; omega) (by decide) ?_
      rw [show xm_look nh ns S v n = _ from if_pos h5, show xm_lk ns S v n = _ by unfold xm_lk; rw [if_neg s13_0, if_pos s13_1]]
      exact xa_zret dX8_look_90 rfl rfl ⟨rfl, rfl, rfl⟩
    by_cases s13_2 : n = 2
    · refine xa_tableIn (pc := 13) (x := n) 91 dX8_look_13 (by rw [s13_2]; decide) (by rw [s13_2]; decide) (by rw [s13_2]; rfl) (by decide) ?_
      refine xa_aload_n (pc := 91) dX8_look_91 rfl ?_
      refine xa_getA (pc := 92) 8 1 132 lfX8_13 dX8_look_92 xm_o rfl rfl rfl ?_
      refine xa_iload_n (pc := 95) dX8_look_95 rfl ?_
      refine xa_ialdN (pc := 96) (xc v) dX8_look_96 xm_132 rfl (xa_in_eq hv1) (by show _ < 12; omega) (by decide) ?_
      rw [show xm_look nh ns S v n = _ from if_pos h5, show xm_lk ns S v n = _ by unfold xm_lk; rw [if_neg s13_0, if_neg s13_1, if_pos s13_2]]
      exact xa_zret dX8_look_97 rfl rfl ⟨rfl, rfl, rfl⟩
    by_cases s13_3 : n = 3
    · refine xa_tableIn (pc := 13) (x := n) 98 dX8_look_13 (by rw [s13_3]; decide) (by rw [s13_3]; decide) (by rw [s13_3]; rfl) (by decide) ?_
      refine xa_aload_n (pc := 98) dX8_look_98 rfl ?_
      refine xa_getA (pc := 99) 8 5 136 lfX8_25 dX8_look_99 xm_o rfl rfl rfl ?_
      refine xa_iload_n (pc := 102) dX8_look_102 rfl ?_
      refine xa_ialdN (pc := 103) (xc v) dX8_look_103 xm_136 rfl (xa_in_eq hv1) (by show _ < 12; omega) (by decide) ?_
      refine xa_iconst (pc := 104) (v := 1) dX8_look_104 (by decide) ?_
      refine xa_icmp_ne (pc := 105) 132 dX8_look_105 (by decide) (fun h105 => ?_) (fun h105 => ?_)
      · refine xa_iconst (pc := 132) (v := (-1)) dX8_look_132 (by decide) ?_
        rw [show xm_look nh ns S v n = _ from if_pos h5, show xm_lk ns S v n = _ by unfold xm_lk; rw [if_neg s13_0, if_neg s13_1, if_neg s13_2, if_pos s13_3, if_neg h105]]
        exact xa_zret dX8_look_133 rfl rfl ⟨rfl, rfl, rfl⟩
      · refine xa_aload_n (pc := 108) dX8_look_108 rfl ?_
        refine xa_getA (pc := 109) 8 5 136 lfX8_25 dX8_look_109 xm_o rfl rfl rfl ?_
        refine xa_aload_n (pc := 112) dX8_look_112 rfl ?_
        refine xa_getA (pc := 113) 8 10 141 lfX8_41 dX8_look_113 xm_o rfl rfl rfl ?_
        refine xa_iload_n (pc := 116) dX8_look_116 rfl ?_
        refine xa_ialdN (pc := 117) (xc v) dX8_look_117 xm_141 rfl (xa_in_eq hv1) (by show _ < 12; omega) (by decide) ?_
        have hpv := hP _ hb1 h105
        have hpb : xc (S 141 (xc v)) < nh := xa_in_lt hpv
        refine xa_ialdN (pc := 118) (xc (S 141 (xc v))) dX8_look_118 xm_136 rfl (xa_in_eq hpv) (by show _ < 12; omega) (by decide) ?_
        refine xa_iconst (pc := 119) (v := 2) dX8_look_119 (by decide) ?_
        refine xa_icmp_ne (pc := 120) 132 dX8_look_120 (by decide) (fun h120 => ?_) (fun h120 => ?_)
        · refine xa_iconst (pc := 132) (v := (-1)) dX8_look_132 (by decide) ?_
          rw [show xm_look nh ns S v n = _ from if_pos h5, show xm_lk ns S v n = _ by unfold xm_lk; rw [if_neg s13_0, if_neg s13_1, if_neg s13_2, if_pos s13_3, if_pos h105, if_neg h120]]
          exact xa_zret dX8_look_133 rfl rfl ⟨rfl, rfl, rfl⟩
        · refine xa_aload_n (pc := 123) dX8_look_123 rfl ?_
          refine xa_getA (pc := 124) 8 10 141 lfX8_41 dX8_look_124 xm_o rfl rfl rfl ?_
          refine xa_iload_n (pc := 127) dX8_look_127 rfl ?_
          refine xa_ialdN (pc := 128) (xc v) dX8_look_128 xm_141 rfl (xa_in_eq hv1) (by show _ < 12; omega) (by decide) ?_
          refine xa_goto (pc := 129) (tgt := 133) dX8_look_129 (by decide) ?_
          rw [show xm_look nh ns S v n = _ from if_pos h5, show xm_lk ns S v n = _ by unfold xm_lk; rw [if_neg s13_0, if_neg s13_1, if_neg s13_2, if_pos s13_3, if_pos h105, if_pos h120]]
          exact xa_zret dX8_look_133 rfl rfl ⟨rfl, rfl, rfl⟩
    by_cases s13_4 : n = 4
    · refine xa_tableIn (pc := 13) (x := n) 134 dX8_look_13 (by rw [s13_4]; decide) (by rw [s13_4]; decide) (by rw [s13_4]; rfl) (by decide) ?_
      refine xa_aload_n (pc := 134) dX8_look_134 rfl ?_
      refine xa_getA (pc := 135) 8 11 142 lfX8_44 dX8_look_135 xm_o rfl rfl rfl ?_
      refine xa_iload_n (pc := 138) dX8_look_138 rfl ?_
      refine xa_ialdN (pc := 139) (xc v) dX8_look_139 xm_142 rfl (xa_in_eq hv1) (by show _ < 12; omega) (by decide) ?_
      rw [show xm_look nh ns S v n = _ from if_pos h5, show xm_lk ns S v n = _ by unfold xm_lk; rw [if_neg s13_0, if_neg s13_1, if_neg s13_2, if_neg s13_3, if_pos s13_4]]
      exact xa_zret dX8_look_140 rfl rfl ⟨rfl, rfl, rfl⟩
    by_cases s13_5 : n = 5
    · refine xa_tableIn (pc := 13) (x := n) 141 dX8_look_13 (by rw [s13_5]; decide) (by rw [s13_5]; decide) (by rw [s13_5]; rfl) (by decide) ?_
      refine xa_iconst (pc := 141) (v := 0) dX8_look_141 (by decide) ?_
      refine xa_istore (pc := 142) dX8_look_142 (by decide) ?_
      rw [show xm_look nh ns S v n = _ from if_pos h5, show xm_lk ns S v n = _ by unfold xm_lk; rw [if_neg s13_0, if_neg s13_1, if_neg s13_2, if_neg s13_3, if_neg s13_4, if_pos s13_5]]
      exact xa_fgk (lm_look144 E S hW (h := xc v) (by omega) n 0 (Nat.zero_le _)) (And.intro rfl (And.intro (congrArg (fun z => some (Value.int z)) (xa_in_eq hv1)) (And.intro rfl (And.intro rfl (And.intro rfl trivial)))))
    by_cases s13_6 : n = 6
    · refine xa_tableIn (pc := 13) (x := n) 184 dX8_look_13 (by rw [s13_6]; decide) (by rw [s13_6]; decide) (by rw [s13_6]; rfl) (by decide) ?_
      refine xa_aload_n (pc := 184) dX8_look_184 rfl ?_
      refine xa_getA (pc := 185) 8 7 138 lfX8_32 dX8_look_185 xm_o rfl rfl rfl ?_
      refine xa_iload_n (pc := 188) dX8_look_188 rfl ?_
      refine xa_zaldN (pc := 189) (xc v) dX8_look_189 xm_138 rfl (xa_in_eq hv1) (by show _ < 12; omega) (by decide) ?_
      refine xa_if_eq (pc := 190) 197 dX8_look_190 (by decide) (fun h190 => ?_) (fun h190 => ?_)
      · refine xa_iconst (pc := 197) (v := 0) dX8_look_197 (by decide) ?_
        rw [show xm_look nh ns S v n = _ from if_pos h5, show xm_lk ns S v n = _ by unfold xm_lk; rw [if_neg s13_0, if_neg s13_1, if_neg s13_2, if_neg s13_3, if_neg s13_4, if_neg s13_5, if_pos s13_6, if_pos h190]]
        exact xa_zret dX8_look_198 rfl rfl ⟨rfl, rfl, rfl⟩
      · refine xa_iconst (pc := 193) (v := 1) dX8_look_193 (by decide) ?_
        refine xa_goto (pc := 194) (tgt := 198) dX8_look_194 (by decide) ?_
        rw [show xm_look nh ns S v n = _ from if_pos h5, show xm_lk ns S v n = _ by unfold xm_lk; rw [if_neg s13_0, if_neg s13_1, if_neg s13_2, if_neg s13_3, if_neg s13_4, if_neg s13_5, if_pos s13_6, if_neg h190]]
        exact xa_zret dX8_look_198 rfl rfl ⟨rfl, rfl, rfl⟩
    by_cases s13_7 : n = 7
    · refine xa_tableIn (pc := 13) (x := n) 199 dX8_look_13 (by rw [s13_7]; decide) (by rw [s13_7]; decide) (by rw [s13_7]; rfl) (by decide) ?_
      refine xa_iconst (pc := 199) (v := 0) dX8_look_199 (by decide) ?_
      refine xa_istore (pc := 200) dX8_look_200 (by decide) ?_
      rw [show xm_look nh ns S v n = _ from if_pos h5, show xm_lk ns S v n = _ by unfold xm_lk; rw [if_neg s13_0, if_neg s13_1, if_neg s13_2, if_neg s13_3, if_neg s13_4, if_neg s13_5, if_neg s13_6, if_pos s13_7]]
      exact xa_fgk (lm_look202 E S hW (h := xc v) (by omega) n 0 (Nat.zero_le _)) (And.intro rfl (And.intro (congrArg (fun z => some (Value.int z)) (xa_in_eq hv1)) (And.intro rfl (And.intro rfl (And.intro rfl trivial)))))
    by_cases s13_8 : n = 8
    · refine xa_tableIn (pc := 13) (x := n) 240 dX8_look_13 (by rw [s13_8]; decide) (by rw [s13_8]; decide) (by rw [s13_8]; rfl) (by decide) ?_
      refine xa_iconst (pc := 240) (v := 0) dX8_look_240 (by decide) ?_
      refine xa_istore (pc := 241) dX8_look_241 (by decide) ?_
      rw [show xm_look nh ns S v n = _ from if_pos h5, show xm_lk ns S v n = _ by unfold xm_lk; rw [if_neg s13_0, if_neg s13_1, if_neg s13_2, if_neg s13_3, if_neg s13_4, if_neg s13_5, if_neg s13_6, if_neg s13_7, if_pos s13_8]]
      exact xa_fgk (lm_look243 E S hW (h := xc v) (by omega) n 0 (Nat.zero_le _)) (And.intro rfl (And.intro (congrArg (fun z => some (Value.int z)) (xa_in_eq hv1)) (And.intro rfl (And.intro rfl (And.intro rfl trivial)))))
    refine xa_tableOut (pc := 13) (x := n) 284 dX8_look_13 (by have q0 : n.toInt ≠ 0 := (fun e => s13_0 (Int32.toInt_inj.mp e)); have q1 : n.toInt ≠ 1 := (fun e => s13_1 (Int32.toInt_inj.mp e)); have q2 : n.toInt ≠ 2 := (fun e => s13_2 (Int32.toInt_inj.mp e)); have q3 : n.toInt ≠ 3 := (fun e => s13_3 (Int32.toInt_inj.mp e)); have q4 : n.toInt ≠ 4 := (fun e => s13_4 (Int32.toInt_inj.mp e)); have q5 : n.toInt ≠ 5 := (fun e => s13_5 (Int32.toInt_inj.mp e)); have q6 : n.toInt ≠ 6 := (fun e => s13_6 (Int32.toInt_inj.mp e)); have q7 : n.toInt ≠ 7 := (fun e => s13_7 (Int32.toInt_inj.mp e)); have q8 : n.toInt ≠ 8 := (fun e => s13_8 (Int32.toInt_inj.mp e)); omega) (by decide) ?_
    refine xa_iconst (pc := 284) (v := (-1)) dX8_look_284 (by decide) ?_
    rw [show xm_look nh ns S v n = _ from if_pos h5, show xm_lk ns S v n = _ by unfold xm_lk; rw [if_neg s13_0, if_neg s13_1, if_neg s13_2, if_neg s13_3, if_neg s13_4, if_neg s13_5, if_neg s13_6, if_neg s13_7, if_neg s13_8]]
    exact xa_zret dX8_look_285 rfl rfl ⟨rfl, rfl, rfl⟩
  · have h5 := xa_b_0.mp h5
    refine xa_iconst (pc := 8) (v := (-1)) dX8_look_8 (by decide) ?_
    rw [show xm_look nh ns S v n = _ from if_neg (by rw [h5]; decide)]
    exact xa_zret dX8_look_9 rfl rfl ⟨rfl, rfl, rfl⟩
def xm_rch (S : xa_AH) (h s : Int32) : Int32 × xa_AH := if S 151 (xc s) = 2 then (if S 148 (xc s) = S 159 (32 * xc h + xc s) then (if S 136 (xc (S 146 (xc s))) = 2 then (1, S) else if S 136 (xc (S 146 (xc s))) = 1 then (if S 136 (xc (S 141 (xc (S 146 (xc s))))) = 2 then (2, xa_up (xm_wakes S (xc (S 146 (xc s)))) 130 42 (S 130 42 + 1)) else (0, S)) else (0, S)) else (0, S)) else (0, S)
def xm_reach (nh ns : Nat) (S : xa_AH) (h s : Int32) : Int32 × xa_AH := if (xm_aw nh S h && (xm_isH ns s && decide (¬ S 158 (32 * xc h + xc s) = 0))) = true then xm_rch S h s else (-1, S)
set_option maxHeartbeats 4000000 in
theorem cm_reach (E : xa_EV) (S : xa_AH) {nh ns : Nat} (hW : xm_wf nh ns S) (hP : ∀ h, h < nh → S 136 h = 1 → vp_in (S 141 h) nh) (h s : Int32) : xa_Ct E mX8_reach [.ref 130, .int h, .int s] xm_L S xm_R (xa_pR (.int (xm_reach nh ns S h s).1) (xm_reach nh ns S h s).2 xm_R) := by
  refine xa_Ct.of [some (.ref 130), some (.int h), some (.int s), none] rfl (Nat.le_of_ble_eq_true rfl) (by simp [Value.category]) rfl ?_
  obtain ⟨w1, w2, w3, w4, w5⟩ := id hW
  refine xa_aload_n (pc := 0) dX8_reach_0 rfl ?_
  refine xa_iload_n (pc := 1) dX8_reach_1 rfl ?_
  refine xa_callV (pc := 2) xm_o rfl rfl lcX8_167 dX8_reach_2 (cm_isAwake E _ hW _) rfl rfl (by decide) (Nat.le_of_ble_eq_true rfl) (by decide) ?_
  rintro _ _ _ ⟨rfl, rfl, rfl⟩
  refine xa_if_eq (pc := 5) 30 dX8_reach_5 (by decide) (fun h5 => ?_) (fun h5 => ?_)
  · have h5 := xa_b_0.mp h5
    refine xa_iconst (pc := 30) (v := (-1)) dX8_reach_30 (by decide) ?_
    rw [show xm_reach nh ns S h s = _ from if_neg (by simp [h5])]
    exact xa_zret dX8_reach_31 rfl rfl ⟨rfl, rfl, rfl⟩
  · have h5 := xa_b_n0.mp h5
    refine xa_aload_n (pc := 8) dX8_reach_8 rfl ?_
    refine xa_iload_n (pc := 9) dX8_reach_9 rfl ?_
    refine xa_callV (pc := 10) xm_o rfl rfl lcX8_194 dX8_reach_10 (cm_isService E _ hW _) rfl rfl (by decide) (Nat.le_of_ble_eq_true rfl) (by decide) ?_
    rintro _ _ _ ⟨rfl, rfl, rfl⟩
    refine xa_if_eq (pc := 13) 30 dX8_reach_13 (by decide) (fun h13 => ?_) (fun h13 => ?_)
    · have h13 := xa_b_0.mp h13
      refine xa_iconst (pc := 30) (v := (-1)) dX8_reach_30 (by decide) ?_
      rw [show xm_reach nh ns S h s = _ from if_neg (by simp [h5, h13])]
      exact xa_zret dX8_reach_31 rfl rfl ⟨rfl, rfl, rfl⟩
    · have h13 := xa_b_n0.mp h13
      have hv1 := (xm_isH_t (by omega)).mp (Bool.and_eq_true _ _ ▸ h5 : xm_isH nh h = true ∧ _).1
      have hb1 : xc h < nh := xa_in_lt hv1
      have hv2 := (xm_isH_t (by omega)).mp h13
      have hb2 : xc s < ns := xa_in_lt hv2
      have hbo : (xc (S 146 (xc s))) < nh := xa_in_lt (w5 _ hb2)
      refine xa_aload_n (pc := 16) dX8_reach_16 rfl ?_
      refine xa_getA (pc := 17) 8 27 158 lfX8_86 dX8_reach_17 xm_o rfl rfl rfl ?_
      refine xa_bipush (pc := 20) (v := 32) dX8_reach_20 (by decide) ?_
      refine xa_iload_n (pc := 22) dX8_reach_22 rfl ?_
      refine xa_imul (pc := 23) dX8_reach_23 ?_
      refine xa_iload_n (pc := 24) dX8_reach_24 rfl ?_
      refine xa_iadd (pc := 25) dX8_reach_25 ?_
      refine xa_zaldN (pc := 26) ((32 * (xc h)) + (xc s)) dX8_reach_26 xm_158 rfl (xa_pa (xa_pm rfl (xa_in_eq hv1)) (xa_in_eq hv2)) (by show _ < 384; omega) (by decide) ?_
      refine xa_if_ne (pc := 27) 32 dX8_reach_27 (by decide) (fun h27 => ?_) (fun h27 => ?_)
      · refine xa_aload_n (pc := 32) dX8_reach_32 rfl ?_
        refine xa_getA (pc := 33) 8 15 146 lfX8_53 dX8_reach_33 xm_o rfl rfl rfl ?_
        refine xa_iload_n (pc := 36) dX8_reach_36 rfl ?_
        refine xa_ialdN (pc := 37) (xc s) dX8_reach_37 xm_146 rfl (xa_in_eq hv2) (by show _ < 32; omega) (by decide) ?_
        refine xa_istore_n (pc := 38) dX8_reach_38 (by decide) ?_
        refine xa_aload_n (pc := 39) dX8_reach_39 rfl ?_
        refine xa_getA (pc := 40) 8 20 151 lfX8_68 dX8_reach_40 xm_o rfl rfl rfl ?_
        refine xa_iload_n (pc := 43) dX8_reach_43 rfl ?_
        refine xa_ialdN (pc := 44) (xc s) dX8_reach_44 xm_151 rfl (xa_in_eq hv2) (by show _ < 32; omega) (by decide) ?_
        refine xa_iconst (pc := 45) (v := 2) dX8_reach_45 (by decide) ?_
        refine xa_icmp_ne (pc := 46) 69 dX8_reach_46 (by decide) (fun h46 => ?_) (fun h46 => ?_)
        · refine xa_iconst (pc := 69) (v := 0) dX8_reach_69 (by decide) ?_
          rw [show xm_reach nh ns S h s = _ from if_pos (by simp [h5, h13, h27]), show xm_rch S h s = _ by unfold xm_rch; rw [if_neg h46]]
          exact xa_zret dX8_reach_70 rfl rfl ⟨rfl, rfl, rfl⟩
        · refine xa_aload_n (pc := 49) dX8_reach_49 rfl ?_
          refine xa_getA (pc := 50) 8 17 148 lfX8_59 dX8_reach_50 xm_o rfl rfl rfl ?_
          refine xa_iload_n (pc := 53) dX8_reach_53 rfl ?_
          refine xa_ialdN (pc := 54) (xc s) dX8_reach_54 xm_148 rfl (xa_in_eq hv2) (by show _ < 32; omega) (by decide) ?_
          refine xa_aload_n (pc := 55) dX8_reach_55 rfl ?_
          refine xa_getA (pc := 56) 8 28 159 lfX8_89 dX8_reach_56 xm_o rfl rfl rfl ?_
          refine xa_bipush (pc := 59) (v := 32) dX8_reach_59 (by decide) ?_
          refine xa_iload_n (pc := 61) dX8_reach_61 rfl ?_
          refine xa_imul (pc := 62) dX8_reach_62 ?_
          refine xa_iload_n (pc := 63) dX8_reach_63 rfl ?_
          refine xa_iadd (pc := 64) dX8_reach_64 ?_
          refine xa_ialdN (pc := 65) ((32 * (xc h)) + (xc s)) dX8_reach_65 xm_159 rfl (xa_pa (xa_pm rfl (xa_in_eq hv1)) (xa_in_eq hv2)) (by show _ < 384; omega) (by decide) ?_
          refine xa_icmp_eq (pc := 66) 71 dX8_reach_66 (by decide) (fun h66 => ?_) (fun h66 => ?_)
          · refine xa_aload_n (pc := 71) dX8_reach_71 rfl ?_
            refine xa_getA (pc := 72) 8 5 136 lfX8_25 dX8_reach_72 xm_o rfl rfl rfl ?_
            refine xa_iload_n (pc := 75) dX8_reach_75 rfl ?_
            refine xa_ialdN (pc := 76) (xc (S 146 (xc s))) dX8_reach_76 xm_136 rfl (xa_in_eq (w5 (xc s) (by omega))) (by show _ < 12; omega) (by decide) ?_
            refine xa_iconst (pc := 77) (v := 2) dX8_reach_77 (by decide) ?_
            refine xa_icmp_ne (pc := 78) 83 dX8_reach_78 (by decide) (fun h78 => ?_) (fun h78 => ?_)
            · refine xa_aload_n (pc := 83) dX8_reach_83 rfl ?_
              refine xa_getA (pc := 84) 8 5 136 lfX8_25 dX8_reach_84 xm_o rfl rfl rfl ?_
              refine xa_iload_n (pc := 87) dX8_reach_87 rfl ?_
              refine xa_ialdN (pc := 88) (xc (S 146 (xc s))) dX8_reach_88 xm_136 rfl (xa_in_eq (w5 (xc s) (by omega))) (by show _ < 12; omega) (by decide) ?_
              refine xa_iconst (pc := 89) (v := 1) dX8_reach_89 (by decide) ?_
              refine xa_icmp_ne (pc := 90) 108 dX8_reach_90 (by decide) (fun h90 => ?_) (fun h90 => ?_)
              · refine xa_iconst (pc := 108) (v := 0) dX8_reach_108 (by decide) ?_
                rw [show xm_reach nh ns S h s = _ from if_pos (by simp [h5, h13, h27]), show xm_rch S h s = _ by unfold xm_rch; rw [if_pos h46, if_pos h66, if_neg h78, if_neg h90]]
                exact xa_zret dX8_reach_109 rfl rfl ⟨rfl, rfl, rfl⟩
              · refine xa_aload_n (pc := 93) dX8_reach_93 rfl ?_
                refine xa_getA (pc := 94) 8 5 136 lfX8_25 dX8_reach_94 xm_o rfl rfl rfl ?_
                refine xa_aload_n (pc := 97) dX8_reach_97 rfl ?_
                refine xa_getA (pc := 98) 8 10 141 lfX8_41 dX8_reach_98 xm_o rfl rfl rfl ?_
                refine xa_iload_n (pc := 101) dX8_reach_101 rfl ?_
                refine xa_ialdN (pc := 102) (xc (S 146 (xc s))) dX8_reach_102 xm_141 rfl (xa_in_eq (w5 (xc s) (by omega))) (by show _ < 12; omega) (by decide) ?_
                have hpv := hP _ hbo h90
                have hpb : xc (S 141 (xc (S 146 (xc s)))) < nh := xa_in_lt hpv
                refine xa_ialdN (pc := 103) (xc (S 141 (xc (S 146 (xc s))))) dX8_reach_103 xm_136 rfl (xa_in_eq hpv) (by show _ < 12; omega) (by decide) ?_
                refine xa_iconst (pc := 104) (v := 2) dX8_reach_104 (by decide) ?_
                refine xa_icmp_eq (pc := 105) 110 dX8_reach_105 (by decide) (fun h105 => ?_) (fun h105 => ?_)
                · refine xa_aload_n (pc := 110) dX8_reach_110 rfl ?_
                  refine xa_iload_n (pc := 111) dX8_reach_111 rfl ?_
                  refine xa_callV (pc := 112) xm_o rfl rfl lcX8_208 dX8_reach_112 (cm_wakes E _ (h := (xc (S 146 (xc s)))) (xa_in_eq (w5 (xc s) (by omega))) (by omega)) rfl rfl (by decide) (Nat.le_of_ble_eq_true rfl) (by decide) ?_
                  rintro _ _ _ ⟨rfl, rfl, rfl⟩
                  refine xa_aload_n (pc := 115) dX8_reach_115 rfl ?_
                  refine xa_dup (pc := 116) dX8_reach_116 rfl ?_
                  refine xa_getI (pc := 117) 8 42 lfX8_221 dX8_reach_117 xm_o rfl rfl ?_
                  refine xa_iconst (pc := 120) (v := 1) dX8_reach_120 (by decide) ?_
                  refine xa_iadd (pc := 121) dX8_reach_121 ?_
                  refine xa_putI (pc := 122) 8 42 lpX8_221 dX8_reach_122 xm_o rfl rfl rfl rfl ?_
                  refine xa_iconst (pc := 125) (v := 2) dX8_reach_125 (by decide) ?_
                  rw [show xm_reach nh ns S h s = _ from if_pos (by simp [h5, h13, h27]), show xm_rch S h s = _ by unfold xm_rch; rw [if_pos h46, if_pos h66, if_neg h78, if_pos h90, if_pos h105]]
                  exact xa_zret dX8_reach_126 rfl rfl ⟨rfl, rfl, rfl⟩
                · refine xa_iconst (pc := 108) (v := 0) dX8_reach_108 (by decide) ?_
                  rw [show xm_reach nh ns S h s = _ from if_pos (by simp [h5, h13, h27]), show xm_rch S h s = _ by unfold xm_rch; rw [if_pos h46, if_pos h66, if_neg h78, if_pos h90, if_neg h105]]
                  exact xa_zret dX8_reach_109 rfl rfl ⟨rfl, rfl, rfl⟩
            · refine xa_iconst (pc := 81) (v := 1) dX8_reach_81 (by decide) ?_
              rw [show xm_reach nh ns S h s = _ from if_pos (by simp [h5, h13, h27]), show xm_rch S h s = _ by unfold xm_rch; rw [if_pos h46, if_pos h66, if_pos h78]]
              exact xa_zret dX8_reach_82 rfl rfl ⟨rfl, rfl, rfl⟩
          · refine xa_iconst (pc := 69) (v := 0) dX8_reach_69 (by decide) ?_
            rw [show xm_reach nh ns S h s = _ from if_pos (by simp [h5, h13, h27]), show xm_rch S h s = _ by unfold xm_rch; rw [if_pos h46, if_neg h66]]
            exact xa_zret dX8_reach_70 rfl rfl ⟨rfl, rfl, rfl⟩
      · refine xa_iconst (pc := 30) (v := (-1)) dX8_reach_30 (by decide) ?_
        rw [show xm_reach nh ns S h s = _ from if_neg (by simp [h5, h13, h27])]
        exact xa_zret dX8_reach_31 rfl rfl ⟨rfl, rfl, rfl⟩
