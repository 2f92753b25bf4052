def xm_serv (S : xa_AH) (v n : Int32) : Int32 := if n = 0 then S 151 (xc v) else if n = 1 then S 148 (xc v) else if n = 2 then (if S 151 (xc v) = 1 then S 152 (xc v) else 0) else if n = 3 then S 149 (xc v) else if n = 4 then S 146 (xc v) else if n = 5 then (if S 151 (xc v) = 2 then S 153 (xc v) else -1) else if n = 6 then (if S 155 (xc v) = 0 then 0 else 1) else if n = 7 then S 154 (xc v) else -1
def xm_service (ns : Nat) (S : xa_AH) (v n : Int32) : Int32 := if xm_isH ns v = true then xm_serv S v n else -1
set_option maxHeartbeats 4000000 in
theorem cx_service (E : xa_EV) {L : List Nat} {T : xa_AH} {R : xa_AR} {nh ns k : Nat} {pw : Nat → Nat} {S : xa_AH} (hX : RX nh ns k pw L T R S) (v n : Int32) : xa_Ct E mX7_service [.ref (ci 0 129), .int v, .int n] L T R (xa_pR (.int (xm_service ns S v n)) T R) := by
  refine xa_Ct.of [some (.ref (ci 0 129)), some (.int v), some (.int n), none] rfl (Nat.le_of_ble_eq_true rfl) (by simp [Value.category]) rfl ?_
  have n12 := hX.n12
  have n32 := hX.n32
  refine xa_aload_n (pc := 0) dX7_service_0 rfl ?_
  refine xa_iload_n (pc := 1) dX7_service_1 rfl ?_
  refine xa_callV (pc := 2) hX.c_m129 (kd_129 _) rfl lcX7_188 dX7_service_2 (cx_serviceAt E hX _) rfl rfl (by decide) (Nat.le_of_ble_eq_true rfl) (by decide) ?_
  rintro _ _ _ ⟨⟨hq2, rfl⟩ | ⟨hq2, rfl⟩, rfl, rfl⟩
  · refine xa_astore_n (pc := 5) dX7_service_5 (by decide) ?_
    refine xa_aload_n (pc := 6) dX7_service_6 rfl ?_
    refine xa_ifnonnull_ref (pc := 7) 12 dX7_service_7 (by decide) ?_
    refine xa_iload_n (pc := 12) dX7_service_12 rfl ?_
    by_cases s13_0 : n = 0
    · refine xa_tableIn (pc := 13) (x := n) 60 dX7_service_13 (by rw [s13_0]; decide) (by rw [s13_0]; decide) (by rw [s13_0]; rfl) (by decide) ?_
      refine xa_aload_n (pc := 60) dX7_service_60 rfl ?_
      refine xa_getIv (pc := 61) 5 7 _ lfX7_59 dX7_service_61 (hX.sM (isH_lt hX.s100 hq2)) (kd_128 _) rfl (hX.s_state (isH_lt hX.s100 hq2)) ?_
      rw [show xm_service ns S v n = _ from if_pos hq2, show xm_serv S v n = _ by unfold xm_serv; rw [if_pos s13_0]]
      exact xa_zret dX7_service_64 rfl rfl ⟨rfl, rfl, rfl⟩
    by_cases s13_1 : n = 1
    · refine xa_tableIn (pc := 13) (x := n) 65 dX7_service_13 (by rw [s13_1]; decide) (by rw [s13_1]; decide) (by rw [s13_1]; rfl) (by decide) ?_
      refine xa_aload_n (pc := 65) dX7_service_65 rfl ?_
      refine xa_getIv (pc := 66) 5 5 _ lfX7_201 dX7_service_66 (hX.sM (isH_lt hX.s100 hq2)) (kd_128 _) rfl (hX.s_name (isH_lt hX.s100 hq2)) ?_
      rw [show xm_service ns S v n = _ from if_pos hq2, show xm_serv S v n = _ by unfold xm_serv; rw [if_neg s13_0, if_pos s13_1]]
      exact xa_zret dX7_service_69 rfl rfl ⟨rfl, rfl, rfl⟩
    by_cases s13_2 : n = 2
    · refine xa_tableIn (pc := 13) (x := n) 70 dX7_service_13 (by rw [s13_2]; decide) (by rw [s13_2]; decide) (by rw [s13_2]; rfl) (by decide) ?_
      refine xa_aload_n (pc := 70) dX7_service_70 rfl ?_
      refine xa_getIv (pc := 71) 5 7 _ lfX7_59 dX7_service_71 (hX.sM (isH_lt hX.s100 hq2)) (kd_128 _) rfl (hX.s_state (isH_lt hX.s100 hq2)) ?_
      refine xa_iconst (pc := 74) (v := 1) dX7_service_74 (by decide) ?_
      refine xa_icmp_ne (pc := 75) 85 dX7_service_75 (by decide) (fun h75 => ?_) (fun h75 => ?_)
      · refine xa_iconst (pc := 85) (v := 0) dX7_service_85 (by decide) ?_
        rw [show xm_service ns S v n = _ from if_pos hq2, show xm_serv S v n = _ by unfold xm_serv; rw [if_neg s13_0, if_neg s13_1, if_pos s13_2, if_neg h75]]
        exact xa_zret dX7_service_86 rfl rfl ⟨rfl, rfl, rfl⟩
      · refine xa_aload_n (pc := 78) dX7_service_78 rfl ?_
        refine xa_getIv (pc := 79) 5 8 _ lfX7_203 dX7_service_79 (hX.sM (isH_lt hX.s100 hq2)) (kd_128 _) rfl (hX.s_claims (isH_lt hX.s100 hq2) (by assumption)) ?_
        refine xa_goto (pc := 82) (tgt := 86) dX7_service_82 (by decide) ?_
        rw [show xm_service ns S v n = _ from if_pos hq2, show xm_serv S v n = _ by unfold xm_serv; rw [if_neg s13_0, if_neg s13_1, if_pos s13_2, if_pos h75]]
        exact xa_zret dX7_service_86 rfl rfl ⟨rfl, rfl, rfl⟩
    by_cases s13_3 : n = 3
    · refine xa_tableIn (pc := 13) (x := n) 87 dX7_service_13 (by rw [s13_3]; decide) (by rw [s13_3]; decide) (by rw [s13_3]; rfl) (by decide) ?_
      refine xa_aload_n (pc := 87) dX7_service_87 rfl ?_
      refine xa_getIv (pc := 88) 5 6 _ lfX7_56 dX7_service_88 (hX.sM (isH_lt hX.s100 hq2)) (kd_128 _) rfl (hX.s_marks (isH_lt hX.s100 hq2)) ?_
      rw [show xm_service ns S v n = _ from if_pos hq2, show xm_serv S v n = _ by unfold xm_serv; rw [if_neg s13_0, if_neg s13_1, if_neg s13_2, if_pos s13_3]]
      exact xa_zret dX7_service_91 rfl rfl ⟨rfl, rfl, rfl⟩
    by_cases s13_4 : n = 4
    · refine xa_tableIn (pc := 13) (x := n) 92 dX7_service_13 (by rw [s13_4]; decide) (by rw [s13_4]; decide) (by rw [s13_4]; rfl) (by decide) ?_
      refine xa_aload_n (pc := 92) dX7_service_92 rfl ?_
      refine xa_getA (pc := 93) 5 1 (ci (xc (S 146 (xc v))) 0) lfX7_106 dX7_service_93 (hX.sM (isH_lt hX.s100 hq2)) (kd_128 _) rfl (hX.s_host (isH_lt hX.s100 hq2)) ?_
      refine xa_getIv (pc := 96) 3 0 _ lfX7_32 dX7_service_96 ((hX.hS (hX.hO (isH_lt hX.s100 hq2))).1 0 (by decide)) (kd_0 _) rfl (hX.h_number (hX.hO (isH_lt hX.s100 hq2))) ?_
      rw [show xm_service ns S v n = _ from if_pos hq2, show xm_serv S v n = _ by unfold xm_serv; rw [if_neg s13_0, if_neg s13_1, if_neg s13_2, if_neg s13_3, if_pos s13_4]]
      exact xa_zret dX7_service_99 rfl rfl ⟨congrArg (fun z => some (Value.int z)) (xa_in_eq (hX.xm_wf.2.2.2.2 _ (isH_lt hX.s100 hq2))), rfl, rfl⟩
    by_cases s13_5 : n = 5
    · refine xa_tableIn (pc := 13) (x := n) 100 dX7_service_13 (by rw [s13_5]; decide) (by rw [s13_5]; decide) (by rw [s13_5]; rfl) (by decide) ?_
      refine xa_aload_n (pc := 100) dX7_service_100 rfl ?_
      refine xa_getIv (pc := 101) 5 7 _ lfX7_59 dX7_service_101 (hX.sM (isH_lt hX.s100 hq2)) (kd_128 _) rfl (hX.s_state (isH_lt hX.s100 hq2)) ?_
      refine xa_iconst (pc := 104) (v := 2) dX7_service_104 (by decide) ?_
      refine xa_icmp_ne (pc := 105) 115 dX7_service_105 (by decide) (fun h105 => ?_) (fun h105 => ?_)
      · refine xa_iconst (pc := 115) (v := (-1)) dX7_service_115 (by decide) ?_
        rw [show xm_service ns S v n = _ from if_pos hq2, show xm_serv S v n = _ by unfold xm_serv; rw [if_neg s13_0, if_neg s13_1, if_neg s13_2, if_neg s13_3, if_neg s13_4, if_pos s13_5, if_neg h105]]
        exact xa_zret dX7_service_116 rfl rfl ⟨rfl, rfl, rfl⟩
      · refine xa_aload_n (pc := 108) dX7_service_108 rfl ?_
        refine xa_getIv (pc := 109) 5 9 _ lfX7_65 dX7_service_109 (hX.sM (isH_lt hX.s100 hq2)) (kd_128 _) rfl (hX.s_renewal (isH_lt hX.s100 hq2) (by assumption)) ?_
        refine xa_goto (pc := 112) (tgt := 116) dX7_service_112 (by decide) ?_
        rw [show xm_service ns S v n = _ from if_pos hq2, show xm_serv S v n = _ by unfold xm_serv; rw [if_neg s13_0, if_neg s13_1, if_neg s13_2, if_neg s13_3, if_neg s13_4, if_pos s13_5, if_pos h105]]
        exact xa_zret dX7_service_116 rfl rfl ⟨rfl, rfl, rfl⟩
    by_cases s13_6 : n = 6
    · refine xa_tableIn (pc := 13) (x := n) 117 dX7_service_13 (by rw [s13_6]; decide) (by rw [s13_6]; decide) (by rw [s13_6]; rfl) (by decide) ?_
      refine xa_aload_n (pc := 117) dX7_service_117 rfl ?_
      refine xa_getIv (pc := 118) 5 10 _ lfX7_109 dX7_service_118 (hX.sM (isH_lt hX.s100 hq2)) (kd_128 _) rfl (hX.s_hasBye (isH_lt hX.s100 hq2)) ?_
      refine xa_if_eq (pc := 121) 128 dX7_service_121 (by decide) (fun h121 => ?_) (fun h121 => ?_)
      · refine xa_iconst (pc := 128) (v := 0) dX7_service_128 (by decide) ?_
        rw [show xm_service ns S v n = _ from if_pos hq2, show xm_serv S v n = _ by unfold xm_serv; rw [if_neg s13_0, if_neg s13_1, if_neg s13_2, if_neg s13_3, if_neg s13_4, if_neg s13_5, if_pos s13_6, if_pos h121]]
        exact xa_zret dX7_service_129 rfl rfl ⟨rfl, rfl, rfl⟩
      · refine xa_iconst (pc := 124) (v := 1) dX7_service_124 (by decide) ?_
        refine xa_goto (pc := 125) (tgt := 129) dX7_service_125 (by decide) ?_
        rw [show xm_service ns S v n = _ from if_pos hq2, show xm_serv S v n = _ by unfold xm_serv; rw [if_neg s13_0, if_neg s13_1, if_neg s13_2, if_neg s13_3, if_neg s13_4, if_neg s13_5, if_pos s13_6, if_neg h121]]
        exact xa_zret dX7_service_129 rfl rfl ⟨rfl, rfl, rfl⟩
    by_cases s13_7 : n = 7
    · refine xa_tableIn (pc := 13) (x := n) 130 dX7_service_13 (by rw [s13_7]; decide) (by rw [s13_7]; decide) (by rw [s13_7]; rfl) (by decide) ?_
      refine xa_aload_n (pc := 130) dX7_service_130 rfl ?_
      refine xa_getIv (pc := 131) 5 11 _ lfX7_206 dX7_service_131 (hX.sM (isH_lt hX.s100 hq2)) (kd_128 _) rfl (hX.s_yielded (isH_lt hX.s100 hq2)) ?_
      rw [show xm_service ns S v n = _ from if_pos hq2, show xm_serv S v n = _ by unfold xm_serv; rw [if_neg s13_0, if_neg s13_1, if_neg s13_2, if_neg s13_3, if_neg s13_4, if_neg s13_5, if_neg s13_6, if_pos s13_7]]
      exact xa_zret dX7_service_134 rfl rfl ⟨rfl, rfl, rfl⟩
    refine xa_tableOut (pc := 13) (x := n) 135 dX7_service_13 (by have q0 : n.toInt ≠ 0 := (fun e => s13_0 (Int32.toInt_inj.mp e)); have q1 : n.toInt ≠ 1 := (fun e => s13_1 (Int32.toInt_inj.mp e)); have q2 : n.toInt ≠ 2 := (fun e => s13_2 (Int32.toInt_inj.mp e)); have q3 : n.toInt ≠ 3 := (fun e => s13_3 (Int32.toInt_inj.mp e)); have q4 : n.toInt ≠ 4 := (fun e => s13_4 (Int32.toInt_inj.mp e)); have q5 : n.toInt ≠ 5 := (fun e => s13_5 (Int32.toInt_inj.mp e)); have q6 : n.toInt ≠ 6 := (fun e => s13_6 (Int32.toInt_inj.mp e)); have q7 : n.toInt ≠ 7 := (fun e => s13_7 (Int32.toInt_inj.mp e)); omega) (by decide) ?_
    refine xa_iconst (pc := 135) (v := (-1)) dX7_service_135 (by decide) ?_
    rw [show xm_service ns S v n = _ from if_pos hq2, show xm_serv S v n = _ by unfold xm_serv; rw [if_neg s13_0, if_neg s13_1, if_neg s13_2, if_neg s13_3, if_neg s13_4, if_neg s13_5, if_neg s13_6, if_neg s13_7]]
    exact xa_zret dX7_service_136 rfl rfl ⟨rfl, rfl, rfl⟩
  · refine xa_astore_nN (pc := 5) dX7_service_5 (by decide) ?_
    refine xa_aload_nN (pc := 6) dX7_service_6 rfl ?_
    refine xa_ifnonnull_null (pc := 7) dX7_service_7 ?_
    refine xa_iconst (pc := 10) (v := (-1)) dX7_service_10 (by decide) ?_
    rw [show xm_service ns S v n = _ from if_neg (by rw [hq2]; decide)]
    exact xa_zret dX7_service_11 rfl rfl ⟨rfl, rfl, rfl⟩
